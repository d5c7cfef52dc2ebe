def RX0 : String := "IdleMoney$Account"
def TX0 : u_T := fun k => match k with
  | 0 => ("IdleMoney$Account", "kind", "I", false)
  | 1 => ("IdleMoney$Account", "address", "I", false)
  | 2 => ("IdleMoney$Account", "birth", "I", false)
  | 3 => ("IdleMoney$Account", "cents", "I", false)
  | 4 => ("IdleMoney$Account", "state", "I", false)
  | 5 => ("IdleMoney$Account", "age", "I", false)
  | 6 => ("IdleMoney$Account", "since", "I", false)
  | 7 => ("IdleMoney$Account", "letterCount", "I", false)
  | 8 => ("IdleMoney$Account", "letterMonth", "I", false)
  | 9 => ("IdleMoney$Account", "holder", "I", false)
  | 10 => ("IdleMoney$Account", "handedMonth", "I", false)
  | 11 => ("IdleMoney$Account", "nameless", "Z", false)
  | 12 => ("IdleMoney$Account", "broughtIn", "J", false)
  | 13 => ("IdleMoney$Account", "credited", "J", false)
  | 14 => ("IdleMoney$Account", "paidOut", "J", false)
  | 15 => ("IdleMoney$Account", "letterCents", "J", false)
  | _ => ("IdleMoney$Account", "claimed", "J", false)
def tyX0 : Nat → FieldType := fun k => match k with
  | 0 => .int
  | 1 => .int
  | 2 => .int
  | 3 => .int
  | 4 => .int
  | 5 => .int
  | 6 => .int
  | 7 => .int
  | 8 => .int
  | 9 => .int
  | 10 => .int
  | 11 => .boolean
  | 12 => .long
  | 13 => .long
  | 14 => .long
  | 15 => .long
  | _ => .long
abbrev wsX00 : List Cond := u_ws RX0 TX0 17
theorem nmX0 : ∀ a, a < 17 → ∀ b, b < 17 → a ≠ b → (TX0 a).2.1 ≠ (TX0 b).2.1 := by decide +kernel
theorem tyX0_ok : ∀ k, k < 17 → parseFieldDescriptor (TX0 k).2.2.1 = some (tyX0 k) := by decide +kernel
abbrev cX0_init : ByteArray := prog_2_method_1_code
def yX0_init : MethodName := ⟨RX0, "<init>", "()V"⟩
abbrev cX0_start : ByteArray := prog_2_method_2_code
def yX0_start : MethodName := ⟨RX0, "start", "(IIII)V"⟩
abbrev cX0_copyFrom : ByteArray := prog_2_method_3_code
def yX0_copyFrom : MethodName := ⟨RX0, "copyFrom", "(LIdleMoney$Account;)V"⟩
abbrev cX0_isWithBank : ByteArray := prog_2_method_4_code
def yX0_isWithBank : MethodName := ⟨RX0, "isWithBank", "()Z"⟩
abbrev cX0_isClaimable : ByteArray := prog_2_method_5_code
def yX0_isClaimable : MethodName := ⟨RX0, "isClaimable", "()Z"⟩
abbrev cX0_isHeldBy : ByteArray := prog_2_method_6_code
def yX0_isHeldBy : MethodName := ⟨RX0, "isHeldBy", "(I)Z"⟩
abbrev cX0_wake : ByteArray := prog_2_method_7_code
def yX0_wake : MethodName := ⟨RX0, "wake", "()V"⟩
abbrev cX0_bringIn : ByteArray := prog_2_method_8_code
def yX0_bringIn : MethodName := ⟨RX0, "bringIn", "(I)V"⟩
abbrev cX0_payOut : ByteArray := prog_2_method_9_code
def yX0_payOut : MethodName := ⟨RX0, "payOut", "(I)V"⟩
abbrev cX0_goMonth : ByteArray := prog_2_method_10_code
def yX0_goMonth : MethodName := ⟨RX0, "goMonth", "(LIdleMoney$Rules;I)V"⟩
abbrev cX0_credit : ByteArray := prog_2_method_11_code
def yX0_credit : MethodName := ⟨RX0, "credit", "(I)V"⟩
abbrev cX0_receiveLetter : ByteArray := prog_2_method_12_code
def yX0_receiveLetter : MethodName := ⟨RX0, "receiveLetter", "(II)V"⟩
abbrev cX0_handOver : ByteArray := prog_2_method_13_code
def yX0_handOver : MethodName := ⟨RX0, "handOver", "(III)V"⟩
abbrev cX0_giveBack : ByteArray := prog_2_method_14_code
def yX0_giveBack : MethodName := ⟨RX0, "giveBack", "()I"⟩
abbrev cX0_inBooks : ByteArray := prog_2_method_15_code
def yX0_inBooks : MethodName := ⟨RX0, "inBooks", "(I)J"⟩
def RX1 : String := "IdleMoney$Forecast"
def TX1 : u_T := fun k => match k with
  | 0 => ("IdleMoney$Forecast", "probe", "LIdleMoney$Account;", true)
  | 1 => ("IdleMoney$Forecast", "change", "[J", true)
  | 2 => ("IdleMoney$Forecast", "rescueSet", "I", false)
  | _ => ("IdleMoney$Forecast", "rescueCents", "J", false)
def tyX1 : Nat → FieldType := fun k => match k with
  | 0 => .object "IdleMoney$Account"
  | 1 => .array .long
  | 2 => .int
  | _ => .long
abbrev wsX10 : List Cond := u_ws RX1 TX1 4
theorem nmX1 : ∀ a, a < 4 → ∀ b, b < 4 → a ≠ b → (TX1 a).2.1 ≠ (TX1 b).2.1 := by decide +kernel
theorem tyX1_ok : ∀ k, k < 4 → parseFieldDescriptor (TX1 k).2.2.1 = some (tyX1 k) := by decide +kernel
abbrev cX1_init : ByteArray := prog_3_method_1_code
def yX1_init : MethodName := ⟨RX1, "<init>", "()V"⟩
abbrev cX1_findRescue : ByteArray := prog_3_method_5_code
def yX1_findRescue : MethodName := ⟨RX1, "findRescue", "(LIdleMoney$World;II)V"⟩
abbrev cX1_chooseSet : ByteArray := prog_3_method_6_code
def yX1_chooseSet : MethodName := ⟨RX1, "chooseSet", "(IIJ)V"⟩
abbrev cX1_changeBy : ByteArray := prog_3_method_7_code
def yX1_changeBy : MethodName := ⟨RX1, "changeBy", "(I)J"⟩
abbrev cX1_runProbe : ByteArray := prog_3_method_8_code
def yX1_runProbe : MethodName := ⟨RX1, "runProbe", "(LIdleMoney$World;I)I"⟩
def RX2 : String := "IdleMoney$Land"
def TX2 : u_T := fun k => match k with
  | 0 => ("IdleMoney$Land", "name", "[I", true)
  | 1 => ("IdleMoney$Land", "nameLength", "I", false)
  | 2 => ("IdleMoney$Land", "month", "I", false)
  | 3 => ("IdleMoney$Land", "least", "I", false)
  | 4 => ("IdleMoney$Land", "rate", "I", false)
  | _ => ("IdleMoney$Land", "years", "I", false)
def tyX2 : Nat → FieldType := fun k => match k with
  | 0 => .array .int
  | 1 => .int
  | 2 => .int
  | 3 => .int
  | 4 => .int
  | _ => .int
abbrev wsX20 : List Cond := u_ws RX2 TX2 6
theorem nmX2 : ∀ a, a < 6 → ∀ b, b < 6 → a ≠ b → (TX2 a).2.1 ≠ (TX2 b).2.1 := by decide +kernel
theorem tyX2_ok : ∀ k, k < 6 → parseFieldDescriptor (TX2 k).2.2.1 = some (tyX2 k) := by decide +kernel
abbrev cX2_init : ByteArray := prog_4_method_1_code
def yX2_init : MethodName := ⟨RX2, "<init>", "()V"⟩
abbrev cX2_call : ByteArray := prog_4_method_2_code
def yX2_call : MethodName := ⟨RX2, "call", "([III)V"⟩
abbrev cX2_hasLetter : ByteArray := prog_4_method_3_code
def yX2_hasLetter : MethodName := ⟨RX2, "hasLetter", "(I)Z"⟩
abbrev cX2_isCalled : ByteArray := prog_4_method_4_code
def yX2_isCalled : MethodName := ⟨RX2, "isCalled", "([III)Z"⟩
abbrev cX2_copyFrom : ByteArray := prog_4_method_5_code
def yX2_copyFrom : MethodName := ⟨RX2, "copyFrom", "(LIdleMoney$Land;)V"⟩
def RX3 : String := "IdleMoney$Reader"
def TX3 : u_T := fun k => match k with
  | 0 => ("IdleMoney$Reader", "tape", "[I", true)
  | 1 => ("IdleMoney$Reader", "rules", "LIdleMoney$Rules;", true)
  | 2 => ("IdleMoney$Reader", "sorts", "[I", true)
  | 3 => ("IdleMoney$Reader", "starts", "[I", true)
  | 4 => ("IdleMoney$Reader", "ends", "[I", true)
  | 5 => ("IdleMoney$Reader", "words", "[LIdleMoney$Word;", true)
  | 6 => ("IdleMoney$Reader", "at", "I", false)
  | 7 => ("IdleMoney$Reader", "number", "I", false)
  | 8 => ("IdleMoney$Reader", "fault", "I", false)
  | _ => ("IdleMoney$Reader", "place", "I", false)
def tyX3 : Nat → FieldType := fun k => match k with
  | 0 => .array .int
  | 1 => .object "IdleMoney$Rules"
  | 2 => .array .int
  | 3 => .array .int
  | 4 => .array .int
  | 5 => .array (.object "IdleMoney$Word")
  | 6 => .int
  | 7 => .int
  | 8 => .int
  | _ => .int
abbrev wsX30 : List Cond := u_ws RX3 TX3 10
theorem nmX3 : ∀ a, a < 10 → ∀ b, b < 10 → a ≠ b → (TX3 a).2.1 ≠ (TX3 b).2.1 := by decide +kernel
theorem tyX3_ok : ∀ k, k < 10 → parseFieldDescriptor (TX3 k).2.2.1 = some (tyX3 k) := by decide +kernel
abbrev cX3_init : ByteArray := prog_5_method_1_code
def yX3_init : MethodName := ⟨RX3, "<init>", "()V"⟩
abbrev cX3_read : ByteArray := prog_5_method_2_code
def yX3_read : MethodName := ⟨RX3, "read", "(I)I"⟩
abbrev cX3_scan : ByteArray := prog_5_method_3_code
def yX3_scan : MethodName := ⟨RX3, "scan", "(I)V"⟩
abbrev cX3_sortOf : ByteArray := prog_5_method_4_code
def yX3_sortOf : MethodName := ⟨RX3, "sortOf", "(I)I"⟩
abbrev cX3_fail : ByteArray := prog_5_method_5_code
def yX3_fail : MethodName := ⟨RX3, "fail", "(I)Z"⟩
abbrev cX3_step : ByteArray := prog_5_method_6_code
def yX3_step : MethodName := ⟨RX3, "step", "()V"⟩
abbrev cX3_takeSign : ByteArray := prog_5_method_7_code
def yX3_takeSign : MethodName := ⟨RX3, "takeSign", "(I)Z"⟩
abbrev cX3_takeWord : ByteArray := prog_5_method_8_code
def yX3_takeWord : MethodName := ⟨RX3, "takeWord", "(LIdleMoney$Word;)Z"⟩
abbrev cX3_takeNumber : ByteArray := prog_5_method_9_code
def yX3_takeNumber : MethodName := ⟨RX3, "takeNumber", "(II)Z"⟩
abbrev cX3_readLine : ByteArray := prog_5_method_10_code
def yX3_readLine : MethodName := ⟨RX3, "readLine", "()Z"⟩
abbrev cX3_readLand : ByteArray := prog_5_method_11_code
def yX3_readLand : MethodName := ⟨RX3, "readLand", "()Z"⟩
abbrev cX3_readLaw : ByteArray := prog_5_method_12_code
def yX3_readLaw : MethodName := ⟨RX3, "readLaw", "()Z"⟩
abbrev cX3_readPays : ByteArray := prog_5_method_13_code
def yX3_readPays : MethodName := ⟨RX3, "readPays", "()Z"⟩
abbrev cX3_readWait : ByteArray := prog_5_method_14_code
def yX3_readWait : MethodName := ⟨RX3, "readWait", "()Z"⟩
abbrev cX3_readLetter : ByteArray := prog_5_method_15_code
def yX3_readLetter : MethodName := ⟨RX3, "readLetter", "()Z"⟩
abbrev cX3_readHome : ByteArray := prog_5_method_16_code
def yX3_readHome : MethodName := ⟨RX3, "readHome", "()Z"⟩
abbrev cX3_readOrder : ByteArray := prog_5_method_17_code
def yX3_readOrder : MethodName := ⟨RX3, "readOrder", "()Z"⟩
abbrev cX3_orderInHand : ByteArray := prog_5_method_18_code
def yX3_orderInHand : MethodName := ⟨RX3, "orderInHand", "()I"⟩
abbrev cX3_kindInHand : ByteArray := prog_5_method_19_code
def yX3_kindInHand : MethodName := ⟨RX3, "kindInHand", "()I"⟩
abbrev cX3_isName : ByteArray := prog_5_method_20_code
def yX3_isName : MethodName := ⟨RX3, "isName", "()Z"⟩
abbrev cX3_toldLandInHand : ByteArray := prog_5_method_21_code
def yX3_toldLandInHand : MethodName := ⟨RX3, "toldLandInHand", "()I"⟩
abbrev cX3_readSum : ByteArray := prog_5_method_22_code
def yX3_readSum : MethodName := ⟨RX3, "readSum", "(I)Z"⟩
abbrev cX3_signInHand : ByteArray := prog_5_method_23_code
def yX3_signInHand : MethodName := ⟨RX3, "signInHand", "()I"⟩
abbrev cX3_readFactor : ByteArray := prog_5_method_24_code
def yX3_readFactor : MethodName := ⟨RX3, "readFactor", "(I)Z"⟩
abbrev cX3_readIf : ByteArray := prog_5_method_25_code
def yX3_readIf : MethodName := ⟨RX3, "readIf", "(I)Z"⟩
abbrev cX3_readBracket : ByteArray := prog_5_method_26_code
def yX3_readBracket : MethodName := ⟨RX3, "readBracket", "(IZ)Z"⟩
abbrev cX3_pushInHand : ByteArray := prog_5_method_27_code
def yX3_pushInHand : MethodName := ⟨RX3, "pushInHand", "()I"⟩
def RX4 : String := "IdleMoney$Rules"
def TX4 : u_T := fun k => match k with
  | 0 => ("IdleMoney$Rules", "lands", "[LIdleMoney$Land;", true)
  | 1 => ("IdleMoney$Rules", "landCount", "I", false)
  | 2 => ("IdleMoney$Rules", "paid", "[I", true)
  | 3 => ("IdleMoney$Rules", "wait", "I", false)
  | 4 => ("IdleMoney$Rules", "letterCents", "I", false)
  | 5 => ("IdleMoney$Rules", "home", "I", false)
  | 6 => ("IdleMoney$Rules", "order", "[I", true)
  | 7 => ("IdleMoney$Rules", "orderCount", "I", false)
  | 8 => ("IdleMoney$Rules", "lawStart", "[I", true)
  | 9 => ("IdleMoney$Rules", "lawEnd", "[I", true)
  | 10 => ("IdleMoney$Rules", "code", "[I", true)
  | 11 => ("IdleMoney$Rules", "codeLength", "I", false)
  | _ => ("IdleMoney$Rules", "stack", "[J", true)
def tyX4 : Nat → FieldType := fun k => match k with
  | 0 => .array (.object "IdleMoney$Land")
  | 1 => .int
  | 2 => .array .int
  | 3 => .int
  | 4 => .int
  | 5 => .int
  | 6 => .array .int
  | 7 => .int
  | 8 => .array .int
  | 9 => .array .int
  | 10 => .array .int
  | 11 => .int
  | _ => .array .long
abbrev wsX40 : List Cond := u_ws RX4 TX4 13
theorem nmX4 : ∀ a, a < 13 → ∀ b, b < 13 → a ≠ b → (TX4 a).2.1 ≠ (TX4 b).2.1 := by decide +kernel
theorem tyX4_ok : ∀ k, k < 13 → parseFieldDescriptor (TX4 k).2.2.1 = some (tyX4 k) := by decide +kernel
abbrev cX4_init : ByteArray := prog_6_method_1_code
def yX4_init : MethodName := ⟨RX4, "<init>", "()V"⟩
abbrev cX4_clear : ByteArray := prog_6_method_2_code
def yX4_clear : MethodName := ⟨RX4, "clear", "()V"⟩
abbrev cX4_tellTheUntold : ByteArray := prog_6_method_3_code
def yX4_tellTheUntold : MethodName := ⟨RX4, "tellTheUntold", "()V"⟩
abbrev cX4_copyFrom : ByteArray := prog_6_method_4_code
def yX4_copyFrom : MethodName := ⟨RX4, "copyFrom", "(LIdleMoney$Rules;)V"⟩
abbrev cX4_isLand : ByteArray := prog_6_method_5_code
def yX4_isLand : MethodName := ⟨RX4, "isLand", "(I)Z"⟩
abbrev cX4_isLandOrNone : ByteArray := prog_6_method_6_code
def yX4_isLandOrNone : MethodName := ⟨RX4, "isLandOrNone", "(I)Z"⟩
abbrev cX4_landCalled : ByteArray := prog_6_method_7_code
def yX4_landCalled : MethodName := ⟨RX4, "landCalled", "([III)I"⟩
abbrev cX4_isInOrder : ByteArray := prog_6_method_8_code
def yX4_isInOrder : MethodName := ⟨RX4, "isInOrder", "(I)Z"⟩
abbrev cX4_addToOrder : ByteArray := prog_6_method_9_code
def yX4_addToOrder : MethodName := ⟨RX4, "addToOrder", "(I)V"⟩
abbrev cX4_addCode : ByteArray := prog_6_method_10_code
def yX4_addCode : MethodName := ⟨RX4, "addCode", "(I)V"⟩
abbrev cX4_addSign : ByteArray := prog_6_method_11_code
def yX4_addSign : MethodName := ⟨RX4, "addSign", "(I)V"⟩
abbrev cX4_addLaw : ByteArray := prog_6_method_12_code
def yX4_addLaw : MethodName := ⟨RX4, "addLaw", "(III)V"⟩
abbrev cX4_takes : ByteArray := prog_6_method_13_code
def yX4_takes : MethodName := ⟨RX4, "takes", "(II)Z"⟩
abbrev cX4_rateOf : ByteArray := prog_6_method_14_code
def yX4_rateOf : MethodName := ⟨RX4, "rateOf", "(I)I"⟩
abbrev cX4_kindsOf : ByteArray := prog_6_method_15_code
def yX4_kindsOf : MethodName := ⟨RX4, "kindsOf", "(I)I"⟩
abbrev cX4_landOf : ByteArray := prog_6_method_16_code
def yX4_landOf : MethodName := ⟨RX4, "landOf", "(LIdleMoney$Account;)I"⟩
abbrev cX4_sleepOf : ByteArray := prog_6_method_17_code
def yX4_sleepOf : MethodName := ⟨RX4, "sleepOf", "(LIdleMoney$Account;I)I"⟩
abbrev cX4_operandsOf : ByteArray := prog_6_method_18_code
def yX4_operandsOf : MethodName := ⟨RX4, "operandsOf", "(I)I"⟩
abbrev cX4_result : ByteArray := prog_6_method_19_code
def yX4_result : MethodName := ⟨RX4, "result", "(IILIdleMoney$Account;)J"⟩
abbrev cX4_bounded : ByteArray := prog_6_method_20_code
def yX4_bounded : MethodName := ⟨RX4, "bounded", "(J)J"⟩
abbrev cX4_product : ByteArray := prog_6_method_21_code
def yX4_product : MethodName := ⟨RX4, "product", "(JJ)J"⟩
abbrev cX4_quotient : ByteArray := prog_6_method_22_code
def yX4_quotient : MethodName := ⟨RX4, "quotient", "(JJ)J"⟩
abbrev cX4_interestOf : ByteArray := prog_6_method_23_code
def yX4_interestOf : MethodName := ⟨RX4, "interestOf", "(LIdleMoney$Account;I)J"⟩
def RX5 : String := "IdleMoney$Word"
def TX5 : u_T := fun k => match k with
  | _ => ("", "", "", false)
def tyX5 : Nat → FieldType := fun k => match k with
  | _ => .int
abbrev wsX50 : List Cond := u_ws RX5 TX5 0
theorem nmX5 : ∀ a, a < 0 → ∀ b, b < 0 → a ≠ b → (TX5 a).2.1 ≠ (TX5 b).2.1 := by decide +kernel
theorem tyX5_ok : ∀ k, k < 0 → parseFieldDescriptor (TX5 k).2.2.1 = some (tyX5 k) := by decide +kernel
abbrev cX5_of : ByteArray := prog_7_method_4_code
def yX5_of : MethodName := ⟨RX5, "of", "([III)LIdleMoney$Word;"⟩
abbrev cX5_stands : ByteArray := prog_7_method_5_code
def yX5_stands : MethodName := ⟨RX5, "stands", "([III)Z"⟩
def RX6 : String := "IdleMoney$World"
def TX6 : u_T := fun k => match k with
  | 0 => ("IdleMoney$World", "rules", "LIdleMoney$Rules;", true)
  | 1 => ("IdleMoney$World", "accounts", "[LIdleMoney$Account;", true)
  | 2 => ("IdleMoney$World", "accountCount", "I", false)
  | 3 => ("IdleMoney$World", "month", "I", false)
  | 4 => ("IdleMoney$World", "book", "[[I", true)
  | 5 => ("IdleMoney$World", "rowCount", "I", false)
  | 6 => ("IdleMoney$World", "interestPaid", "[J", true)
  | _ => ("IdleMoney$World", "passedTo", "[J", true)
def tyX6 : Nat → FieldType := fun k => match k with
  | 0 => .object "IdleMoney$Rules"
  | 1 => .array (.object "IdleMoney$Account")
  | 2 => .int
  | 3 => .int
  | 4 => .array (.array .int)
  | 5 => .int
  | 6 => .array .long
  | _ => .array .long
abbrev wsX60 : List Cond := u_ws RX6 TX6 8
theorem nmX6 : ∀ a, a < 8 → ∀ b, b < 8 → a ≠ b → (TX6 a).2.1 ≠ (TX6 b).2.1 := by decide +kernel
theorem tyX6_ok : ∀ k, k < 8 → parseFieldDescriptor (TX6 k).2.2.1 = some (tyX6 k) := by decide +kernel
abbrev cX6_init : ByteArray := prog_8_method_1_code
def yX6_init : MethodName := ⟨RX6, "<init>", "()V"⟩
abbrev cX6_begin : ByteArray := prog_8_method_2_code
def yX6_begin : MethodName := ⟨RX6, "begin", "(LIdleMoney$Rules;)V"⟩
abbrev cX6_copyFrom : ByteArray := prog_8_method_3_code
def yX6_copyFrom : MethodName := ⟨RX6, "copyFrom", "(LIdleMoney$World;)V"⟩
abbrev cX6_hasAccount : ByteArray := prog_8_method_4_code
def yX6_hasAccount : MethodName := ⟨RX6, "hasAccount", "(I)Z"⟩
abbrev cX6_hasRow : ByteArray := prog_8_method_5_code
def yX6_hasRow : MethodName := ⟨RX6, "hasRow", "(I)Z"⟩
abbrev cX6_goMonth : ByteArray := prog_8_method_6_code
def yX6_goMonth : MethodName := ⟨RX6, "goMonth", "()I"⟩
abbrev cX6_writeRow : ByteArray := prog_8_method_7_code
def yX6_writeRow : MethodName := ⟨RX6, "writeRow", "(ILIdleMoney$Account;)V"⟩
abbrev cX6_giveBack : ByteArray := prog_8_method_8_code
def yX6_giveBack : MethodName := ⟨RX6, "giveBack", "(LIdleMoney$Account;)J"⟩
abbrev cX6_passOn : ByteArray := prog_8_method_9_code
def yX6_passOn : MethodName := ⟨RX6, "passOn", "(LIdleMoney$Account;I)V"⟩
abbrev cX6_landNowOf : ByteArray := prog_8_method_10_code
def yX6_landNowOf : MethodName := ⟨RX6, "landNowOf", "(LIdleMoney$Account;)I"⟩
abbrev cX6_accountsHeldBy : ByteArray := prog_8_method_11_code
def yX6_accountsHeldBy : MethodName := ⟨RX6, "accountsHeldBy", "(I)I"⟩
abbrev cX6_centsHeldBy : ByteArray := prog_8_method_12_code
def yX6_centsHeldBy : MethodName := ⟨RX6, "centsHeldBy", "(I)J"⟩
abbrev cX6_centsInRowsOf : ByteArray := prog_8_method_13_code
def yX6_centsInRowsOf : MethodName := ⟨RX6, "centsInRowsOf", "(I)J"⟩
abbrev cX6_lettersSent : ByteArray := prog_8_method_14_code
def yX6_lettersSent : MethodName := ⟨RX6, "lettersSent", "()I"⟩
abbrev cX6_inBooks : ByteArray := prog_8_method_15_code
def yX6_inBooks : MethodName := ⟨RX6, "inBooks", "(I)J"⟩
def RX7 : String := "IdleMoney"
def TX7 : u_T := fun k => match k with
  | 0 => ("IdleMoney", "reader", "LIdleMoney$Reader;", true)
  | 1 => ("IdleMoney", "forecast", "LIdleMoney$Forecast;", true)
  | 2 => ("IdleMoney", "past", "[LIdleMoney$World;", true)
  | 3 => ("IdleMoney", "world", "LIdleMoney$World;", false)
  | 4 => ("IdleMoney", "tapeLength", "I", false)
  | 5 => ("IdleMoney", "faultPlace", "I", false)
  | 6 => ("IdleMoney", "pastCount", "I", false)
  | 7 => ("IdleMoney", "refusedAsNoSuch", "I", false)
  | 8 => ("IdleMoney", "refusedByArgument", "I", false)
  | _ => ("IdleMoney", "refusedByState", "I", false)
def tyX7 : Nat → FieldType := fun k => match k with
  | 0 => .object "IdleMoney$Reader"
  | 1 => .object "IdleMoney$Forecast"
  | 2 => .array (.object "IdleMoney$World")
  | 3 => .object "IdleMoney$World"
  | 4 => .int
  | 5 => .int
  | 6 => .int
  | 7 => .int
  | 8 => .int
  | _ => .int
abbrev wsX70 : List Cond := u_ws RX7 TX7 10
theorem nmX7 : ∀ a, a < 10 → ∀ b, b < 10 → a ≠ b → (TX7 a).2.1 ≠ (TX7 b).2.1 := by decide +kernel
theorem tyX7_ok : ∀ k, k < 10 → parseFieldDescriptor (TX7 k).2.2.1 = some (tyX7 k) := by decide +kernel
abbrev cX7_init : ByteArray := prog_1_method_1_code
def yX7_init : MethodName := ⟨RX7, "<init>", "()V"⟩
abbrev cX7_feed : ByteArray := prog_1_method_2_code
def yX7_feed : MethodName := ⟨RX7, "feed", "(IIIII)I"⟩
abbrev cX7_text : ByteArray := prog_1_method_3_code
def yX7_text : MethodName := ⟨RX7, "text", "(I)I"⟩
abbrev cX7_open : ByteArray := prog_1_method_5_code
def yX7_open : MethodName := ⟨RX7, "open", "(IIII)I"⟩
abbrev cX7_contact : ByteArray := prog_1_method_6_code
def yX7_contact : MethodName := ⟨RX7, "contact", "(I)I"⟩
abbrev cX7_deposit : ByteArray := prog_1_method_7_code
def yX7_deposit : MethodName := ⟨RX7, "deposit", "(II)I"⟩
abbrev cX7_draw : ByteArray := prog_1_method_8_code
def yX7_draw : MethodName := ⟨RX7, "draw", "(II)I"⟩
abbrev cX7_address : ByteArray := prog_1_method_9_code
def yX7_address : MethodName := ⟨RX7, "address", "(II)I"⟩
abbrev cX7_close : ByteArray := prog_1_method_10_code
def yX7_close : MethodName := ⟨RX7, "close", "(I)I"⟩
abbrev cX7_months : ByteArray := prog_1_method_11_code
def yX7_months : MethodName := ⟨RX7, "months", "(I)I"⟩
abbrev cX7_claim : ByteArray := prog_1_method_12_code
def yX7_claim : MethodName := ⟨RX7, "claim", "(I)J"⟩
abbrev cX7_pass : ByteArray := prog_1_method_13_code
def yX7_pass : MethodName := ⟨RX7, "pass", "(I)I"⟩
abbrev cX7_undo : ByteArray := prog_1_method_14_code
def yX7_undo : MethodName := ⟨RX7, "undo", "()I"⟩
abbrev cX7_told : ByteArray := prog_1_method_15_code
def yX7_told : MethodName := ⟨RX7, "told", "(I)I"⟩
abbrev cX7_land : ByteArray := prog_1_method_16_code
def yX7_land : MethodName := ⟨RX7, "land", "(II)I"⟩
abbrev cX7_purse : ByteArray := prog_1_method_17_code
def yX7_purse : MethodName := ⟨RX7, "purse", "(II)J"⟩
abbrev cX7_letter : ByteArray := prog_1_method_18_code
def yX7_letter : MethodName := ⟨RX7, "letter", "(II)I"⟩
abbrev cX7_pays : ByteArray := prog_1_method_19_code
def yX7_pays : MethodName := ⟨RX7, "pays", "(I)I"⟩
abbrev cX7_account : ByteArray := prog_1_method_20_code
def yX7_account : MethodName := ⟨RX7, "account", "(II)I"⟩
abbrev cX7_sleep : ByteArray := prog_1_method_21_code
def yX7_sleep : MethodName := ⟨RX7, "sleep", "(I)I"⟩
abbrev cX7_worth : ByteArray := prog_1_method_23_code
def yX7_worth : MethodName := ⟨RX7, "worth", "(II)J"⟩
abbrev cX7_row : ByteArray := prog_1_method_24_code
def yX7_row : MethodName := ⟨RX7, "row", "(II)I"⟩
abbrev cX7_rescue : ByteArray := prog_1_method_27_code
def yX7_rescue : MethodName := ⟨RX7, "rescue", "(III)J"⟩
abbrev cX7_books : ByteArray := prog_1_method_28_code
def yX7_books : MethodName := ⟨RX7, "books", "(I)J"⟩
abbrev cX7_print : ByteArray := prog_1_method_29_code
def yX7_print : MethodName := ⟨RX7, "print", "()J"⟩
abbrev cX7_refuseNoSuch : ByteArray := prog_1_method_31_code
def yX7_refuseNoSuch : MethodName := ⟨RX7, "refuseNoSuch", "(Z)V"⟩
abbrev cX7_refuseArgument : ByteArray := prog_1_method_32_code
def yX7_refuseArgument : MethodName := ⟨RX7, "refuseArgument", "(Z)V"⟩
abbrev cX7_refuseState : ByteArray := prog_1_method_33_code
def yX7_refuseState : MethodName := ⟨RX7, "refuseState", "(Z)V"⟩
abbrev cX7_isWithin : ByteArray := prog_1_method_34_code
def yX7_isWithin : MethodName := ⟨RX7, "isWithin", "(III)Z"⟩
abbrev cX7_putOnTape : ByteArray := prog_1_method_35_code
def yX7_putOnTape : MethodName := ⟨RX7, "putOnTape", "(I)V"⟩
abbrev cX7_remember : ByteArray := prog_1_method_36_code
def yX7_remember : MethodName := ⟨RX7, "remember", "()V"⟩
def RX8 : String := "IdleMoneyLaw$Account"
def TX8 : u_T := fun k => match k with
  | 0 => ("IdleMoneyLaw$Account", "kind", "I", false)
  | 1 => ("IdleMoneyLaw$Account", "address", "I", false)
  | 2 => ("IdleMoneyLaw$Account", "birth", "I", false)
  | 3 => ("IdleMoneyLaw$Account", "cents", "J", false)
  | 4 => ("IdleMoneyLaw$Account", "state", "I", false)
  | 5 => ("IdleMoneyLaw$Account", "age", "I", false)
  | 6 => ("IdleMoneyLaw$Account", "since", "I", false)
  | 7 => ("IdleMoneyLaw$Account", "letters", "I", false)
  | 8 => ("IdleMoneyLaw$Account", "holder", "I", false)
  | 9 => ("IdleMoneyLaw$Account", "letterAt", "I", false)
  | 10 => ("IdleMoneyLaw$Account", "handedAt", "I", false)
  | _ => ("IdleMoneyLaw$Account", "nameless", "Z", false)
def tyX8 : Nat → FieldType := fun k => match k with
  | 0 => .int
  | 1 => .int
  | 2 => .int
  | 3 => .long
  | 4 => .int
  | 5 => .int
  | 6 => .int
  | 7 => .int
  | 8 => .int
  | 9 => .int
  | 10 => .int
  | _ => .boolean
abbrev wsX80 : List Cond := u_ws RX8 TX8 12
theorem nmX8 : ∀ a, a < 12 → ∀ b, b < 12 → a ≠ b → (TX8 a).2.1 ≠ (TX8 b).2.1 := by decide +kernel
theorem tyX8_ok : ∀ k, k < 12 → parseFieldDescriptor (TX8 k).2.2.1 = some (tyX8 k) := by decide +kernel
abbrev cX8_init : ByteArray := prog_10_method_1_code
def yX8_init : MethodName := ⟨RX8, "<init>", "()V"⟩
abbrev cX8_isOpen : ByteArray := prog_10_method_2_code
def yX8_isOpen : MethodName := ⟨RX8, "isOpen", "()Z"⟩
abbrev cX8_copy : ByteArray := prog_10_method_3_code
def yX8_copy : MethodName := ⟨RX8, "copy", "()LIdleMoneyLaw$Account;"⟩
def RX9 : String := "IdleMoneyLaw$Draw"
def TX9 : u_T := fun k => match k with
  | _ => ("IdleMoneyLaw$Draw", "x", "I", false)
def tyX9 : Nat → FieldType := fun k => match k with
  | _ => .int
abbrev wsX90 : List Cond := u_ws RX9 TX9 1
theorem nmX9 : ∀ a, a < 1 → ∀ b, b < 1 → a ≠ b → (TX9 a).2.1 ≠ (TX9 b).2.1 := by decide +kernel
theorem tyX9_ok : ∀ k, k < 1 → parseFieldDescriptor (TX9 k).2.2.1 = some (tyX9 k) := by decide +kernel
abbrev cX9_init : ByteArray := prog_11_method_1_code
def yX9_init : MethodName := ⟨RX9, "<init>", "(I)V"⟩
abbrev cX9_of : ByteArray := prog_11_method_2_code
def yX9_of : MethodName := ⟨RX9, "of", "(I)I"⟩
def RX10 : String := "IdleMoneyLaw$Own"
def TX10 : u_T := fun k => match k with
  | 0 => ("IdleMoneyLaw$Own", "lands", "I", false)
  | 1 => ("IdleMoneyLaw$Own", "land", "[[I", true)
  | 2 => ("IdleMoneyLaw$Own", "sleep", "[[[I", true)
  | 3 => ("IdleMoneyLaw$Own", "pays", "[I", true)
  | 4 => ("IdleMoneyLaw$Own", "wait", "I", false)
  | 5 => ("IdleMoneyLaw$Own", "letter", "I", false)
  | 6 => ("IdleMoneyLaw$Own", "home", "I", false)
  | 7 => ("IdleMoneyLaw$Own", "order", "[I", false)
  | 8 => ("IdleMoneyLaw$Own", "month", "I", false)
  | 9 => ("IdleMoneyLaw$Own", "accounts", "[LIdleMoneyLaw$Account;", false)
  | 10 => ("IdleMoneyLaw$Own", "rows", "[[I", false)
  | 11 => ("IdleMoneyLaw$Own", "sent", "I", false)
  | 12 => ("IdleMoneyLaw$Own", "books", "[J", true)
  | 13 => ("IdleMoneyLaw$Own", "paid", "[J", true)
  | _ => ("IdleMoneyLaw$Own", "passed", "[J", true)
def tyX10 : Nat → FieldType := fun k => match k with
  | 0 => .int
  | 1 => .array (.array .int)
  | 2 => .array (.array (.array .int))
  | 3 => .array .int
  | 4 => .int
  | 5 => .int
  | 6 => .int
  | 7 => .array .int
  | 8 => .int
  | 9 => .array (.object "IdleMoneyLaw$Account")
  | 10 => .array (.array .int)
  | 11 => .int
  | 12 => .array .long
  | 13 => .array .long
  | _ => .array .long
abbrev wsX100 : List Cond := u_ws RX10 TX10 15
theorem nmX10 : ∀ a, a < 15 → ∀ b, b < 15 → a ≠ b → (TX10 a).2.1 ≠ (TX10 b).2.1 := by decide +kernel
theorem tyX10_ok : ∀ k, k < 15 → parseFieldDescriptor (TX10 k).2.2.1 = some (tyX10 k) := by decide +kernel
abbrev cX10_init : ByteArray := prog_12_method_1_code
def yX10_init : MethodName := ⟨RX10, "<init>", "()V"⟩
abbrev cX10_copy : ByteArray := prog_12_method_2_code
def yX10_copy : MethodName := ⟨RX10, "copy", "()LIdleMoneyLaw$Own;"⟩
abbrev cX10_landOf : ByteArray := prog_12_method_3_code
def yX10_landOf : MethodName := ⟨RX10, "landOf", "(LIdleMoneyLaw$Account;)I"⟩
abbrev cX10_sleepOf : ByteArray := prog_12_method_4_code
def yX10_sleepOf : MethodName := ⟨RX10, "sleepOf", "(LIdleMoneyLaw$Account;)I"⟩
abbrev cX10_goes : ByteArray := prog_12_method_5_code
def yX10_goes : MethodName := ⟨RX10, "goes", "(LIdleMoneyLaw$Account;I)Z"⟩
abbrev cX10_months : ByteArray := prog_12_method_6_code
def yX10_months : MethodName := ⟨RX10, "months", "(I)I"⟩
abbrev cX10_worth : ByteArray := prog_12_method_7_code
def yX10_worth : MethodName := ⟨RX10, "worth", "(LIdleMoneyLaw$Account;I)J"⟩
def RX11 : String := "IdleMoneyModel"
def TX11 : u_T := fun k => match k with
  | _ => ("", "", "", false)
def tyX11 : Nat → FieldType := fun k => match k with
  | _ => .int
abbrev wsX110 : List Cond := u_ws RX11 TX11 0
theorem nmX11 : ∀ a, a < 0 → ∀ b, b < 0 → a ≠ b → (TX11 a).2.1 ≠ (TX11 b).2.1 := by decide +kernel
theorem tyX11_ok : ∀ k, k < 0 → parseFieldDescriptor (TX11 k).2.2.1 = some (tyX11 k) := by decide +kernel
def RJx145de : String := "java/io/Serializable"
def TJx145de : u_T := fun k => match k with
  | _ => ("", "", "", false)
def tyJx145de : Nat → FieldType := fun k => match k with
  | _ => .int
abbrev wsJx145de0 : List Cond := u_ws RJx145de TJx145de 0
theorem nmJx145de : ∀ a, a < 0 → ∀ b, b < 0 → a ≠ b → (TJx145de a).2.1 ≠ (TJx145de b).2.1 := by decide +kernel
theorem tyJx145de_ok : ∀ k, k < 0 → parseFieldDescriptor (TJx145de k).2.2.1 = some (tyJx145de k) := by decide +kernel
def RJx9f9b0 : String := "java/lang/CharSequence"
def TJx9f9b0 : u_T := fun k => match k with
  | _ => ("", "", "", false)
def tyJx9f9b0 : Nat → FieldType := fun k => match k with
  | _ => .int
abbrev wsJx9f9b00 : List Cond := u_ws RJx9f9b0 TJx9f9b0 0
theorem nmJx9f9b0 : ∀ a, a < 0 → ∀ b, b < 0 → a ≠ b → (TJx9f9b0 a).2.1 ≠ (TJx9f9b0 b).2.1 := by decide +kernel
theorem tyJx9f9b0_ok : ∀ k, k < 0 → parseFieldDescriptor (TJx9f9b0 k).2.2.1 = some (tyJx9f9b0 k) := by decide +kernel
def RJxb160c : String := "java/lang/Comparable"
def TJxb160c : u_T := fun k => match k with
  | _ => ("", "", "", false)
def tyJxb160c : Nat → FieldType := fun k => match k with
  | _ => .int
abbrev wsJxb160c0 : List Cond := u_ws RJxb160c TJxb160c 0
theorem nmJxb160c : ∀ a, a < 0 → ∀ b, b < 0 → a ≠ b → (TJxb160c a).2.1 ≠ (TJxb160c b).2.1 := by decide +kernel
theorem tyJxb160c_ok : ∀ k, k < 0 → parseFieldDescriptor (TJxb160c k).2.2.1 = some (tyJxb160c k) := by decide +kernel
def RJx29ce0 : String := "java/lang/Enum"
def TJx29ce0 : u_T := fun k => match k with
  | _ => ("", "", "", false)
def tyJx29ce0 : Nat → FieldType := fun k => match k with
  | _ => .int
abbrev wsJx29ce00 : List Cond := u_ws RJx29ce0 TJx29ce0 0
theorem nmJx29ce0 : ∀ a, a < 0 → ∀ b, b < 0 → a ≠ b → (TJx29ce0 a).2.1 ≠ (TJx29ce0 b).2.1 := by decide +kernel
theorem tyJx29ce0_ok : ∀ k, k < 0 → parseFieldDescriptor (TJx29ce0 k).2.2.1 = some (tyJx29ce0 k) := by decide +kernel
def RJ6 : String := "java/lang/Integer"
def TJ6 : u_T := fun k => match k with
  | _ => ("", "", "", false)
def tyJ6 : Nat → FieldType := fun k => match k with
  | _ => .int
abbrev wsJ60 : List Cond := u_ws RJ6 TJ6 0
theorem nmJ6 : ∀ a, a < 0 → ∀ b, b < 0 → a ≠ b → (TJ6 a).2.1 ≠ (TJ6 b).2.1 := by decide +kernel
theorem tyJ6_ok : ∀ k, k < 0 → parseFieldDescriptor (TJ6 k).2.2.1 = some (tyJ6 k) := by decide +kernel
abbrev cJ6_bitCount_0f7a4 : ByteArray := prog_21_method_49_code
def yJ6_bitCount_0f7a4 : MethodName := ⟨RJ6, "bitCount", "(I)I"⟩
def RJ9 : String := "java/lang/Math"
def TJ9 : u_T := fun k => match k with
  | _ => ("", "", "", false)
def tyJ9 : Nat → FieldType := fun k => match k with
  | _ => .int
abbrev wsJ90 : List Cond := u_ws RJ9 TJ9 0
theorem nmJ9 : ∀ a, a < 0 → ∀ b, b < 0 → a ≠ b → (TJ9 a).2.1 ≠ (TJ9 b).2.1 := by decide +kernel
theorem tyJ9_ok : ∀ k, k < 0 → parseFieldDescriptor (TJ9 k).2.2.1 = some (tyJ9 k) := by decide +kernel
abbrev cJ9_floorDiv_f86c9 : ByteArray := prog_22_method_49_code
def yJ9_floorDiv_f86c9 : MethodName := ⟨RJ9, "floorDiv", "(JJ)J"⟩
abbrev cJ9_abs_067f4 : ByteArray := prog_22_method_61_code
def yJ9_abs_067f4 : MethodName := ⟨RJ9, "abs", "(J)J"⟩
abbrev cJ9_max_7cf53 : ByteArray := prog_22_method_65_code
def yJ9_max_7cf53 : MethodName := ⟨RJ9, "max", "(II)I"⟩
abbrev cJ9_max_f86c9 : ByteArray := prog_22_method_66_code
def yJ9_max_f86c9 : MethodName := ⟨RJ9, "max", "(JJ)J"⟩
abbrev cJ9_min_7cf53 : ByteArray := prog_22_method_69_code
def yJ9_min_7cf53 : MethodName := ⟨RJ9, "min", "(II)I"⟩
abbrev cJ9_min_f86c9 : ByteArray := prog_22_method_70_code
def yJ9_min_f86c9 : MethodName := ⟨RJ9, "min", "(JJ)J"⟩
def RJ0 : String := "java/lang/String"
def TJ0 : u_T := fun k => match k with
  | _ => ("", "", "", false)
def tyJ0 : Nat → FieldType := fun k => match k with
  | _ => .int
abbrev wsJ00 : List Cond := u_ws RJ0 TJ0 0
theorem nmJ0 : ∀ a, a < 0 → ∀ b, b < 0 → a ≠ b → (TJ0 a).2.1 ≠ (TJ0 b).2.1 := by decide +kernel
theorem tyJ0_ok : ∀ k, k < 0 → parseFieldDescriptor (TJ0 k).2.2.1 = some (tyJ0 k) := by decide +kernel
abbrev cJ0_length_8abf5 : ByteArray := prog_24_method_54_code
def yJ0_length_8abf5 : MethodName := ⟨RJ0, "length", "()I"⟩
abbrev cJ0_charAt_5068e : ByteArray := prog_24_method_56_code
def yJ0_charAt_5068e : MethodName := ⟨RJ0, "charAt", "(I)C"⟩
abbrev cJ0_coder_7d493 : ByteArray := prog_24_method_152_code
def yJ0_coder_7d493 : MethodName := ⟨RJ0, "coder", "()B"⟩
abbrev cJ0_isLatin1_aae02 : ByteArray := prog_24_method_154_code
def yJ0_isLatin1_aae02 : MethodName := ⟨RJ0, "isLatin1", "()Z"⟩
abbrev cJ0_checkIndex_df160 : ByteArray := prog_24_method_155_code
def yJ0_checkIndex_df160 : MethodName := ⟨RJ0, "checkIndex", "(II)V"⟩
def RJ1 : String := "java/lang/StringLatin1"
def TJ1 : u_T := fun k => match k with
  | _ => ("", "", "", false)
def tyJ1 : Nat → FieldType := fun k => match k with
  | _ => .int
abbrev wsJ10 : List Cond := u_ws RJ1 TJ1 0
theorem nmJ1 : ∀ a, a < 0 → ∀ b, b < 0 → a ≠ b → (TJ1 a).2.1 ≠ (TJ1 b).2.1 := by decide +kernel
theorem tyJ1_ok : ∀ k, k < 0 → parseFieldDescriptor (TJ1 k).2.2.1 = some (tyJ1 k) := by decide +kernel
abbrev cJ1_charAt_3b067 : ByteArray := prog_25_method_2_code
def yJ1_charAt_3b067 : MethodName := ⟨RJ1, "charAt", "([BI)C"⟩
def RJ2 : String := "java/lang/StringUTF16"
def TJ2 : u_T := fun k => match k with
  | _ => ("", "", "", false)
def tyJ2 : Nat → FieldType := fun k => match k with
  | _ => .int
abbrev wsJ20 : List Cond := u_ws RJ2 TJ2 0
theorem nmJ2 : ∀ a, a < 0 → ∀ b, b < 0 → a ≠ b → (TJ2 a).2.1 ≠ (TJ2 b).2.1 := by decide +kernel
theorem tyJ2_ok : ∀ k, k < 0 → parseFieldDescriptor (TJ2 k).2.2.1 = some (tyJ2 k) := by decide +kernel
abbrev cJ2_getChar_3b067 : ByteArray := prog_26_method_5_code
def yJ2_getChar_3b067 : MethodName := ⟨RJ2, "getChar", "([BI)C"⟩
abbrev cJ2_length_9d52b : ByteArray := prog_26_method_6_code
def yJ2_length_9d52b : MethodName := ⟨RJ2, "length", "([B)I"⟩
abbrev cJ2_charAt_3b067 : ByteArray := prog_26_method_83_code
def yJ2_charAt_3b067 : MethodName := ⟨RJ2, "charAt", "([BI)C"⟩
abbrev cJ2_checkIndex_2214a : ByteArray := prog_26_method_91_code
def yJ2_checkIndex_2214a : MethodName := ⟨RJ2, "checkIndex", "(I[B)V"⟩
def RJ10 : String := "java/lang/System"
def TJ10 : u_T := fun k => match k with
  | _ => ("", "", "", false)
def tyJ10 : Nat → FieldType := fun k => match k with
  | _ => .int
abbrev wsJ100 : List Cond := u_ws RJ10 TJ10 0
theorem nmJ10 : ∀ a, a < 0 → ∀ b, b < 0 → a ≠ b → (TJ10 a).2.1 ≠ (TJ10 b).2.1 := by decide +kernel
theorem tyJ10_ok : ∀ k, k < 0 → parseFieldDescriptor (TJ10 k).2.2.1 = some (tyJ10 k) := by decide +kernel
def RJxfd54e : String := "java/lang/constant/Constable"
def TJxfd54e : u_T := fun k => match k with
  | _ => ("", "", "", false)
def tyJxfd54e : Nat → FieldType := fun k => match k with
  | _ => .int
abbrev wsJxfd54e0 : List Cond := u_ws RJxfd54e TJxfd54e 0
theorem nmJxfd54e : ∀ a, a < 0 → ∀ b, b < 0 → a ≠ b → (TJxfd54e a).2.1 ≠ (TJxfd54e b).2.1 := by decide +kernel
theorem tyJxfd54e_ok : ∀ k, k < 0 → parseFieldDescriptor (TJxfd54e k).2.2.1 = some (tyJxfd54e k) := by decide +kernel
def RJx3cf43 : String := "java/lang/constant/ConstantDesc"
def TJx3cf43 : u_T := fun k => match k with
  | _ => ("", "", "", false)
def tyJx3cf43 : Nat → FieldType := fun k => match k with
  | _ => .int
abbrev wsJx3cf430 : List Cond := u_ws RJx3cf43 TJx3cf43 0
theorem nmJx3cf43 : ∀ a, a < 0 → ∀ b, b < 0 → a ≠ b → (TJx3cf43 a).2.1 ≠ (TJx3cf43 b).2.1 := by decide +kernel
theorem tyJx3cf43_ok : ∀ k, k < 0 → parseFieldDescriptor (TJx3cf43 k).2.2.1 = some (tyJx3cf43 k) := by decide +kernel
def RJ3 : String := "jdk/internal/util/Preconditions"
def TJ3 : u_T := fun k => match k with
  | _ => ("", "", "", false)
def tyJ3 : Nat → FieldType := fun k => match k with
  | _ => .int
abbrev wsJ30 : List Cond := u_ws RJ3 TJ3 0
theorem nmJ3 : ∀ a, a < 0 → ∀ b, b < 0 → a ≠ b → (TJ3 a).2.1 ≠ (TJ3 b).2.1 := by decide +kernel
theorem tyJ3_ok : ∀ k, k < 0 → parseFieldDescriptor (TJ3 k).2.2.1 = some (tyJ3 k) := by decide +kernel
abbrev cJ3_checkIndex_8e157 : ByteArray := prog_32_method_11_code
def yJ3_checkIndex_8e157 : MethodName := ⟨RJ3, "checkIndex", "(IILjava/util/function/BiFunction;)I"⟩
def RL : String := "IdleMoneyLaw"
abbrev cL_put : ByteArray := method_2_code
def yL_put : MethodName := ⟨RL, "put", "(LIdleMoney;[IJ)V"⟩
abbrev cL_feed : ByteArray := method_3_code
def yL_feed : MethodName := ⟨RL, "feed", "(LIdleMoney;[I)V"⟩
abbrev cL_texts : ByteArray := method_4_code
def yL_texts : MethodName := ⟨RL, "texts", "(LIdleMoney;[I)I"⟩
abbrev cL_digits : ByteArray := method_5_code
def yL_digits : MethodName := ⟨RL, "digits", "(LIdleMoney;[II)V"⟩
abbrev cL_text : ByteArray := method_6_code
def yL_text : MethodName := ⟨RL, "text", "(LIdleMoney;I)I"⟩
abbrev cL_open : ByteArray := method_7_code
def yL_open : MethodName := ⟨RL, "open", "(LIdleMoney;IIII)I"⟩
abbrev cL_contact : ByteArray := method_8_code
def yL_contact : MethodName := ⟨RL, "contact", "(LIdleMoney;I)I"⟩
abbrev cL_deposit : ByteArray := method_9_code
def yL_deposit : MethodName := ⟨RL, "deposit", "(LIdleMoney;II)I"⟩
abbrev cL_draw : ByteArray := method_10_code
def yL_draw : MethodName := ⟨RL, "draw", "(LIdleMoney;II)I"⟩
abbrev cL_address : ByteArray := method_11_code
def yL_address : MethodName := ⟨RL, "address", "(LIdleMoney;II)I"⟩
abbrev cL_close : ByteArray := method_12_code
def yL_close : MethodName := ⟨RL, "close", "(LIdleMoney;I)I"⟩
abbrev cL_months : ByteArray := method_13_code
def yL_months : MethodName := ⟨RL, "months", "(LIdleMoney;I)I"⟩
abbrev cL_claim : ByteArray := method_14_code
def yL_claim : MethodName := ⟨RL, "claim", "(LIdleMoney;I)J"⟩
abbrev cL_pass : ByteArray := method_15_code
def yL_pass : MethodName := ⟨RL, "pass", "(LIdleMoney;I)I"⟩
abbrev cL_told : ByteArray := method_16_code
def yL_told : MethodName := ⟨RL, "told", "(LIdleMoney;I)I"⟩
abbrev cL_land : ByteArray := method_17_code
def yL_land : MethodName := ⟨RL, "land", "(LIdleMoney;II)I"⟩
abbrev cL_purse : ByteArray := method_18_code
def yL_purse : MethodName := ⟨RL, "purse", "(LIdleMoney;II)J"⟩
abbrev cL_letter : ByteArray := method_19_code
def yL_letter : MethodName := ⟨RL, "letter", "(LIdleMoney;II)I"⟩
abbrev cL_pays : ByteArray := method_20_code
def yL_pays : MethodName := ⟨RL, "pays", "(LIdleMoney;I)I"⟩
abbrev cL_account : ByteArray := method_21_code
def yL_account : MethodName := ⟨RL, "account", "(LIdleMoney;II)I"⟩
abbrev cL_sleep : ByteArray := method_22_code
def yL_sleep : MethodName := ⟨RL, "sleep", "(LIdleMoney;I)I"⟩
abbrev cL_worth : ByteArray := method_24_code
def yL_worth : MethodName := ⟨RL, "worth", "(LIdleMoney;II)J"⟩
abbrev cL_row : ByteArray := method_25_code
def yL_row : MethodName := ⟨RL, "row", "(LIdleMoney;II)I"⟩
abbrev cL_rescue : ByteArray := method_28_code
def yL_rescue : MethodName := ⟨RL, "rescue", "(LIdleMoney;III)J"⟩
abbrev cL_books : ByteArray := method_29_code
def yL_books : MethodName := ⟨RL, "books", "(LIdleMoney;I)J"⟩
abbrev cL_tell : ByteArray := method_30_code
def yL_tell : MethodName := ⟨RL, "tell", "(LIdleMoney;[ILjava/lang/String;)V"⟩
abbrev cL_number : ByteArray := method_31_code
def yL_number : MethodName := ⟨RL, "number", "(LIdleMoney;[II)V"⟩
abbrev cL_drawn : ByteArray := method_32_code
def yL_drawn : MethodName := ⟨RL, "drawn", "(LIdleMoney;[ILIdleMoneyLaw$Draw;)LIdleMoneyLaw$Own;"⟩
abbrev cL_opens : ByteArray := method_33_code
def yL_opens : MethodName := ⟨RL, "opens", "(LIdleMoney;LIdleMoneyLaw$Own;LIdleMoneyLaw$Draw;)Z"⟩
abbrev cL_isAs : ByteArray := method_34_code
def yL_isAs : MethodName := ⟨RL, "isAs", "(LIdleMoney;LIdleMoneyLaw$Own;)Z"⟩
abbrev cL_law : ByteArray := code
def yL_law : MethodName := ⟨RL, "law", "([I)Z"⟩
