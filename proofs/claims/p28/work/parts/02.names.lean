def RX0 : String := "ChequeSerials$Books"
def TX0 : u_T := fun k => match k with
  | 0 => ("ChequeSerials$Books", "firsts", "[I", true)
  | 1 => ("ChequeSerials$Books", "sizes", "[I", true)
  | 2 => ("ChequeSerials$Books", "kinds", "[I", true)
  | 3 => ("ChequeSerials$Books", "amounts", "[I", true)
  | _ => ("ChequeSerials$Books", "held", "I", false)
def tyX0 : Nat → FieldType := fun k => match k with
  | 0 => .array .int
  | 1 => .array .int
  | 2 => .array .int
  | 3 => .array .int
  | _ => .int
abbrev wsX00 : List Cond := u_ws RX0 TX0 5
theorem nmX0 : ∀ a, a < 5 → ∀ b, b < 5 → a ≠ b → (TX0 a).2.1 ≠ (TX0 b).2.1 := by decide +kernel
theorem tyX0_ok : ∀ k, k < 5 → parseFieldDescriptor (TX0 k).2.2.1 = some (tyX0 k) := by decide +kernel
abbrev cX0_init : ByteArray := prog_2_method_1_code
def yX0_init : MethodName := ⟨RX0, "<init>", "()V"⟩
abbrev cX0_copyFrom : ByteArray := prog_2_method_2_code
def yX0_copyFrom : MethodName := ⟨RX0, "copyFrom", "(LChequeSerials$Books;)V"⟩
abbrev cX0_firstOf : ByteArray := prog_2_method_3_code
def yX0_firstOf : MethodName := ⟨RX0, "firstOf", "(I)I"⟩
abbrev cX0_sizeOf : ByteArray := prog_2_method_4_code
def yX0_sizeOf : MethodName := ⟨RX0, "sizeOf", "(I)I"⟩
abbrev cX0_canTake : ByteArray := prog_2_method_5_code
def yX0_canTake : MethodName := ⟨RX0, "canTake", "(II)Z"⟩
abbrev cX0_add : ByteArray := prog_2_method_6_code
def yX0_add : MethodName := ⟨RX0, "add", "(II)I"⟩
abbrev cX0_cellOf : ByteArray := prog_2_method_7_code
def yX0_cellOf : MethodName := ⟨RX0, "cellOf", "(I)I"⟩
abbrev cX0_kindAt : ByteArray := prog_2_method_8_code
def yX0_kindAt : MethodName := ⟨RX0, "kindAt", "(I)I"⟩
abbrev cX0_amountAt : ByteArray := prog_2_method_9_code
def yX0_amountAt : MethodName := ⟨RX0, "amountAt", "(I)I"⟩
abbrev cX0_setCell : ByteArray := prog_2_method_10_code
def yX0_setCell : MethodName := ⟨RX0, "setCell", "(III)V"⟩
abbrev cX0_makeWritten : ByteArray := prog_2_method_11_code
def yX0_makeWritten : MethodName := ⟨RX0, "makeWritten", "(II)V"⟩
abbrev cX0_makeCashed : ByteArray := prog_2_method_12_code
def yX0_makeCashed : MethodName := ⟨RX0, "makeCashed", "(I)V"⟩
abbrev cX0_makeRunVoid : ByteArray := prog_2_method_13_code
def yX0_makeRunVoid : MethodName := ⟨RX0, "makeRunVoid", "(II)I"⟩
abbrev cX0_makeVoid : ByteArray := prog_2_method_14_code
def yX0_makeVoid : MethodName := ⟨RX0, "makeVoid", "(I)I"⟩
abbrev cX0_sameKindFrom : ByteArray := prog_2_method_15_code
def yX0_sameKindFrom : MethodName := ⟨RX0, "sameKindFrom", "(I)I"⟩
abbrev cX0_numberOf : ByteArray := prog_2_method_16_code
def yX0_numberOf : MethodName := ⟨RX0, "numberOf", "(II)I"⟩
abbrev cX0_numberOfAll : ByteArray := prog_2_method_17_code
def yX0_numberOfAll : MethodName := ⟨RX0, "numberOfAll", "(I)I"⟩
abbrev cX0_chequesOf : ByteArray := prog_2_method_18_code
def yX0_chequesOf : MethodName := ⟨RX0, "chequesOf", "(II)I"⟩
abbrev cX0_amountsOf : ByteArray := prog_2_method_19_code
def yX0_amountsOf : MethodName := ⟨RX0, "amountsOf", "(II)I"⟩
abbrev cX0_firstBlankOf : ByteArray := prog_2_method_20_code
def yX0_firstBlankOf : MethodName := ⟨RX0, "firstBlankOf", "(I)I"⟩
abbrev cX0_bookOfRank : ByteArray := prog_2_method_21_code
def yX0_bookOfRank : MethodName := ⟨RX0, "bookOfRank", "(I)I"⟩
abbrev cX0_booksBefore : ByteArray := prog_2_method_22_code
def yX0_booksBefore : MethodName := ⟨RX0, "booksBefore", "(I)I"⟩
abbrev cX0_serialOfRank : ByteArray := prog_2_method_23_code
def yX0_serialOfRank : MethodName := ⟨RX0, "serialOfRank", "(I)I"⟩
def RX1 : String := "ChequeSerials$History"
def TX1 : u_T := fun k => match k with
  | 0 => ("ChequeSerials$History", "saved", "[LChequeSerials$State;", true)
  | 1 => ("ChequeSerials$History", "slots", "[LChequeSerials$State;", true)
  | 2 => ("ChequeSerials$History", "filled", "[Z", true)
  | _ => ("ChequeSerials$History", "depth", "I", false)
def tyX1 : Nat → FieldType := fun k => match k with
  | 0 => .array (.object "ChequeSerials$State")
  | 1 => .array (.object "ChequeSerials$State")
  | 2 => .array .boolean
  | _ => .int
abbrev wsX10 : List Cond := u_ws RX1 TX1 4
theorem nmX1 : ∀ a, a < 4 → ∀ b, b < 4 → a ≠ b → (TX1 a).2.1 ≠ (TX1 b).2.1 := by decide +kernel
theorem tyX1_ok : ∀ k, k < 4 → parseFieldDescriptor (TX1 k).2.2.1 = some (tyX1 k) := by decide +kernel
abbrev cX1_init : ByteArray := prog_3_method_1_code
def yX1_init : MethodName := ⟨RX1, "<init>", "()V"⟩
abbrev cX1_save : ByteArray := prog_3_method_2_code
def yX1_save : MethodName := ⟨RX1, "save", "(LChequeSerials$State;)V"⟩
abbrev cX1_dropOldest : ByteArray := prog_3_method_3_code
def yX1_dropOldest : MethodName := ⟨RX1, "dropOldest", "()V"⟩
abbrev cX1_restoreLast : ByteArray := prog_3_method_4_code
def yX1_restoreLast : MethodName := ⟨RX1, "restoreLast", "(LChequeSerials$State;)V"⟩
abbrev cX1_isSlotFilled : ByteArray := prog_3_method_5_code
def yX1_isSlotFilled : MethodName := ⟨RX1, "isSlotFilled", "(I)Z"⟩
abbrev cX1_putIntoSlot : ByteArray := prog_3_method_6_code
def yX1_putIntoSlot : MethodName := ⟨RX1, "putIntoSlot", "(ILChequeSerials$State;)V"⟩
abbrev cX1_restoreSlot : ByteArray := prog_3_method_7_code
def yX1_restoreSlot : MethodName := ⟨RX1, "restoreSlot", "(ILChequeSerials$State;)V"⟩
abbrev cX1_copyState : ByteArray := prog_3_method_8_code
def yX1_copyState : MethodName := ⟨RX1, "copyState", "(LChequeSerials$State;LChequeSerials$State;)V"⟩
def RX2 : String := "ChequeSerials$Letters"
def TX2 : u_T := fun k => match k with
  | 0 => ("ChequeSerials$Letters", "weights", "[I", true)
  | _ => ("ChequeSerials$Letters", "modulus", "I", false)
def tyX2 : Nat → FieldType := fun k => match k with
  | 0 => .array .int
  | _ => .int
abbrev wsX20 : List Cond := u_ws RX2 TX2 2
theorem nmX2 : ∀ a, a < 2 → ∀ b, b < 2 → a ≠ b → (TX2 a).2.1 ≠ (TX2 b).2.1 := by decide +kernel
theorem tyX2_ok : ∀ k, k < 2 → parseFieldDescriptor (TX2 k).2.2.1 = some (tyX2 k) := by decide +kernel
abbrev cX2_init : ByteArray := prog_4_method_1_code
def yX2_init : MethodName := ⟨RX2, "<init>", "()V"⟩
abbrev cX2_copyFrom : ByteArray := prog_4_method_2_code
def yX2_copyFrom : MethodName := ⟨RX2, "copyFrom", "(LChequeSerials$Letters;)V"⟩
abbrev cX2_weightAt : ByteArray := prog_4_method_3_code
def yX2_weightAt : MethodName := ⟨RX2, "weightAt", "(I)I"⟩
abbrev cX2_setWeight : ByteArray := prog_4_method_4_code
def yX2_setWeight : MethodName := ⟨RX2, "setWeight", "(II)V"⟩
abbrev cX2_letterOf : ByteArray := prog_4_method_5_code
def yX2_letterOf : MethodName := ⟨RX2, "letterOf", "(I)I"⟩
abbrev cX2_restOf : ByteArray := prog_4_method_6_code
def yX2_restOf : MethodName := ⟨RX2, "restOf", "(I)I"⟩
abbrev cX2_digitAt : ByteArray := prog_4_method_7_code
def yX2_digitAt : MethodName := ⟨RX2, "digitAt", "(II)I"⟩
abbrev cX2_factorAt : ByteArray := prog_4_method_8_code
def yX2_factorAt : MethodName := ⟨RX2, "factorAt", "(II)I"⟩
abbrev cX2_isHidden : ByteArray := prog_4_method_9_code
def yX2_isHidden : MethodName := ⟨RX2, "isHidden", "(II)Z"⟩
abbrev cX2_hiddenPairsTried : ByteArray := prog_4_method_10_code
def yX2_hiddenPairsTried : MethodName := ⟨RX2, "hiddenPairsTried", "(I)I"⟩
abbrev cX2_hiddenPairs : ByteArray := prog_4_method_11_code
def yX2_hiddenPairs : MethodName := ⟨RX2, "hiddenPairs", "(I)I"⟩
abbrev cX2_hiddenPairsWith : ByteArray := prog_4_method_12_code
def yX2_hiddenPairsWith : MethodName := ⟨RX2, "hiddenPairsWith", "(II)I"⟩
abbrev cX2_hidesNothing : ByteArray := prog_4_method_13_code
def yX2_hidesNothing : MethodName := ⟨RX2, "hidesNothing", "(I)Z"⟩
abbrev cX2_hiddenMisreadings : ByteArray := prog_4_method_14_code
def yX2_hiddenMisreadings : MethodName := ⟨RX2, "hiddenMisreadings", "(I)I"⟩
abbrev cX2_hiddenSwaps : ByteArray := prog_4_method_15_code
def yX2_hiddenSwaps : MethodName := ⟨RX2, "hiddenSwaps", "(I)I"⟩
abbrev cX2_slipKind : ByteArray := prog_4_method_16_code
def yX2_slipKind : MethodName := ⟨RX2, "slipKind", "(III)I"⟩
abbrev cX2_digitSlip : ByteArray := prog_4_method_17_code
def yX2_digitSlip : MethodName := ⟨RX2, "digitSlip", "(II)I"⟩
abbrev cX2_isSwapped : ByteArray := prog_4_method_18_code
def yX2_isSwapped : MethodName := ⟨RX2, "isSwapped", "(III)Z"⟩
def RX3 : String := "ChequeSerials$OrderText"
def TX3 : u_T := fun k => match k with
  | 0 => ("ChequeSerials$OrderText", "signs", "[I", true)
  | _ => ("ChequeSerials$OrderText", "length", "I", false)
def tyX3 : Nat → FieldType := fun k => match k with
  | 0 => .array .int
  | _ => .int
abbrev wsX30 : List Cond := u_ws RX3 TX3 2
theorem nmX3 : ∀ a, a < 2 → ∀ b, b < 2 → a ≠ b → (TX3 a).2.1 ≠ (TX3 b).2.1 := by decide +kernel
theorem tyX3_ok : ∀ k, k < 2 → parseFieldDescriptor (TX3 k).2.2.1 = some (tyX3 k) := by decide +kernel
abbrev cX3_init : ByteArray := prog_5_method_1_code
def yX3_init : MethodName := ⟨RX3, "<init>", "()V"⟩
abbrev cX3_isFull : ByteArray := prog_5_method_2_code
def yX3_isFull : MethodName := ⟨RX3, "isFull", "()Z"⟩
abbrev cX3_add : ByteArray := prog_5_method_3_code
def yX3_add : MethodName := ⟨RX3, "add", "(I)I"⟩
abbrev cX3_clear : ByteArray := prog_5_method_4_code
def yX3_clear : MethodName := ⟨RX3, "clear", "()I"⟩
abbrev cX3_signAt : ByteArray := prog_5_method_5_code
def yX3_signAt : MethodName := ⟨RX3, "signAt", "(I)I"⟩
abbrev cX3_numberIn : ByteArray := prog_5_method_6_code
def yX3_numberIn : MethodName := ⟨RX3, "numberIn", "(II)I"⟩
abbrev cX3_errorIndex : ByteArray := prog_5_method_7_code
def yX3_errorIndex : MethodName := ⟨RX3, "errorIndex", "()I"⟩
abbrev cX3_isComplete : ByteArray := prog_5_method_8_code
def yX3_isComplete : MethodName := ⟨RX3, "isComplete", "()Z"⟩
abbrev cX3_fits : ByteArray := prog_5_method_9_code
def yX3_fits : MethodName := ⟨RX3, "fits", "(II)Z"⟩
abbrev cX3_isWhole : ByteArray := prog_5_method_10_code
def yX3_isWhole : MethodName := ⟨RX3, "isWhole", "(II)Z"⟩
abbrev cX3_isDigit : ByteArray := prog_5_method_11_code
def yX3_isDigit : MethodName := ⟨RX3, "isDigit", "(I)Z"⟩
abbrev cX3_endsHead : ByteArray := prog_5_method_12_code
def yX3_endsHead : MethodName := ⟨RX3, "endsHead", "(II)Z"⟩
abbrev cX3_fitsBehindHead : ByteArray := prog_5_method_13_code
def yX3_fitsBehindHead : MethodName := ⟨RX3, "fitsBehindHead", "(II)Z"⟩
def RX4 : String := "ChequeSerials$State"
def TX4 : u_T := fun k => match k with
  | 0 => ("ChequeSerials$State", "letters", "LChequeSerials$Letters;", true)
  | 1 => ("ChequeSerials$State", "books", "LChequeSerials$Books;", true)
  | _ => ("ChequeSerials$State", "refusals", "I", false)
def tyX4 : Nat → FieldType := fun k => match k with
  | 0 => .object "ChequeSerials$Letters"
  | 1 => .object "ChequeSerials$Books"
  | _ => .int
abbrev wsX40 : List Cond := u_ws RX4 TX4 3
theorem nmX4 : ∀ a, a < 3 → ∀ b, b < 3 → a ≠ b → (TX4 a).2.1 ≠ (TX4 b).2.1 := by decide +kernel
theorem tyX4_ok : ∀ k, k < 3 → parseFieldDescriptor (TX4 k).2.2.1 = some (tyX4 k) := by decide +kernel
abbrev cX4_init : ByteArray := prog_6_method_1_code
def yX4_init : MethodName := ⟨RX4, "<init>", "()V"⟩
abbrev cX4_copyFrom : ByteArray := prog_6_method_2_code
def yX4_copyFrom : MethodName := ⟨RX4, "copyFrom", "(LChequeSerials$State;)V"⟩
abbrev cX4_cashByReading : ByteArray := prog_6_method_3_code
def yX4_cashByReading : MethodName := ⟨RX4, "cashByReading", "(II)I"⟩
abbrev cX4_reasonAgainstCashing : ByteArray := prog_6_method_4_code
def yX4_reasonAgainstCashing : MethodName := ⟨RX4, "reasonAgainstCashing", "(II)I"⟩
abbrev cX4_meantCheques : ByteArray := prog_6_method_5_code
def yX4_meantCheques : MethodName := ⟨RX4, "meantCheques", "(III)I"⟩
def RX5 : String := "ChequeSerials"
def TX5 : u_T := fun k => match k with
  | 0 => ("ChequeSerials", "now", "LChequeSerials$State;", true)
  | 1 => ("ChequeSerials", "history", "LChequeSerials$History;", true)
  | _ => ("ChequeSerials", "orders", "LChequeSerials$OrderText;", true)
def tyX5 : Nat → FieldType := fun k => match k with
  | 0 => .object "ChequeSerials$State"
  | 1 => .object "ChequeSerials$History"
  | _ => .object "ChequeSerials$OrderText"
abbrev wsX50 : List Cond := u_ws RX5 TX5 3
theorem nmX5 : ∀ a, a < 3 → ∀ b, b < 3 → a ≠ b → (TX5 a).2.1 ≠ (TX5 b).2.1 := by decide +kernel
theorem tyX5_ok : ∀ k, k < 3 → parseFieldDescriptor (TX5 k).2.2.1 = some (tyX5 k) := by decide +kernel
abbrev cX5_init : ByteArray := prog_1_method_1_code
def yX5_init : MethodName := ⟨RX5, "<init>", "()V"⟩
abbrev cX5_weight : ByteArray := prog_1_method_2_code
def yX5_weight : MethodName := ⟨RX5, "weight", "(II)I"⟩
abbrev cX5_modulus : ByteArray := prog_1_method_3_code
def yX5_modulus : MethodName := ⟨RX5, "modulus", "(I)I"⟩
abbrev cX5_book : ByteArray := prog_1_method_4_code
def yX5_book : MethodName := ⟨RX5, "book", "(II)I"⟩
abbrev cX5_write : ByteArray := prog_1_method_5_code
def yX5_write : MethodName := ⟨RX5, "write", "(II)I"⟩
abbrev cX5_cash : ByteArray := prog_1_method_6_code
def yX5_cash : MethodName := ⟨RX5, "cash", "(II)I"⟩
abbrev cX5_voidRun : ByteArray := prog_1_method_7_code
def yX5_voidRun : MethodName := ⟨RX5, "voidRun", "(II)I"⟩
abbrev cX5_append : ByteArray := prog_1_method_8_code
def yX5_append : MethodName := ⟨RX5, "append", "(I)I"⟩
abbrev cX5_clearBuffer : ByteArray := prog_1_method_9_code
def yX5_clearBuffer : MethodName := ⟨RX5, "clearBuffer", "()I"⟩
abbrev cX5_firstError : ByteArray := prog_1_method_10_code
def yX5_firstError : MethodName := ⟨RX5, "firstError", "()I"⟩
abbrev cX5_execute : ByteArray := prog_1_method_11_code
def yX5_execute : MethodName := ⟨RX5, "execute", "()I"⟩
abbrev cX5_undo : ByteArray := prog_1_method_12_code
def yX5_undo : MethodName := ⟨RX5, "undo", "()I"⟩
abbrev cX5_keep : ByteArray := prog_1_method_13_code
def yX5_keep : MethodName := ⟨RX5, "keep", "(I)I"⟩
abbrev cX5_goBack : ByteArray := prog_1_method_14_code
def yX5_goBack : MethodName := ⟨RX5, "goBack", "(I)I"⟩
abbrev cX5_letter : ByteArray := prog_1_method_15_code
def yX5_letter : MethodName := ⟨RX5, "letter", "(I)I"⟩
abbrev cX5_cheque : ByteArray := prog_1_method_16_code
def yX5_cheque : MethodName := ⟨RX5, "cheque", "(II)I"⟩
abbrev cX5_bookOf : ByteArray := prog_1_method_17_code
def yX5_bookOf : MethodName := ⟨RX5, "bookOf", "(II)I"⟩
abbrev cX5_count : ByteArray := prog_1_method_18_code
def yX5_count : MethodName := ⟨RX5, "count", "(I)I"⟩
abbrev cX5_ranked : ByteArray := prog_1_method_19_code
def yX5_ranked : MethodName := ⟨RX5, "ranked", "(I)I"⟩
abbrev cX5_missed : ByteArray := prog_1_method_20_code
def yX5_missed : MethodName := ⟨RX5, "missed", "(II)I"⟩
abbrev cX5_weak : ByteArray := prog_1_method_21_code
def yX5_weak : MethodName := ⟨RX5, "weak", "(III)I"⟩
abbrev cX5_finds : ByteArray := prog_1_method_22_code
def yX5_finds : MethodName := ⟨RX5, "finds", "(I)Z"⟩
abbrev cX5_bestWeight : ByteArray := prog_1_method_23_code
def yX5_bestWeight : MethodName := ⟨RX5, "bestWeight", "(I)I"⟩
abbrev cX5_meant : ByteArray := prog_1_method_24_code
def yX5_meant : MethodName := ⟨RX5, "meant", "(III)I"⟩
abbrev cX5_slip : ByteArray := prog_1_method_25_code
def yX5_slip : MethodName := ⟨RX5, "slip", "(III)I"⟩
abbrev cX5_cashed : ByteArray := prog_1_method_26_code
def yX5_cashed : MethodName := ⟨RX5, "cashed", "()D"⟩
abbrev cX5_throwIfNoPosition : ByteArray := prog_1_method_27_code
def yX5_throwIfNoPosition : MethodName := ⟨RX5, "throwIfNoPosition", "(I)V"⟩
abbrev cX5_throwIfNoSerial : ByteArray := prog_1_method_28_code
def yX5_throwIfNoSerial : MethodName := ⟨RX5, "throwIfNoSerial", "(I)V"⟩
abbrev cX5_throwIfNoLetter : ByteArray := prog_1_method_29_code
def yX5_throwIfNoLetter : MethodName := ⟨RX5, "throwIfNoLetter", "(I)V"⟩
abbrev cX5_throwIfNoSlipKind : ByteArray := prog_1_method_30_code
def yX5_throwIfNoSlipKind : MethodName := ⟨RX5, "throwIfNoSlipKind", "(I)V"⟩
abbrev cX5_throwIfNoSlot : ByteArray := prog_1_method_31_code
def yX5_throwIfNoSlot : MethodName := ⟨RX5, "throwIfNoSlot", "(I)V"⟩
abbrev cX5_throwIfFaulty : ByteArray := prog_1_method_32_code
def yX5_throwIfFaulty : MethodName := ⟨RX5, "throwIfFaulty", "(I)V"⟩
abbrev cX5_isSerial : ByteArray := prog_1_method_33_code
def yX5_isSerial : MethodName := ⟨RX5, "isSerial", "(I)Z"⟩
abbrev cX5_positionsOf : ByteArray := prog_1_method_34_code
def yX5_positionsOf : MethodName := ⟨RX5, "positionsOf", "(I)I"⟩
abbrev cX5_faultOfBook : ByteArray := prog_1_method_35_code
def yX5_faultOfBook : MethodName := ⟨RX5, "faultOfBook", "(II)I"⟩
abbrev cX5_faultOfWriting : ByteArray := prog_1_method_36_code
def yX5_faultOfWriting : MethodName := ⟨RX5, "faultOfWriting", "(II)I"⟩
abbrev cX5_faultOfRun : ByteArray := prog_1_method_37_code
def yX5_faultOfRun : MethodName := ⟨RX5, "faultOfRun", "(II)I"⟩
abbrev cX5_runOrders : ByteArray := prog_1_method_38_code
def yX5_runOrders : MethodName := ⟨RX5, "runOrders", "()I"⟩
abbrev cX5_runOrder : ByteArray := prog_1_method_39_code
def yX5_runOrder : MethodName := ⟨RX5, "runOrder", "(II)Z"⟩
abbrev cX5_runBook : ByteArray := prog_1_method_40_code
def yX5_runBook : MethodName := ⟨RX5, "runBook", "(II)Z"⟩
abbrev cX5_runWriting : ByteArray := prog_1_method_41_code
def yX5_runWriting : MethodName := ⟨RX5, "runWriting", "(II)Z"⟩
abbrev cX5_runVoiding : ByteArray := prog_1_method_42_code
def yX5_runVoiding : MethodName := ⟨RX5, "runVoiding", "(II)Z"⟩
abbrev cX5_copyRow : ByteArray := prog_1_method_43_code
def yX5_copyRow : MethodName := ⟨RX5, "copyRow", "([I[I)V"⟩
def RX6 : String := "ChequeSerialsModel"
def TX6 : u_T := fun k => match k with
  | _ => ("", "", "", false)
def tyX6 : Nat → FieldType := fun k => match k with
  | _ => .int
abbrev wsX60 : List Cond := u_ws RX6 TX6 0
theorem nmX6 : ∀ a, a < 0 → ∀ b, b < 0 → a ≠ b → (TX6 a).2.1 ≠ (TX6 b).2.1 := by decide +kernel
theorem tyX6_ok : ∀ k, k < 0 → parseFieldDescriptor (TX6 k).2.2.1 = some (tyX6 k) := by decide +kernel
def RL : String := "ChequeSerialsLaw"
abbrev cL_part : ByteArray := method_2_code
def yL_part : MethodName := ⟨RL, "part", "(II)I"⟩
abbrev cL_drawn : ByteArray := method_3_code
def yL_drawn : MethodName := ⟨RL, "drawn", "([II)I"⟩
abbrev cL_call : ByteArray := method_4_code
def yL_call : MethodName := ⟨RL, "call", "(LChequeSerials;IIII)I"⟩
abbrev cL_seen : ByteArray := method_5_code
def yL_seen : MethodName := ⟨RL, "seen", "(LChequeSerials;)J"⟩
abbrev cL_far : ByteArray := method_6_code
def yL_far : MethodName := ⟨RL, "far", "(III)I"⟩
abbrev cL_refusesOne : ByteArray := method_7_code
def yL_refusesOne : MethodName := ⟨RL, "refusesOne", "(LChequeSerials;I)Z"⟩
abbrev cL_refused : ByteArray := method_8_code
def yL_refused : MethodName := ⟨RL, "refused", "(LChequeSerials;)Z"⟩
abbrev cL_letters : ByteArray := method_9_code
def yL_letters : MethodName := ⟨RL, "letters", "()Z"⟩
abbrev cL_cheques : ByteArray := method_10_code
def yL_cheques : MethodName := ⟨RL, "cheques", "()Z"⟩
abbrev cL_types : ByteArray := method_11_code
def yL_types : MethodName := ⟨RL, "types", "(LChequeSerials;J)Z"⟩
abbrev cL_isError : ByteArray := method_12_code
def yL_isError : MethodName := ⟨RL, "isError", "(LChequeSerials;JJI)Z"⟩
abbrev cL_texts : ByteArray := method_13_code
def yL_texts : MethodName := ⟨RL, "texts", "()Z"⟩
abbrev cL_law : ByteArray := code
def yL_law : MethodName := ⟨RL, "law", "([I)Z"⟩
abbrev vwCl : List vw_C := [(RX0, TX0, 5), (RX1, TX1, 4), (RX2, TX2, 2), (RX3, TX3, 2), (RX4, TX4, 3), (RX5, TX5, 3)]
/-- one list of words for all methods: what the tables say and a call may take along -/
def lw_all : List Cond := lw_tbl.filter goodWord
theorem lw_all_tbl {w : Cond} (h : w ∈ lw_all) : w ∈ lw_tbl := (List.mem_filter.mp h).1
theorem lw_all_good {w : Cond} (h : w ∈ lw_all) : (w.onTables && w.keeps) = true ∨ ∃ ty, w = .arrayClass ty := good_of_word (List.mem_filter.mp h).2
theorem in_all {w : Cond} (k : Nat) (h : lw_tbl[k]? = some w) (g : goodWord w = true) : w ∈ lw_all := List.mem_filter.mpr ⟨List.mem_of_getElem? h, g⟩
theorem gd_all {c : Cond} (h : c ∈ lw_all) : GoodIn lw_all (c :: lw_all) := fun w hw => by
  rcases List.mem_cons.mp hw with rfl | hw
  · exact ⟨h, lw_all_good h⟩
  · exact ⟨hw, lw_all_good hw⟩
theorem gd_V {c : Cond} {own C : String} {ix : Nat} {y : MethodName} (h1 : Cond.methodLink own ix y ∈ lw_all) (h2 : Cond.instanceMethod y ∈ lw_all) (h3 : Cond.selects C y y ∈ lw_all) (h4 : Cond.initialized C ∈ lw_all) (h : c ∈ lw_all) : GoodIn lw_all (wsV own ix C y (c :: lw_all)) := fun w hw => by
  unfold wsV at hw
  rcases List.mem_append.mp hw with hw | hw
  · have : w ∈ lw_all := by
      rcases List.mem_cons.mp hw with rfl | hw
      · exact h1
      rcases List.mem_cons.mp hw with rfl | hw
      · exact h2
      rcases List.mem_cons.mp hw with rfl | hw
      · exact h3
      rcases List.mem_cons.mp hw with rfl | hw
      · exact h4
      cases hw
    exact ⟨this, lw_all_good this⟩
  · exact gd_all h w hw
theorem gd_S {c : Cond} {own : String} {ix : Nat} {y : MethodName} (h1 : Cond.methodLink own ix y ∈ lw_all) (h2 : Cond.static y ∈ lw_all) (h4 : Cond.initialized y.cls ∈ lw_all) (h : c ∈ lw_all) : GoodIn lw_all (va_wsS own ix y (c :: lw_all)) := fun w hw => by
  unfold va_wsS at hw
  rcases List.mem_append.mp hw with hw | hw
  · have : w ∈ lw_all := by
      rcases List.mem_cons.mp hw with rfl | hw
      · exact h1
      rcases List.mem_cons.mp hw with rfl | hw
      · exact h2
      rcases List.mem_cons.mp hw with rfl | hw
      · exact h4
      cases hw
    exact ⟨this, lw_all_good this⟩
  · exact gd_all h w hw
set_option maxRecDepth 20000 in
theorem wd_0 : (.selects RX5 yX5_faultOfBook yX5_faultOfBook : Cond) ∈ lw_all := in_all 0 (by decide +kernel) (by decide +kernel)
set_option maxRecDepth 20000 in
theorem wd_1 : (.selects "java/lang/Throwable" ⟨"java/lang/Throwable", "fillInStackTrace", "(I)Ljava/lang/Throwable;"⟩ ⟨"java/lang/Throwable", "fillInStackTrace", "(I)Ljava/lang/Throwable;"⟩ : Cond) ∈ lw_all := in_all 1 (by decide +kernel) (by decide +kernel)
set_option maxRecDepth 20000 in
theorem wd_2 : (.selects RX1 yX1_dropOldest yX1_dropOldest : Cond) ∈ lw_all := in_all 2 (by decide +kernel) (by decide +kernel)
set_option maxRecDepth 20000 in
theorem wd_3 : (.selects RX0 yX0_setCell yX0_setCell : Cond) ∈ lw_all := in_all 3 (by decide +kernel) (by decide +kernel)
set_option maxRecDepth 20000 in
theorem wd_4 : (.selects RX5 yX5_faultOfWriting yX5_faultOfWriting : Cond) ∈ lw_all := in_all 4 (by decide +kernel) (by decide +kernel)
set_option maxRecDepth 20000 in
theorem wd_5 : (.selects RX2 yX2_restOf yX2_restOf : Cond) ∈ lw_all := in_all 5 (by decide +kernel) (by decide +kernel)
set_option maxRecDepth 20000 in
theorem wd_6 : (.selects RX4 yX4_reasonAgainstCashing yX4_reasonAgainstCashing : Cond) ∈ lw_all := in_all 6 (by decide +kernel) (by decide +kernel)
set_option maxRecDepth 20000 in
theorem wd_7 : (.selects RX0 yX0_amountsOf yX0_amountsOf : Cond) ∈ lw_all := in_all 7 (by decide +kernel) (by decide +kernel)
set_option maxRecDepth 20000 in
theorem wd_8 : (.selects RX0 yX0_firstBlankOf yX0_firstBlankOf : Cond) ∈ lw_all := in_all 8 (by decide +kernel) (by decide +kernel)
set_option maxRecDepth 20000 in
theorem wd_9 : (.selects RX0 yX0_chequesOf yX0_chequesOf : Cond) ∈ lw_all := in_all 9 (by decide +kernel) (by decide +kernel)
set_option maxRecDepth 20000 in
theorem wd_10 : (.selects RX0 yX0_makeVoid yX0_makeVoid : Cond) ∈ lw_all := in_all 10 (by decide +kernel) (by decide +kernel)
set_option maxRecDepth 20000 in
theorem wd_11 : (.selects RX3 yX3_fits yX3_fits : Cond) ∈ lw_all := in_all 11 (by decide +kernel) (by decide +kernel)
set_option maxRecDepth 20000 in
theorem wd_12 : (.selects RX3 yX3_isWhole yX3_isWhole : Cond) ∈ lw_all := in_all 12 (by decide +kernel) (by decide +kernel)
set_option maxRecDepth 20000 in
theorem wd_13 : (.selects RX3 yX3_fitsBehindHead yX3_fitsBehindHead : Cond) ∈ lw_all := in_all 13 (by decide +kernel) (by decide +kernel)
set_option maxRecDepth 20000 in
theorem wd_14 : (.selects RX5 yX5_runOrders yX5_runOrders : Cond) ∈ lw_all := in_all 14 (by decide +kernel) (by decide +kernel)
set_option maxRecDepth 20000 in
theorem wd_15 : (.selects RX5 yX5_runOrder yX5_runOrder : Cond) ∈ lw_all := in_all 15 (by decide +kernel) (by decide +kernel)
set_option maxRecDepth 20000 in
theorem wd_16 : (.selects RX5 yX5_runBook yX5_runBook : Cond) ∈ lw_all := in_all 16 (by decide +kernel) (by decide +kernel)
set_option maxRecDepth 20000 in
theorem wd_17 : (.selects RX5 yX5_runWriting yX5_runWriting : Cond) ∈ lw_all := in_all 17 (by decide +kernel) (by decide +kernel)
set_option maxRecDepth 20000 in
theorem wd_18 : (.selects RX5 yX5_runVoiding yX5_runVoiding : Cond) ∈ lw_all := in_all 18 (by decide +kernel) (by decide +kernel)
set_option maxRecDepth 20000 in
theorem wd_19 : (.selects RX0 yX0_booksBefore yX0_booksBefore : Cond) ∈ lw_all := in_all 19 (by decide +kernel) (by decide +kernel)
set_option maxRecDepth 20000 in
theorem wd_20 : (.selects RX2 yX2_isHidden yX2_isHidden : Cond) ∈ lw_all := in_all 20 (by decide +kernel) (by decide +kernel)
set_option maxRecDepth 20000 in
theorem wd_21 : (.initialized RL : Cond) ∈ lw_all := in_all 21 (by decide +kernel) (by decide +kernel)
set_option maxRecDepth 20000 in
theorem wd_22 : (.initialized RX5 : Cond) ∈ lw_all := in_all 22 (by decide +kernel) (by decide +kernel)
set_option maxRecDepth 20000 in
theorem wd_23 : (.initialized RX4 : Cond) ∈ lw_all := in_all 23 (by decide +kernel) (by decide +kernel)
set_option maxRecDepth 20000 in
theorem wd_24 : (.initialized RX2 : Cond) ∈ lw_all := in_all 24 (by decide +kernel) (by decide +kernel)
set_option maxRecDepth 20000 in
theorem wd_25 : (.initialized RX0 : Cond) ∈ lw_all := in_all 25 (by decide +kernel) (by decide +kernel)
set_option maxRecDepth 20000 in
theorem wd_26 : (.initialized RX1 : Cond) ∈ lw_all := in_all 26 (by decide +kernel) (by decide +kernel)
set_option maxRecDepth 20000 in
theorem wd_27 : (.initialized RX3 : Cond) ∈ lw_all := in_all 27 (by decide +kernel) (by decide +kernel)
set_option maxRecDepth 20000 in
theorem wd_28 : (.initialized "java/lang/Throwable" : Cond) ∈ lw_all := in_all 28 (by decide +kernel) (by decide +kernel)
set_option maxRecDepth 20000 in
theorem wd_29 : (.initialized "java/lang/Exception" : Cond) ∈ lw_all := in_all 29 (by decide +kernel) (by decide +kernel)
set_option maxRecDepth 20000 in
theorem wd_30 : (.initialized "java/lang/RuntimeException" : Cond) ∈ lw_all := in_all 30 (by decide +kernel) (by decide +kernel)
set_option maxRecDepth 20000 in
theorem wd_31 : (.initialized "java/lang/IndexOutOfBoundsException" : Cond) ∈ lw_all := in_all 31 (by decide +kernel) (by decide +kernel)
set_option maxRecDepth 20000 in
theorem wd_32 : (.initialized "java/lang/IllegalArgumentException" : Cond) ∈ lw_all := in_all 32 (by decide +kernel) (by decide +kernel)
set_option maxRecDepth 20000 in
theorem wd_33 : (.initialized "java/lang/IllegalStateException" : Cond) ∈ lw_all := in_all 33 (by decide +kernel) (by decide +kernel)
set_option maxRecDepth 20000 in
theorem wd_34 : (.initialized "java/lang/Math" : Cond) ∈ lw_all := in_all 34 (by decide +kernel) (by decide +kernel)
set_option maxRecDepth 20000 in
theorem wd_35 : (.classLink RL 10 RX5 : Cond) ∈ lw_all := in_all 35 (by decide +kernel) (by decide +kernel)
set_option maxRecDepth 20000 in
theorem wd_36 : (.instantiable RX5 3 : Cond) ∈ lw_all := in_all 36 (by decide +kernel) (by decide +kernel)
set_option maxRecDepth 20000 in
theorem wd_37 : (.methodLink RL 116 yX5_init : Cond) ∈ lw_all := in_all 37 (by decide +kernel) (by decide +kernel)
set_option maxRecDepth 20000 in
theorem wd_38 : (.instanceMethod yX5_init : Cond) ∈ lw_all := in_all 38 (by decide +kernel) (by decide +kernel)
set_option maxRecDepth 20000 in
theorem wd_39 : (.code yX5_init cX5_init 1 none : Cond) ∈ lw_all := in_all 39 (by decide +kernel) (by decide +kernel)
set_option maxRecDepth 20000 in
theorem wd_40 : (.methodLink RX5 1 objectInit : Cond) ∈ lw_all := in_all 40 (by decide +kernel) (by decide +kernel)
set_option maxRecDepth 20000 in
theorem wd_41 : (.instanceMethod objectInit : Cond) ∈ lw_all := in_all 41 (by decide +kernel) (by decide +kernel)
set_option maxRecDepth 20000 in
theorem wd_42 : (.code objectInit object_method_1_code 1 none : Cond) ∈ lw_all := in_all 42 (by decide +kernel) (by decide +kernel)
set_option maxRecDepth 20000 in
theorem wd_43 : (.classLink RX5 7 RX4 : Cond) ∈ lw_all := in_all 43 (by decide +kernel) (by decide +kernel)
set_option maxRecDepth 20000 in
theorem wd_44 : (.instantiable RX4 3 : Cond) ∈ lw_all := in_all 44 (by decide +kernel) (by decide +kernel)
set_option maxRecDepth 20000 in
theorem wd_46 : (.instanceMethod yX4_init : Cond) ∈ lw_all := in_all 46 (by decide +kernel) (by decide +kernel)
set_option maxRecDepth 20000 in
theorem wd_47 : (.code yX4_init cX4_init 1 none : Cond) ∈ lw_all := in_all 47 (by decide +kernel) (by decide +kernel)
set_option maxRecDepth 20000 in
theorem wd_48 : (.methodLink RX4 3 objectInit : Cond) ∈ lw_all := in_all 48 (by decide +kernel) (by decide +kernel)
set_option maxRecDepth 20000 in
theorem wd_49 : (.classLink RX4 9 RX2 : Cond) ∈ lw_all := in_all 49 (by decide +kernel) (by decide +kernel)
set_option maxRecDepth 20000 in
theorem wd_50 : (.instantiable RX2 2 : Cond) ∈ lw_all := in_all 50 (by decide +kernel) (by decide +kernel)
set_option maxRecDepth 20000 in
theorem wd_51 : (.methodLink RX4 11 yX2_init : Cond) ∈ lw_all := in_all 51 (by decide +kernel) (by decide +kernel)
set_option maxRecDepth 20000 in
theorem wd_52 : (.instanceMethod yX2_init : Cond) ∈ lw_all := in_all 52 (by decide +kernel) (by decide +kernel)
set_option maxRecDepth 20000 in
theorem wd_53 : (.code yX2_init cX2_init 2 none : Cond) ∈ lw_all := in_all 53 (by decide +kernel) (by decide +kernel)
set_option maxRecDepth 20000 in
theorem wd_54 : (.methodLink RX2 3 objectInit : Cond) ∈ lw_all := in_all 54 (by decide +kernel) (by decide +kernel)
set_option maxRecDepth 20000 in
theorem wd_55 : (.fieldLink RX2 9 "ChequeSerials$Letters" "weights" "[I" : Cond) ∈ lw_all := in_all 55 (by decide +kernel) (by decide +kernel)
set_option maxRecDepth 20000 in
theorem wd_56 : (.fieldLink RX2 15 "ChequeSerials$Letters" "modulus" "I" : Cond) ∈ lw_all := in_all 56 (by decide +kernel) (by decide +kernel)
set_option maxRecDepth 20000 in
theorem wd_57 : (.fieldLink RX5 61 "ChequeSerials$Letters" "modulus" "I" : Cond) ∈ lw_all := in_all 57 (by decide +kernel) (by decide +kernel)
set_option maxRecDepth 20000 in
theorem wd_63 : (.arrayClass .int : Cond) ∈ lw_all := in_all 63 (by decide +kernel) (by decide +kernel)
set_option maxRecDepth 20000 in
theorem wd_64 : (.classLink RX4 18 RX0 : Cond) ∈ lw_all := in_all 64 (by decide +kernel) (by decide +kernel)
set_option maxRecDepth 20000 in
theorem wd_65 : (.instantiable RX0 5 : Cond) ∈ lw_all := in_all 65 (by decide +kernel) (by decide +kernel)
set_option maxRecDepth 20000 in
theorem wd_67 : (.instanceMethod yX0_init : Cond) ∈ lw_all := in_all 67 (by decide +kernel) (by decide +kernel)
set_option maxRecDepth 20000 in
theorem wd_68 : (.code yX0_init cX0_init 1 none : Cond) ∈ lw_all := in_all 68 (by decide +kernel) (by decide +kernel)
set_option maxRecDepth 20000 in
theorem wd_69 : (.methodLink RX0 3 objectInit : Cond) ∈ lw_all := in_all 69 (by decide +kernel) (by decide +kernel)
set_option maxRecDepth 20000 in
theorem wd_70 : (.fieldLink RX0 9 "ChequeSerials$Books" "firsts" "[I" : Cond) ∈ lw_all := in_all 70 (by decide +kernel) (by decide +kernel)
set_option maxRecDepth 20000 in
theorem wd_71 : (.fieldLink RX0 15 "ChequeSerials$Books" "sizes" "[I" : Cond) ∈ lw_all := in_all 71 (by decide +kernel) (by decide +kernel)
set_option maxRecDepth 20000 in
theorem wd_72 : (.fieldLink RX0 18 "ChequeSerials$Books" "kinds" "[I" : Cond) ∈ lw_all := in_all 72 (by decide +kernel) (by decide +kernel)
set_option maxRecDepth 20000 in
theorem wd_73 : (.fieldLink RX0 21 "ChequeSerials$Books" "amounts" "[I" : Cond) ∈ lw_all := in_all 73 (by decide +kernel) (by decide +kernel)
set_option maxRecDepth 20000 in
theorem wd_74 : (.fieldLink RX0 28 "ChequeSerials$Books" "held" "I" : Cond) ∈ lw_all := in_all 74 (by decide +kernel) (by decide +kernel)
set_option maxRecDepth 20000 in
theorem wd_75 : (.fieldLink RX4 57 "ChequeSerials$Books" "held" "I" : Cond) ∈ lw_all := in_all 75 (by decide +kernel) (by decide +kernel)
set_option maxRecDepth 20000 in
theorem wd_76 : (.fieldLink RX5 151 "ChequeSerials$Books" "held" "I" : Cond) ∈ lw_all := in_all 76 (by decide +kernel) (by decide +kernel)
set_option maxRecDepth 20000 in
theorem wd_88 : (.fieldLink RX4 12 "ChequeSerials$State" "letters" "LChequeSerials$Letters;" : Cond) ∈ lw_all := in_all 88 (by decide +kernel) (by decide +kernel)
set_option maxRecDepth 20000 in
theorem wd_89 : (.fieldLink RX5 45 "ChequeSerials$State" "letters" "LChequeSerials$Letters;" : Cond) ∈ lw_all := in_all 89 (by decide +kernel) (by decide +kernel)
set_option maxRecDepth 20000 in
theorem wd_90 : (.fieldLink RX4 21 "ChequeSerials$State" "books" "LChequeSerials$Books;" : Cond) ∈ lw_all := in_all 90 (by decide +kernel) (by decide +kernel)
set_option maxRecDepth 20000 in
theorem wd_91 : (.fieldLink RX5 72 "ChequeSerials$State" "books" "LChequeSerials$Books;" : Cond) ∈ lw_all := in_all 91 (by decide +kernel) (by decide +kernel)
set_option maxRecDepth 20000 in
theorem wd_92 : (.fieldLink RX4 32 "ChequeSerials$State" "refusals" "I" : Cond) ∈ lw_all := in_all 92 (by decide +kernel) (by decide +kernel)
set_option maxRecDepth 20000 in
theorem wd_93 : (.fieldLink RX5 188 "ChequeSerials$State" "refusals" "I" : Cond) ∈ lw_all := in_all 93 (by decide +kernel) (by decide +kernel)
set_option maxRecDepth 20000 in
theorem wd_101 : (.classLink RX5 16 RX1 : Cond) ∈ lw_all := in_all 101 (by decide +kernel) (by decide +kernel)
set_option maxRecDepth 20000 in
theorem wd_102 : (.instantiable RX1 4 : Cond) ∈ lw_all := in_all 102 (by decide +kernel) (by decide +kernel)
set_option maxRecDepth 20000 in
theorem wd_103 : (.methodLink RX5 18 yX1_init : Cond) ∈ lw_all := in_all 103 (by decide +kernel) (by decide +kernel)
set_option maxRecDepth 20000 in
theorem wd_104 : (.instanceMethod yX1_init : Cond) ∈ lw_all := in_all 104 (by decide +kernel) (by decide +kernel)
set_option maxRecDepth 20000 in
theorem wd_105 : (.code yX1_init cX1_init 2 none : Cond) ∈ lw_all := in_all 105 (by decide +kernel) (by decide +kernel)
set_option maxRecDepth 20000 in
theorem wd_106 : (.methodLink RX1 3 objectInit : Cond) ∈ lw_all := in_all 106 (by decide +kernel) (by decide +kernel)
set_option maxRecDepth 20000 in
theorem wd_107 : (.classLink RX1 9 RX4 : Cond) ∈ lw_all := in_all 107 (by decide +kernel) (by decide +kernel)
set_option maxRecDepth 20000 in
theorem wd_110 : (.fieldLink RX1 11 "ChequeSerials$History" "saved" "[LChequeSerials$State;" : Cond) ∈ lw_all := in_all 110 (by decide +kernel) (by decide +kernel)
set_option maxRecDepth 20000 in
theorem wd_111 : (.fieldLink RX1 17 "ChequeSerials$History" "slots" "[LChequeSerials$State;" : Cond) ∈ lw_all := in_all 111 (by decide +kernel) (by decide +kernel)
set_option maxRecDepth 20000 in
theorem wd_112 : (.fieldLink RX1 20 "ChequeSerials$History" "filled" "[Z" : Cond) ∈ lw_all := in_all 112 (by decide +kernel) (by decide +kernel)
set_option maxRecDepth 20000 in
theorem wd_113 : (.fieldLink RX1 25 "ChequeSerials$History" "depth" "I" : Cond) ∈ lw_all := in_all 113 (by decide +kernel) (by decide +kernel)
set_option maxRecDepth 20000 in
theorem wd_114 : (.fieldLink RX5 136 "ChequeSerials$History" "depth" "I" : Cond) ∈ lw_all := in_all 114 (by decide +kernel) (by decide +kernel)
set_option maxRecDepth 20000 in
theorem wd_124 : (.arrayClass .boolean : Cond) ∈ lw_all := in_all 124 (by decide +kernel) (by decide +kernel)
set_option maxRecDepth 20000 in
theorem wd_125 : (.classLink RX5 23 RX3 : Cond) ∈ lw_all := in_all 125 (by decide +kernel) (by decide +kernel)
set_option maxRecDepth 20000 in
theorem wd_126 : (.instantiable RX3 2 : Cond) ∈ lw_all := in_all 126 (by decide +kernel) (by decide +kernel)
set_option maxRecDepth 20000 in
theorem wd_128 : (.instanceMethod yX3_init : Cond) ∈ lw_all := in_all 128 (by decide +kernel) (by decide +kernel)
set_option maxRecDepth 20000 in
theorem wd_129 : (.code yX3_init cX3_init 1 none : Cond) ∈ lw_all := in_all 129 (by decide +kernel) (by decide +kernel)
set_option maxRecDepth 20000 in
theorem wd_130 : (.methodLink RX3 3 objectInit : Cond) ∈ lw_all := in_all 130 (by decide +kernel) (by decide +kernel)
set_option maxRecDepth 20000 in
theorem wd_131 : (.fieldLink RX3 9 "ChequeSerials$OrderText" "signs" "[I" : Cond) ∈ lw_all := in_all 131 (by decide +kernel) (by decide +kernel)
set_option maxRecDepth 20000 in
theorem wd_132 : (.fieldLink RX3 15 "ChequeSerials$OrderText" "length" "I" : Cond) ∈ lw_all := in_all 132 (by decide +kernel) (by decide +kernel)
set_option maxRecDepth 20000 in
theorem wd_133 : (.fieldLink RX5 191 "ChequeSerials$OrderText" "length" "I" : Cond) ∈ lw_all := in_all 133 (by decide +kernel) (by decide +kernel)
set_option maxRecDepth 20000 in
theorem wd_139 : (.fieldLink RX5 10 "ChequeSerials" "now" "LChequeSerials$State;" : Cond) ∈ lw_all := in_all 139 (by decide +kernel) (by decide +kernel)
set_option maxRecDepth 20000 in
theorem wd_140 : (.fieldLink RX5 19 "ChequeSerials" "history" "LChequeSerials$History;" : Cond) ∈ lw_all := in_all 140 (by decide +kernel) (by decide +kernel)
set_option maxRecDepth 20000 in
theorem wd_141 : (.fieldLink RX5 26 "ChequeSerials" "orders" "LChequeSerials$OrderText;" : Cond) ∈ lw_all := in_all 141 (by decide +kernel) (by decide +kernel)
set_option maxRecDepth 20000 in
theorem wd_149 : (.methodLink RL 19 yX5_book : Cond) ∈ lw_all := in_all 149 (by decide +kernel) (by decide +kernel)
set_option maxRecDepth 20000 in
theorem wd_150 : (.instanceMethod yX5_book : Cond) ∈ lw_all := in_all 150 (by decide +kernel) (by decide +kernel)
set_option maxRecDepth 20000 in
theorem wd_151 : (.selects RX5 yX5_book yX5_book : Cond) ∈ lw_all := in_all 151 (by decide +kernel) (by decide +kernel)
set_option maxRecDepth 20000 in
theorem wd_152 : (.code yX5_book cX5_book 3 (some .int) : Cond) ∈ lw_all := in_all 152 (by decide +kernel) (by decide +kernel)
set_option maxRecDepth 20000 in
theorem wd_153 : (.methodLink RX5 65 yX5_faultOfBook : Cond) ∈ lw_all := in_all 153 (by decide +kernel) (by decide +kernel)
set_option maxRecDepth 20000 in
theorem wd_155 : (.instanceMethod yX5_faultOfBook : Cond) ∈ lw_all := in_all 155 (by decide +kernel) (by decide +kernel)
set_option maxRecDepth 20000 in
theorem wd_156 : (.code yX5_faultOfBook cX5_faultOfBook 3 (some .int) : Cond) ∈ lw_all := in_all 156 (by decide +kernel) (by decide +kernel)
set_option maxRecDepth 20000 in
theorem wd_157 : (.methodLink RX5 242 yX5_isSerial : Cond) ∈ lw_all := in_all 157 (by decide +kernel) (by decide +kernel)
set_option maxRecDepth 20000 in
theorem wd_158 : (.static yX5_isSerial : Cond) ∈ lw_all := in_all 158 (by decide +kernel) (by decide +kernel)
set_option maxRecDepth 20000 in
theorem wd_159 : (.code yX5_isSerial cX5_isSerial 1 (some .boolean) : Cond) ∈ lw_all := in_all 159 (by decide +kernel) (by decide +kernel)
set_option maxRecDepth 20000 in
theorem wd_160 : (.constant RX5 259 (1000000) : Cond) ∈ lw_all := in_all 160 (by decide +kernel) (by decide +kernel)
set_option maxRecDepth 20000 in
theorem wd_161 : (.methodLink RX5 260 yX0_canTake : Cond) ∈ lw_all := in_all 161 (by decide +kernel) (by decide +kernel)
set_option maxRecDepth 20000 in
theorem wd_162 : (.instanceMethod yX0_canTake : Cond) ∈ lw_all := in_all 162 (by decide +kernel) (by decide +kernel)
set_option maxRecDepth 20000 in
theorem wd_163 : (.selects RX0 yX0_canTake yX0_canTake : Cond) ∈ lw_all := in_all 163 (by decide +kernel) (by decide +kernel)
set_option maxRecDepth 20000 in
theorem wd_164 : (.code yX0_canTake cX0_canTake 5 (some .boolean) : Cond) ∈ lw_all := in_all 164 (by decide +kernel) (by decide +kernel)
set_option maxRecDepth 20000 in
theorem wd_165 : (.methodLink RX0 32 yX0_firstOf : Cond) ∈ lw_all := in_all 165 (by decide +kernel) (by decide +kernel)
set_option maxRecDepth 20000 in
theorem wd_166 : (.instanceMethod yX0_firstOf : Cond) ∈ lw_all := in_all 166 (by decide +kernel) (by decide +kernel)
set_option maxRecDepth 20000 in
theorem wd_167 : (.selects RX0 yX0_firstOf yX0_firstOf : Cond) ∈ lw_all := in_all 167 (by decide +kernel) (by decide +kernel)
set_option maxRecDepth 20000 in
theorem wd_168 : (.code yX0_firstOf cX0_firstOf 2 (some .int) : Cond) ∈ lw_all := in_all 168 (by decide +kernel) (by decide +kernel)
set_option maxRecDepth 20000 in
theorem wd_169 : (.methodLink RX0 36 yX0_sizeOf : Cond) ∈ lw_all := in_all 169 (by decide +kernel) (by decide +kernel)
set_option maxRecDepth 20000 in
theorem wd_170 : (.instanceMethod yX0_sizeOf : Cond) ∈ lw_all := in_all 170 (by decide +kernel) (by decide +kernel)
set_option maxRecDepth 20000 in
theorem wd_171 : (.selects RX0 yX0_sizeOf yX0_sizeOf : Cond) ∈ lw_all := in_all 171 (by decide +kernel) (by decide +kernel)
set_option maxRecDepth 20000 in
theorem wd_172 : (.code yX0_sizeOf cX0_sizeOf 2 (some .int) : Cond) ∈ lw_all := in_all 172 (by decide +kernel) (by decide +kernel)
set_option maxRecDepth 20000 in
theorem wd_173 : (.methodLink RX5 69 yX5_throwIfFaulty : Cond) ∈ lw_all := in_all 173 (by decide +kernel) (by decide +kernel)
set_option maxRecDepth 20000 in
theorem wd_174 : (.static yX5_throwIfFaulty : Cond) ∈ lw_all := in_all 174 (by decide +kernel) (by decide +kernel)
set_option maxRecDepth 20000 in
theorem wd_175 : (.code yX5_throwIfFaulty cX5_throwIfFaulty 1 none : Cond) ∈ lw_all := in_all 175 (by decide +kernel) (by decide +kernel)
set_option maxRecDepth 20000 in
theorem wd_176 : (.classLink RX5 163 "java/lang/IndexOutOfBoundsException" : Cond) ∈ lw_all := in_all 176 (by decide +kernel) (by decide +kernel)
set_option maxRecDepth 20000 in
theorem wd_177 : (.instantiable "java/lang/IndexOutOfBoundsException" 6 : Cond) ∈ lw_all := in_all 177 (by decide +kernel) (by decide +kernel)
set_option maxRecDepth 20000 in
theorem wd_185 : (.selects "java/lang/IndexOutOfBoundsException" ⟨"java/lang/Throwable", "fillInStackTrace", "(I)Ljava/lang/Throwable;"⟩ ⟨"java/lang/Throwable", "fillInStackTrace", "(I)Ljava/lang/Throwable;"⟩ : Cond) ∈ lw_all := in_all 185 (by decide +kernel) (by decide +kernel)
set_option maxRecDepth 20000 in
theorem wd_186 : (.selects "java/lang/IndexOutOfBoundsException" ⟨"java/lang/Throwable", "fillInStackTrace", "()Ljava/lang/Throwable;"⟩ ⟨"java/lang/Throwable", "fillInStackTrace", "()Ljava/lang/Throwable;"⟩ : Cond) ∈ lw_all := in_all 186 (by decide +kernel) (by decide +kernel)
set_option maxRecDepth 20000 in
theorem wd_197 : (.fieldLink "java/lang/Throwable" 198 "java/lang/Throwable" "backtrace" "Ljava/lang/Object;" : Cond) ∈ lw_all := in_all 197 (by decide +kernel) (by decide +kernel)
set_option maxRecDepth 20000 in
theorem wd_199 : (.instanceMethod ⟨"java/lang/Throwable", "<init>", "()V"⟩ : Cond) ∈ lw_all := in_all 199 (by decide +kernel) (by decide +kernel)
set_option maxRecDepth 20000 in
theorem wd_200 : (.code ⟨"java/lang/Throwable", "<init>", "()V"⟩ prog_16_method_1_code 1 none : Cond) ∈ lw_all := in_all 200 (by decide +kernel) (by decide +kernel)
set_option maxRecDepth 20000 in
theorem wd_201 : (.methodLink "java/lang/Throwable" 1 objectInit : Cond) ∈ lw_all := in_all 201 (by decide +kernel) (by decide +kernel)
set_option maxRecDepth 20000 in
theorem wd_202 : (.fieldLink "java/lang/Throwable" 13 "java/lang/Throwable" "UNASSIGNED_STACK" "[Ljava/lang/StackTraceElement;" : Cond) ∈ lw_all := in_all 202 (by decide +kernel) (by decide +kernel)
set_option maxRecDepth 20000 in
theorem wd_204 : (.fieldLink "java/lang/Throwable" 20 "java/lang/Throwable" "SUPPRESSED_SENTINEL" "Ljava/util/List;" : Cond) ∈ lw_all := in_all 204 (by decide +kernel) (by decide +kernel)
set_option maxRecDepth 20000 in
theorem wd_206 : (.methodLink "java/lang/Throwable" 27 ⟨"java/lang/Throwable", "fillInStackTrace", "()Ljava/lang/Throwable;"⟩ : Cond) ∈ lw_all := in_all 206 (by decide +kernel) (by decide +kernel)
set_option maxRecDepth 20000 in
theorem wd_207 : (.instanceMethod ⟨"java/lang/Throwable", "fillInStackTrace", "()Ljava/lang/Throwable;"⟩ : Cond) ∈ lw_all := in_all 207 (by decide +kernel) (by decide +kernel)
set_option maxRecDepth 20000 in
theorem wd_209 : (.selects "java/lang/IllegalArgumentException" ⟨"java/lang/Throwable", "fillInStackTrace", "()Ljava/lang/Throwable;"⟩ ⟨"java/lang/Throwable", "fillInStackTrace", "()Ljava/lang/Throwable;"⟩ : Cond) ∈ lw_all := in_all 209 (by decide +kernel) (by decide +kernel)
set_option maxRecDepth 20000 in
theorem wd_210 : (.selects "java/lang/IllegalStateException" ⟨"java/lang/Throwable", "fillInStackTrace", "()Ljava/lang/Throwable;"⟩ ⟨"java/lang/Throwable", "fillInStackTrace", "()Ljava/lang/Throwable;"⟩ : Cond) ∈ lw_all := in_all 210 (by decide +kernel) (by decide +kernel)
set_option maxRecDepth 20000 in
theorem wd_212 : (.methodLink "java/lang/Throwable" 202 ⟨"java/lang/Throwable", "fillInStackTrace", "(I)Ljava/lang/Throwable;"⟩ : Cond) ∈ lw_all := in_all 212 (by decide +kernel) (by decide +kernel)
set_option maxRecDepth 20000 in
theorem wd_214 : (.instanceMethod ⟨"java/lang/Throwable", "fillInStackTrace", "(I)Ljava/lang/Throwable;"⟩ : Cond) ∈ lw_all := in_all 214 (by decide +kernel) (by decide +kernel)
set_option maxRecDepth 20000 in
theorem wd_215 : (.instantiable "java/lang/Throwable" 6 : Cond) ∈ lw_all := in_all 215 (by decide +kernel) (by decide +kernel)
set_option maxRecDepth 20000 in
theorem wd_218 : (.methodLink RX5 167 ⟨"java/lang/IndexOutOfBoundsException", "<init>", "(Ljava/lang/String;)V"⟩ : Cond) ∈ lw_all := in_all 218 (by decide +kernel) (by decide +kernel)
set_option maxRecDepth 20000 in
theorem wd_219 : (.instanceMethod ⟨"java/lang/IndexOutOfBoundsException", "<init>", "(Ljava/lang/String;)V"⟩ : Cond) ∈ lw_all := in_all 219 (by decide +kernel) (by decide +kernel)
set_option maxRecDepth 20000 in
theorem wd_220 : (.code ⟨"java/lang/IndexOutOfBoundsException", "<init>", "(Ljava/lang/String;)V"⟩ prog_12_method_2_code 2 none : Cond) ∈ lw_all := in_all 220 (by decide +kernel) (by decide +kernel)
set_option maxRecDepth 20000 in
theorem wd_221 : (.methodLink "java/lang/IndexOutOfBoundsException" 7 ⟨"java/lang/RuntimeException", "<init>", "(Ljava/lang/String;)V"⟩ : Cond) ∈ lw_all := in_all 221 (by decide +kernel) (by decide +kernel)
set_option maxRecDepth 20000 in
theorem wd_222 : (.instanceMethod ⟨"java/lang/RuntimeException", "<init>", "(Ljava/lang/String;)V"⟩ : Cond) ∈ lw_all := in_all 222 (by decide +kernel) (by decide +kernel)
set_option maxRecDepth 20000 in
theorem wd_223 : (.code ⟨"java/lang/RuntimeException", "<init>", "(Ljava/lang/String;)V"⟩ prog_14_method_2_code 2 none : Cond) ∈ lw_all := in_all 223 (by decide +kernel) (by decide +kernel)
set_option maxRecDepth 20000 in
theorem wd_224 : (.methodLink "java/lang/RuntimeException" 7 ⟨"java/lang/Exception", "<init>", "(Ljava/lang/String;)V"⟩ : Cond) ∈ lw_all := in_all 224 (by decide +kernel) (by decide +kernel)
set_option maxRecDepth 20000 in
theorem wd_225 : (.instanceMethod ⟨"java/lang/Exception", "<init>", "(Ljava/lang/String;)V"⟩ : Cond) ∈ lw_all := in_all 225 (by decide +kernel) (by decide +kernel)
set_option maxRecDepth 20000 in
theorem wd_226 : (.code ⟨"java/lang/Exception", "<init>", "(Ljava/lang/String;)V"⟩ prog_9_method_2_code 2 none : Cond) ∈ lw_all := in_all 226 (by decide +kernel) (by decide +kernel)
set_option maxRecDepth 20000 in
theorem wd_227 : (.methodLink "java/lang/Exception" 7 ⟨"java/lang/Throwable", "<init>", "(Ljava/lang/String;)V"⟩ : Cond) ∈ lw_all := in_all 227 (by decide +kernel) (by decide +kernel)
set_option maxRecDepth 20000 in
theorem wd_228 : (.instanceMethod ⟨"java/lang/Throwable", "<init>", "(Ljava/lang/String;)V"⟩ : Cond) ∈ lw_all := in_all 228 (by decide +kernel) (by decide +kernel)
set_option maxRecDepth 20000 in
theorem wd_229 : (.code ⟨"java/lang/Throwable", "<init>", "(Ljava/lang/String;)V"⟩ prog_16_method_2_code 2 none : Cond) ∈ lw_all := in_all 229 (by decide +kernel) (by decide +kernel)
set_option maxRecDepth 20000 in
theorem wd_231 : (.fieldLink "java/lang/Throwable" 31 "java/lang/Throwable" "detailMessage" "Ljava/lang/String;" : Cond) ∈ lw_all := in_all 231 (by decide +kernel) (by decide +kernel)
set_option maxRecDepth 20000 in
theorem wd_232 : (.fieldLink "java/lang/Throwable" 7 "java/lang/Throwable" "cause" "Ljava/lang/Throwable;" : Cond) ∈ lw_all := in_all 232 (by decide +kernel) (by decide +kernel)
set_option maxRecDepth 20000 in
theorem wd_233 : (.fieldLink "java/lang/Throwable" 17 "java/lang/Throwable" "stackTrace" "[Ljava/lang/StackTraceElement;" : Cond) ∈ lw_all := in_all 233 (by decide +kernel) (by decide +kernel)
set_option maxRecDepth 20000 in
theorem wd_234 : (.fieldLink "java/lang/Throwable" 24 "java/lang/Throwable" "suppressedExceptions" "Ljava/util/List;" : Cond) ∈ lw_all := in_all 234 (by decide +kernel) (by decide +kernel)
set_option maxRecDepth 20000 in
theorem wd_243 : (.arrayClass .byte : Cond) ∈ lw_all := in_all 243 (by decide +kernel) (by decide +kernel)
set_option maxRecDepth 20000 in
theorem wd_244 : (.classLink RX5 34 "java/lang/IllegalArgumentException" : Cond) ∈ lw_all := in_all 244 (by decide +kernel) (by decide +kernel)
set_option maxRecDepth 20000 in
theorem wd_245 : (.instantiable "java/lang/IllegalArgumentException" 6 : Cond) ∈ lw_all := in_all 245 (by decide +kernel) (by decide +kernel)
set_option maxRecDepth 20000 in
theorem wd_247 : (.selects "java/lang/IllegalArgumentException" ⟨"java/lang/Throwable", "fillInStackTrace", "(I)Ljava/lang/Throwable;"⟩ ⟨"java/lang/Throwable", "fillInStackTrace", "(I)Ljava/lang/Throwable;"⟩ : Cond) ∈ lw_all := in_all 247 (by decide +kernel) (by decide +kernel)
set_option maxRecDepth 20000 in
theorem wd_254 : (.methodLink RX5 38 ⟨"java/lang/IllegalArgumentException", "<init>", "(Ljava/lang/String;)V"⟩ : Cond) ∈ lw_all := in_all 254 (by decide +kernel) (by decide +kernel)
set_option maxRecDepth 20000 in
theorem wd_255 : (.instanceMethod ⟨"java/lang/IllegalArgumentException", "<init>", "(Ljava/lang/String;)V"⟩ : Cond) ∈ lw_all := in_all 255 (by decide +kernel) (by decide +kernel)
set_option maxRecDepth 20000 in
theorem wd_256 : (.code ⟨"java/lang/IllegalArgumentException", "<init>", "(Ljava/lang/String;)V"⟩ prog_10_method_2_code 2 none : Cond) ∈ lw_all := in_all 256 (by decide +kernel) (by decide +kernel)
set_option maxRecDepth 20000 in
theorem wd_257 : (.methodLink "java/lang/IllegalArgumentException" 7 ⟨"java/lang/RuntimeException", "<init>", "(Ljava/lang/String;)V"⟩ : Cond) ∈ lw_all := in_all 257 (by decide +kernel) (by decide +kernel)
set_option maxRecDepth 20000 in
theorem wd_260 : (.classLink RX5 114 "java/lang/IllegalStateException" : Cond) ∈ lw_all := in_all 260 (by decide +kernel) (by decide +kernel)
set_option maxRecDepth 20000 in
theorem wd_261 : (.instantiable "java/lang/IllegalStateException" 6 : Cond) ∈ lw_all := in_all 261 (by decide +kernel) (by decide +kernel)
set_option maxRecDepth 20000 in
theorem wd_263 : (.selects "java/lang/IllegalStateException" ⟨"java/lang/Throwable", "fillInStackTrace", "(I)Ljava/lang/Throwable;"⟩ ⟨"java/lang/Throwable", "fillInStackTrace", "(I)Ljava/lang/Throwable;"⟩ : Cond) ∈ lw_all := in_all 263 (by decide +kernel) (by decide +kernel)
set_option maxRecDepth 20000 in
theorem wd_270 : (.methodLink RX5 118 ⟨"java/lang/IllegalStateException", "<init>", "(Ljava/lang/String;)V"⟩ : Cond) ∈ lw_all := in_all 270 (by decide +kernel) (by decide +kernel)
set_option maxRecDepth 20000 in
theorem wd_271 : (.instanceMethod ⟨"java/lang/IllegalStateException", "<init>", "(Ljava/lang/String;)V"⟩ : Cond) ∈ lw_all := in_all 271 (by decide +kernel) (by decide +kernel)
set_option maxRecDepth 20000 in
theorem wd_272 : (.code ⟨"java/lang/IllegalStateException", "<init>", "(Ljava/lang/String;)V"⟩ prog_11_method_2_code 2 none : Cond) ∈ lw_all := in_all 272 (by decide +kernel) (by decide +kernel)
set_option maxRecDepth 20000 in
theorem wd_273 : (.methodLink "java/lang/IllegalStateException" 7 ⟨"java/lang/RuntimeException", "<init>", "(Ljava/lang/String;)V"⟩ : Cond) ∈ lw_all := in_all 273 (by decide +kernel) (by decide +kernel)
set_option maxRecDepth 20000 in
theorem wd_276 : (.methodLink RX5 41 yX1_save : Cond) ∈ lw_all := in_all 276 (by decide +kernel) (by decide +kernel)
set_option maxRecDepth 20000 in
theorem wd_277 : (.instanceMethod yX1_save : Cond) ∈ lw_all := in_all 277 (by decide +kernel) (by decide +kernel)
set_option maxRecDepth 20000 in
theorem wd_278 : (.selects RX1 yX1_save yX1_save : Cond) ∈ lw_all := in_all 278 (by decide +kernel) (by decide +kernel)
set_option maxRecDepth 20000 in
theorem wd_279 : (.code yX1_save cX1_save 2 none : Cond) ∈ lw_all := in_all 279 (by decide +kernel) (by decide +kernel)
set_option maxRecDepth 20000 in
theorem wd_280 : (.methodLink RX1 29 yX1_dropOldest : Cond) ∈ lw_all := in_all 280 (by decide +kernel) (by decide +kernel)
set_option maxRecDepth 20000 in
theorem wd_282 : (.instanceMethod yX1_dropOldest : Cond) ∈ lw_all := in_all 282 (by decide +kernel) (by decide +kernel)
set_option maxRecDepth 20000 in
theorem wd_283 : (.code yX1_dropOldest cX1_dropOldest 3 none : Cond) ∈ lw_all := in_all 283 (by decide +kernel) (by decide +kernel)
set_option maxRecDepth 20000 in
theorem wd_284 : (.methodLink RX1 32 yX1_copyState : Cond) ∈ lw_all := in_all 284 (by decide +kernel) (by decide +kernel)
set_option maxRecDepth 20000 in
theorem wd_285 : (.static yX1_copyState : Cond) ∈ lw_all := in_all 285 (by decide +kernel) (by decide +kernel)
set_option maxRecDepth 20000 in
theorem wd_286 : (.code yX1_copyState cX1_copyState 2 none : Cond) ∈ lw_all := in_all 286 (by decide +kernel) (by decide +kernel)
set_option maxRecDepth 20000 in
theorem wd_287 : (.methodLink RX1 36 yX4_copyFrom : Cond) ∈ lw_all := in_all 287 (by decide +kernel) (by decide +kernel)
set_option maxRecDepth 20000 in
theorem wd_288 : (.instanceMethod yX4_copyFrom : Cond) ∈ lw_all := in_all 288 (by decide +kernel) (by decide +kernel)
set_option maxRecDepth 20000 in
theorem wd_289 : (.selects RX4 yX4_copyFrom yX4_copyFrom : Cond) ∈ lw_all := in_all 289 (by decide +kernel) (by decide +kernel)
set_option maxRecDepth 20000 in
theorem wd_290 : (.code yX4_copyFrom cX4_copyFrom 2 none : Cond) ∈ lw_all := in_all 290 (by decide +kernel) (by decide +kernel)
set_option maxRecDepth 20000 in
theorem wd_291 : (.methodLink RX4 25 yX2_copyFrom : Cond) ∈ lw_all := in_all 291 (by decide +kernel) (by decide +kernel)
set_option maxRecDepth 20000 in
theorem wd_292 : (.instanceMethod yX2_copyFrom : Cond) ∈ lw_all := in_all 292 (by decide +kernel) (by decide +kernel)
set_option maxRecDepth 20000 in
theorem wd_293 : (.selects RX2 yX2_copyFrom yX2_copyFrom : Cond) ∈ lw_all := in_all 293 (by decide +kernel) (by decide +kernel)
set_option maxRecDepth 20000 in
theorem wd_294 : (.code yX2_copyFrom cX2_copyFrom 2 none : Cond) ∈ lw_all := in_all 294 (by decide +kernel) (by decide +kernel)
set_option maxRecDepth 20000 in
theorem wd_296 : (.static yX5_copyRow : Cond) ∈ lw_all := in_all 296 (by decide +kernel) (by decide +kernel)
set_option maxRecDepth 20000 in
theorem wd_297 : (.code yX5_copyRow cX5_copyRow 3 none : Cond) ∈ lw_all := in_all 297 (by decide +kernel) (by decide +kernel)
set_option maxRecDepth 20000 in
theorem wd_298 : (.methodLink RX4 29 yX0_copyFrom : Cond) ∈ lw_all := in_all 298 (by decide +kernel) (by decide +kernel)
set_option maxRecDepth 20000 in
theorem wd_299 : (.instanceMethod yX0_copyFrom : Cond) ∈ lw_all := in_all 299 (by decide +kernel) (by decide +kernel)
set_option maxRecDepth 20000 in
theorem wd_300 : (.selects RX0 yX0_copyFrom yX0_copyFrom : Cond) ∈ lw_all := in_all 300 (by decide +kernel) (by decide +kernel)
set_option maxRecDepth 20000 in
theorem wd_301 : (.code yX0_copyFrom cX0_copyFrom 2 none : Cond) ∈ lw_all := in_all 301 (by decide +kernel) (by decide +kernel)
set_option maxRecDepth 20000 in
theorem wd_303 : (.methodLink RX5 76 yX0_add : Cond) ∈ lw_all := in_all 303 (by decide +kernel) (by decide +kernel)
set_option maxRecDepth 20000 in
theorem wd_304 : (.instanceMethod yX0_add : Cond) ∈ lw_all := in_all 304 (by decide +kernel) (by decide +kernel)
set_option maxRecDepth 20000 in
theorem wd_305 : (.selects RX0 yX0_add yX0_add : Cond) ∈ lw_all := in_all 305 (by decide +kernel) (by decide +kernel)
set_option maxRecDepth 20000 in
theorem wd_306 : (.code yX0_add cX0_add 5 (some .int) : Cond) ∈ lw_all := in_all 306 (by decide +kernel) (by decide +kernel)
set_option maxRecDepth 20000 in
theorem wd_307 : (.methodLink RX0 39 yX0_setCell : Cond) ∈ lw_all := in_all 307 (by decide +kernel) (by decide +kernel)
set_option maxRecDepth 20000 in
theorem wd_309 : (.instanceMethod yX0_setCell : Cond) ∈ lw_all := in_all 309 (by decide +kernel) (by decide +kernel)
set_option maxRecDepth 20000 in
theorem wd_310 : (.code yX0_setCell cX0_setCell 4 none : Cond) ∈ lw_all := in_all 310 (by decide +kernel) (by decide +kernel)
set_option maxRecDepth 20000 in
theorem wd_311 : (.methodLink RL 22 yX5_write : Cond) ∈ lw_all := in_all 311 (by decide +kernel) (by decide +kernel)
set_option maxRecDepth 20000 in
theorem wd_312 : (.instanceMethod yX5_write : Cond) ∈ lw_all := in_all 312 (by decide +kernel) (by decide +kernel)
set_option maxRecDepth 20000 in
theorem wd_313 : (.selects RX5 yX5_write yX5_write : Cond) ∈ lw_all := in_all 313 (by decide +kernel) (by decide +kernel)
set_option maxRecDepth 20000 in
theorem wd_314 : (.code yX5_write cX5_write 3 (some .int) : Cond) ∈ lw_all := in_all 314 (by decide +kernel) (by decide +kernel)
set_option maxRecDepth 20000 in
theorem wd_315 : (.methodLink RX5 81 yX5_faultOfWriting : Cond) ∈ lw_all := in_all 315 (by decide +kernel) (by decide +kernel)
set_option maxRecDepth 20000 in
theorem wd_317 : (.instanceMethod yX5_faultOfWriting : Cond) ∈ lw_all := in_all 317 (by decide +kernel) (by decide +kernel)
set_option maxRecDepth 20000 in
theorem wd_318 : (.code yX5_faultOfWriting cX5_faultOfWriting 4 (some .int) : Cond) ∈ lw_all := in_all 318 (by decide +kernel) (by decide +kernel)
set_option maxRecDepth 20000 in
theorem wd_319 : (.methodLink RX5 84 yX0_cellOf : Cond) ∈ lw_all := in_all 319 (by decide +kernel) (by decide +kernel)
set_option maxRecDepth 20000 in
theorem wd_320 : (.instanceMethod yX0_cellOf : Cond) ∈ lw_all := in_all 320 (by decide +kernel) (by decide +kernel)
set_option maxRecDepth 20000 in
theorem wd_321 : (.selects RX0 yX0_cellOf yX0_cellOf : Cond) ∈ lw_all := in_all 321 (by decide +kernel) (by decide +kernel)
set_option maxRecDepth 20000 in
theorem wd_322 : (.code yX0_cellOf cX0_cellOf 4 (some .int) : Cond) ∈ lw_all := in_all 322 (by decide +kernel) (by decide +kernel)
set_option maxRecDepth 20000 in
theorem wd_323 : (.methodLink RX5 168 yX0_kindAt : Cond) ∈ lw_all := in_all 323 (by decide +kernel) (by decide +kernel)
set_option maxRecDepth 20000 in
theorem wd_324 : (.instanceMethod yX0_kindAt : Cond) ∈ lw_all := in_all 324 (by decide +kernel) (by decide +kernel)
set_option maxRecDepth 20000 in
theorem wd_325 : (.selects RX0 yX0_kindAt yX0_kindAt : Cond) ∈ lw_all := in_all 325 (by decide +kernel) (by decide +kernel)
set_option maxRecDepth 20000 in
theorem wd_326 : (.code yX0_kindAt cX0_kindAt 2 (some .int) : Cond) ∈ lw_all := in_all 326 (by decide +kernel) (by decide +kernel)
set_option maxRecDepth 20000 in
theorem wd_327 : (.methodLink RX5 87 yX0_makeWritten : Cond) ∈ lw_all := in_all 327 (by decide +kernel) (by decide +kernel)
set_option maxRecDepth 20000 in
theorem wd_328 : (.instanceMethod yX0_makeWritten : Cond) ∈ lw_all := in_all 328 (by decide +kernel) (by decide +kernel)
set_option maxRecDepth 20000 in
theorem wd_329 : (.selects RX0 yX0_makeWritten yX0_makeWritten : Cond) ∈ lw_all := in_all 329 (by decide +kernel) (by decide +kernel)
set_option maxRecDepth 20000 in
theorem wd_330 : (.code yX0_makeWritten cX0_makeWritten 3 none : Cond) ∈ lw_all := in_all 330 (by decide +kernel) (by decide +kernel)
set_option maxRecDepth 20000 in
theorem wd_331 : (.methodLink RX5 90 yX2_letterOf : Cond) ∈ lw_all := in_all 331 (by decide +kernel) (by decide +kernel)
set_option maxRecDepth 20000 in
theorem wd_332 : (.instanceMethod yX2_letterOf : Cond) ∈ lw_all := in_all 332 (by decide +kernel) (by decide +kernel)
set_option maxRecDepth 20000 in
theorem wd_333 : (.selects RX2 yX2_letterOf yX2_letterOf : Cond) ∈ lw_all := in_all 333 (by decide +kernel) (by decide +kernel)
set_option maxRecDepth 20000 in
theorem wd_334 : (.code yX2_letterOf cX2_letterOf 5 (some .int) : Cond) ∈ lw_all := in_all 334 (by decide +kernel) (by decide +kernel)
set_option maxRecDepth 20000 in
theorem wd_335 : (.methodLink RX2 23 yX2_weightAt : Cond) ∈ lw_all := in_all 335 (by decide +kernel) (by decide +kernel)
set_option maxRecDepth 20000 in
theorem wd_336 : (.instanceMethod yX2_weightAt : Cond) ∈ lw_all := in_all 336 (by decide +kernel) (by decide +kernel)
set_option maxRecDepth 20000 in
theorem wd_337 : (.selects RX2 yX2_weightAt yX2_weightAt : Cond) ∈ lw_all := in_all 337 (by decide +kernel) (by decide +kernel)
set_option maxRecDepth 20000 in
theorem wd_338 : (.code yX2_weightAt cX2_weightAt 2 (some .int) : Cond) ∈ lw_all := in_all 338 (by decide +kernel) (by decide +kernel)
set_option maxRecDepth 20000 in
theorem wd_339 : (.methodLink RX2 27 yX2_restOf : Cond) ∈ lw_all := in_all 339 (by decide +kernel) (by decide +kernel)
set_option maxRecDepth 20000 in
theorem wd_341 : (.instanceMethod yX2_restOf : Cond) ∈ lw_all := in_all 341 (by decide +kernel) (by decide +kernel)
set_option maxRecDepth 20000 in
theorem wd_342 : (.code yX2_restOf cX2_restOf 3 (some .int) : Cond) ∈ lw_all := in_all 342 (by decide +kernel) (by decide +kernel)
set_option maxRecDepth 20000 in
theorem wd_343 : (.methodLink RL 25 yX5_cash : Cond) ∈ lw_all := in_all 343 (by decide +kernel) (by decide +kernel)
set_option maxRecDepth 20000 in
theorem wd_344 : (.instanceMethod yX5_cash : Cond) ∈ lw_all := in_all 344 (by decide +kernel) (by decide +kernel)
set_option maxRecDepth 20000 in
theorem wd_345 : (.selects RX5 yX5_cash yX5_cash : Cond) ∈ lw_all := in_all 345 (by decide +kernel) (by decide +kernel)
set_option maxRecDepth 20000 in
theorem wd_346 : (.code yX5_cash cX5_cash 3 (some .int) : Cond) ∈ lw_all := in_all 346 (by decide +kernel) (by decide +kernel)
set_option maxRecDepth 20000 in
theorem wd_347 : (.methodLink RX5 93 yX5_throwIfNoSerial : Cond) ∈ lw_all := in_all 347 (by decide +kernel) (by decide +kernel)
set_option maxRecDepth 20000 in
theorem wd_348 : (.static yX5_throwIfNoSerial : Cond) ∈ lw_all := in_all 348 (by decide +kernel) (by decide +kernel)
set_option maxRecDepth 20000 in
theorem wd_349 : (.code yX5_throwIfNoSerial cX5_throwIfNoSerial 1 none : Cond) ∈ lw_all := in_all 349 (by decide +kernel) (by decide +kernel)
set_option maxRecDepth 20000 in
theorem wd_351 : (.methodLink RX5 96 yX5_throwIfNoLetter : Cond) ∈ lw_all := in_all 351 (by decide +kernel) (by decide +kernel)
set_option maxRecDepth 20000 in
theorem wd_352 : (.static yX5_throwIfNoLetter : Cond) ∈ lw_all := in_all 352 (by decide +kernel) (by decide +kernel)
set_option maxRecDepth 20000 in
theorem wd_353 : (.code yX5_throwIfNoLetter cX5_throwIfNoLetter 1 none : Cond) ∈ lw_all := in_all 353 (by decide +kernel) (by decide +kernel)
set_option maxRecDepth 20000 in
theorem wd_355 : (.methodLink RX5 99 yX4_cashByReading : Cond) ∈ lw_all := in_all 355 (by decide +kernel) (by decide +kernel)
set_option maxRecDepth 20000 in
theorem wd_356 : (.instanceMethod yX4_cashByReading : Cond) ∈ lw_all := in_all 356 (by decide +kernel) (by decide +kernel)
set_option maxRecDepth 20000 in
theorem wd_357 : (.selects RX4 yX4_cashByReading yX4_cashByReading : Cond) ∈ lw_all := in_all 357 (by decide +kernel) (by decide +kernel)
set_option maxRecDepth 20000 in
theorem wd_358 : (.code yX4_cashByReading cX4_cashByReading 5 (some .int) : Cond) ∈ lw_all := in_all 358 (by decide +kernel) (by decide +kernel)
set_option maxRecDepth 20000 in
theorem wd_359 : (.methodLink RX4 36 yX4_reasonAgainstCashing : Cond) ∈ lw_all := in_all 359 (by decide +kernel) (by decide +kernel)
set_option maxRecDepth 20000 in
theorem wd_361 : (.instanceMethod yX4_reasonAgainstCashing : Cond) ∈ lw_all := in_all 361 (by decide +kernel) (by decide +kernel)
set_option maxRecDepth 20000 in
theorem wd_362 : (.code yX4_reasonAgainstCashing cX4_reasonAgainstCashing 4 (some .int) : Cond) ∈ lw_all := in_all 362 (by decide +kernel) (by decide +kernel)
set_option maxRecDepth 20000 in
theorem wd_363 : (.methodLink RX4 51 yX2_letterOf : Cond) ∈ lw_all := in_all 363 (by decide +kernel) (by decide +kernel)
set_option maxRecDepth 20000 in
theorem wd_364 : (.methodLink RX4 40 yX0_cellOf : Cond) ∈ lw_all := in_all 364 (by decide +kernel) (by decide +kernel)
set_option maxRecDepth 20000 in
theorem wd_365 : (.methodLink RX4 54 yX0_kindAt : Cond) ∈ lw_all := in_all 365 (by decide +kernel) (by decide +kernel)
set_option maxRecDepth 20000 in
theorem wd_366 : (.methodLink RX4 44 yX0_makeCashed : Cond) ∈ lw_all := in_all 366 (by decide +kernel) (by decide +kernel)
set_option maxRecDepth 20000 in
theorem wd_367 : (.instanceMethod yX0_makeCashed : Cond) ∈ lw_all := in_all 367 (by decide +kernel) (by decide +kernel)
set_option maxRecDepth 20000 in
theorem wd_368 : (.selects RX0 yX0_makeCashed yX0_makeCashed : Cond) ∈ lw_all := in_all 368 (by decide +kernel) (by decide +kernel)
set_option maxRecDepth 20000 in
theorem wd_369 : (.code yX0_makeCashed cX0_makeCashed 2 none : Cond) ∈ lw_all := in_all 369 (by decide +kernel) (by decide +kernel)
set_option maxRecDepth 20000 in
theorem wd_370 : (.methodLink RX0 43 yX0_amountAt : Cond) ∈ lw_all := in_all 370 (by decide +kernel) (by decide +kernel)
set_option maxRecDepth 20000 in
theorem wd_371 : (.instanceMethod yX0_amountAt : Cond) ∈ lw_all := in_all 371 (by decide +kernel) (by decide +kernel)
set_option maxRecDepth 20000 in
theorem wd_372 : (.selects RX0 yX0_amountAt yX0_amountAt : Cond) ∈ lw_all := in_all 372 (by decide +kernel) (by decide +kernel)
set_option maxRecDepth 20000 in
theorem wd_373 : (.code yX0_amountAt cX0_amountAt 2 (some .int) : Cond) ∈ lw_all := in_all 373 (by decide +kernel) (by decide +kernel)
set_option maxRecDepth 20000 in
theorem wd_374 : (.methodLink RX4 48 yX0_amountAt : Cond) ∈ lw_all := in_all 374 (by decide +kernel) (by decide +kernel)
set_option maxRecDepth 20000 in
theorem wd_375 : (.methodLink RL 38 yX5_undo : Cond) ∈ lw_all := in_all 375 (by decide +kernel) (by decide +kernel)
set_option maxRecDepth 20000 in
theorem wd_376 : (.instanceMethod yX5_undo : Cond) ∈ lw_all := in_all 376 (by decide +kernel) (by decide +kernel)
set_option maxRecDepth 20000 in
theorem wd_377 : (.selects RX5 yX5_undo yX5_undo : Cond) ∈ lw_all := in_all 377 (by decide +kernel) (by decide +kernel)
set_option maxRecDepth 20000 in
theorem wd_378 : (.code yX5_undo cX5_undo 1 (some .int) : Cond) ∈ lw_all := in_all 378 (by decide +kernel) (by decide +kernel)
set_option maxRecDepth 20000 in
theorem wd_380 : (.methodLink RX5 141 yX1_restoreLast : Cond) ∈ lw_all := in_all 380 (by decide +kernel) (by decide +kernel)
set_option maxRecDepth 20000 in
theorem wd_381 : (.instanceMethod yX1_restoreLast : Cond) ∈ lw_all := in_all 381 (by decide +kernel) (by decide +kernel)
set_option maxRecDepth 20000 in
theorem wd_382 : (.selects RX1 yX1_restoreLast yX1_restoreLast : Cond) ∈ lw_all := in_all 382 (by decide +kernel) (by decide +kernel)
set_option maxRecDepth 20000 in
theorem wd_383 : (.code yX1_restoreLast cX1_restoreLast 3 none : Cond) ∈ lw_all := in_all 383 (by decide +kernel) (by decide +kernel)
set_option maxRecDepth 20000 in
theorem wd_384 : (.methodLink RL 41 yX5_keep : Cond) ∈ lw_all := in_all 384 (by decide +kernel) (by decide +kernel)
set_option maxRecDepth 20000 in
theorem wd_385 : (.instanceMethod yX5_keep : Cond) ∈ lw_all := in_all 385 (by decide +kernel) (by decide +kernel)
set_option maxRecDepth 20000 in
theorem wd_386 : (.selects RX5 yX5_keep yX5_keep : Cond) ∈ lw_all := in_all 386 (by decide +kernel) (by decide +kernel)
set_option maxRecDepth 20000 in
theorem wd_387 : (.code yX5_keep cX5_keep 2 (some .int) : Cond) ∈ lw_all := in_all 387 (by decide +kernel) (by decide +kernel)
set_option maxRecDepth 20000 in
theorem wd_388 : (.methodLink RX5 144 yX5_throwIfNoSlot : Cond) ∈ lw_all := in_all 388 (by decide +kernel) (by decide +kernel)
set_option maxRecDepth 20000 in
theorem wd_389 : (.static yX5_throwIfNoSlot : Cond) ∈ lw_all := in_all 389 (by decide +kernel) (by decide +kernel)
set_option maxRecDepth 20000 in
theorem wd_390 : (.code yX5_throwIfNoSlot cX5_throwIfNoSlot 1 none : Cond) ∈ lw_all := in_all 390 (by decide +kernel) (by decide +kernel)
set_option maxRecDepth 20000 in
theorem wd_392 : (.methodLink RX5 147 yX1_putIntoSlot : Cond) ∈ lw_all := in_all 392 (by decide +kernel) (by decide +kernel)
set_option maxRecDepth 20000 in
theorem wd_393 : (.instanceMethod yX1_putIntoSlot : Cond) ∈ lw_all := in_all 393 (by decide +kernel) (by decide +kernel)
set_option maxRecDepth 20000 in
theorem wd_394 : (.selects RX1 yX1_putIntoSlot yX1_putIntoSlot : Cond) ∈ lw_all := in_all 394 (by decide +kernel) (by decide +kernel)
set_option maxRecDepth 20000 in
theorem wd_395 : (.code yX1_putIntoSlot cX1_putIntoSlot 3 none : Cond) ∈ lw_all := in_all 395 (by decide +kernel) (by decide +kernel)
set_option maxRecDepth 20000 in
theorem wd_396 : (.methodLink RL 44 yX5_goBack : Cond) ∈ lw_all := in_all 396 (by decide +kernel) (by decide +kernel)
set_option maxRecDepth 20000 in
theorem wd_397 : (.instanceMethod yX5_goBack : Cond) ∈ lw_all := in_all 397 (by decide +kernel) (by decide +kernel)
set_option maxRecDepth 20000 in
theorem wd_398 : (.selects RX5 yX5_goBack yX5_goBack : Cond) ∈ lw_all := in_all 398 (by decide +kernel) (by decide +kernel)
set_option maxRecDepth 20000 in
theorem wd_399 : (.code yX5_goBack cX5_goBack 2 (some .int) : Cond) ∈ lw_all := in_all 399 (by decide +kernel) (by decide +kernel)
set_option maxRecDepth 20000 in
theorem wd_400 : (.methodLink RX5 154 yX1_isSlotFilled : Cond) ∈ lw_all := in_all 400 (by decide +kernel) (by decide +kernel)
set_option maxRecDepth 20000 in
theorem wd_401 : (.instanceMethod yX1_isSlotFilled : Cond) ∈ lw_all := in_all 401 (by decide +kernel) (by decide +kernel)
set_option maxRecDepth 20000 in
theorem wd_402 : (.selects RX1 yX1_isSlotFilled yX1_isSlotFilled : Cond) ∈ lw_all := in_all 402 (by decide +kernel) (by decide +kernel)
set_option maxRecDepth 20000 in
theorem wd_403 : (.code yX1_isSlotFilled cX1_isSlotFilled 2 (some .boolean) : Cond) ∈ lw_all := in_all 403 (by decide +kernel) (by decide +kernel)
set_option maxRecDepth 20000 in
theorem wd_405 : (.methodLink RX5 160 yX1_restoreSlot : Cond) ∈ lw_all := in_all 405 (by decide +kernel) (by decide +kernel)
set_option maxRecDepth 20000 in
theorem wd_406 : (.instanceMethod yX1_restoreSlot : Cond) ∈ lw_all := in_all 406 (by decide +kernel) (by decide +kernel)
set_option maxRecDepth 20000 in
theorem wd_407 : (.selects RX1 yX1_restoreSlot yX1_restoreSlot : Cond) ∈ lw_all := in_all 407 (by decide +kernel) (by decide +kernel)
set_option maxRecDepth 20000 in
theorem wd_408 : (.code yX1_restoreSlot cX1_restoreSlot 3 none : Cond) ∈ lw_all := in_all 408 (by decide +kernel) (by decide +kernel)
set_option maxRecDepth 20000 in
theorem wd_409 : (.methodLink RL 47 yX5_letter : Cond) ∈ lw_all := in_all 409 (by decide +kernel) (by decide +kernel)
set_option maxRecDepth 20000 in
theorem wd_410 : (.instanceMethod yX5_letter : Cond) ∈ lw_all := in_all 410 (by decide +kernel) (by decide +kernel)
set_option maxRecDepth 20000 in
theorem wd_411 : (.selects RX5 yX5_letter yX5_letter : Cond) ∈ lw_all := in_all 411 (by decide +kernel) (by decide +kernel)
set_option maxRecDepth 20000 in
theorem wd_412 : (.code yX5_letter cX5_letter 2 (some .int) : Cond) ∈ lw_all := in_all 412 (by decide +kernel) (by decide +kernel)
set_option maxRecDepth 20000 in
theorem wd_413 : (.methodLink RL 56 yX5_count : Cond) ∈ lw_all := in_all 413 (by decide +kernel) (by decide +kernel)
set_option maxRecDepth 20000 in
theorem wd_414 : (.instanceMethod yX5_count : Cond) ∈ lw_all := in_all 414 (by decide +kernel) (by decide +kernel)
set_option maxRecDepth 20000 in
theorem wd_415 : (.selects RX5 yX5_count yX5_count : Cond) ∈ lw_all := in_all 415 (by decide +kernel) (by decide +kernel)
set_option maxRecDepth 20000 in
theorem wd_416 : (.code yX5_count cX5_count 2 (some .int) : Cond) ∈ lw_all := in_all 416 (by decide +kernel) (by decide +kernel)
set_option maxRecDepth 20000 in
theorem wd_418 : (.methodLink RX5 49 yX2_weightAt : Cond) ∈ lw_all := in_all 418 (by decide +kernel) (by decide +kernel)
set_option maxRecDepth 20000 in
theorem wd_419 : (.methodLink RX5 194 yX0_numberOfAll : Cond) ∈ lw_all := in_all 419 (by decide +kernel) (by decide +kernel)
set_option maxRecDepth 20000 in
theorem wd_420 : (.instanceMethod yX0_numberOfAll : Cond) ∈ lw_all := in_all 420 (by decide +kernel) (by decide +kernel)
set_option maxRecDepth 20000 in
theorem wd_421 : (.selects RX0 yX0_numberOfAll yX0_numberOfAll : Cond) ∈ lw_all := in_all 421 (by decide +kernel) (by decide +kernel)
set_option maxRecDepth 20000 in
theorem wd_422 : (.code yX0_numberOfAll cX0_numberOfAll 4 (some .int) : Cond) ∈ lw_all := in_all 422 (by decide +kernel) (by decide +kernel)
set_option maxRecDepth 20000 in
theorem wd_423 : (.methodLink RX0 70 yX0_numberOf : Cond) ∈ lw_all := in_all 423 (by decide +kernel) (by decide +kernel)
set_option maxRecDepth 20000 in
theorem wd_424 : (.instanceMethod yX0_numberOf : Cond) ∈ lw_all := in_all 424 (by decide +kernel) (by decide +kernel)
set_option maxRecDepth 20000 in
theorem wd_425 : (.selects RX0 yX0_numberOf yX0_numberOf : Cond) ∈ lw_all := in_all 425 (by decide +kernel) (by decide +kernel)
set_option maxRecDepth 20000 in
theorem wd_426 : (.code yX0_numberOf cX0_numberOf 3 (some .int) : Cond) ∈ lw_all := in_all 426 (by decide +kernel) (by decide +kernel)
set_option maxRecDepth 20000 in
theorem wd_427 : (.methodLink RX0 61 yX0_amountsOf : Cond) ∈ lw_all := in_all 427 (by decide +kernel) (by decide +kernel)
set_option maxRecDepth 20000 in
theorem wd_429 : (.instanceMethod yX0_amountsOf : Cond) ∈ lw_all := in_all 429 (by decide +kernel) (by decide +kernel)
set_option maxRecDepth 20000 in
theorem wd_430 : (.code yX0_amountsOf cX0_amountsOf 7 (some .int) : Cond) ∈ lw_all := in_all 430 (by decide +kernel) (by decide +kernel)
set_option maxRecDepth 20000 in
theorem wd_431 : (.methodLink RX0 58 yX0_kindAt : Cond) ∈ lw_all := in_all 431 (by decide +kernel) (by decide +kernel)
set_option maxRecDepth 20000 in
theorem wd_432 : (.methodLink RX0 64 yX0_firstBlankOf : Cond) ∈ lw_all := in_all 432 (by decide +kernel) (by decide +kernel)
set_option maxRecDepth 20000 in
theorem wd_434 : (.instanceMethod yX0_firstBlankOf : Cond) ∈ lw_all := in_all 434 (by decide +kernel) (by decide +kernel)
set_option maxRecDepth 20000 in
theorem wd_435 : (.code yX0_firstBlankOf cX0_firstBlankOf 4 (some .int) : Cond) ∈ lw_all := in_all 435 (by decide +kernel) (by decide +kernel)
set_option maxRecDepth 20000 in
theorem wd_436 : (.methodLink RX0 67 yX0_chequesOf : Cond) ∈ lw_all := in_all 436 (by decide +kernel) (by decide +kernel)
set_option maxRecDepth 20000 in
theorem wd_438 : (.instanceMethod yX0_chequesOf : Cond) ∈ lw_all := in_all 438 (by decide +kernel) (by decide +kernel)
set_option maxRecDepth 20000 in
theorem wd_439 : (.code yX0_chequesOf cX0_chequesOf 6 (some .int) : Cond) ∈ lw_all := in_all 439 (by decide +kernel) (by decide +kernel)
set_option maxRecDepth 20000 in
theorem wd_440 : (.methodLink RL 231 yL_part : Cond) ∈ lw_all := in_all 440 (by decide +kernel) (by decide +kernel)
set_option maxRecDepth 20000 in
theorem wd_441 : (.static yL_part : Cond) ∈ lw_all := in_all 441 (by decide +kernel) (by decide +kernel)
set_option maxRecDepth 20000 in
theorem wd_442 : (.code yL_part cL_part 2 (some .int) : Cond) ∈ lw_all := in_all 442 (by decide +kernel) (by decide +kernel)
set_option maxRecDepth 20000 in
theorem wd_443 : (.constant RL 7 (2147483647) : Cond) ∈ lw_all := in_all 443 (by decide +kernel) (by decide +kernel)
set_option maxRecDepth 20000 in
theorem wd_444 : (.methodLink RL 227 yL_drawn : Cond) ∈ lw_all := in_all 444 (by decide +kernel) (by decide +kernel)
set_option maxRecDepth 20000 in
theorem wd_445 : (.static yL_drawn : Cond) ∈ lw_all := in_all 445 (by decide +kernel) (by decide +kernel)
set_option maxRecDepth 20000 in
theorem wd_446 : (.code yL_drawn cL_drawn 2 (some .int) : Cond) ∈ lw_all := in_all 446 (by decide +kernel) (by decide +kernel)
set_option maxRecDepth 20000 in
theorem wd_447 : (.constant RL 8 (2654435) : Cond) ∈ lw_all := in_all 447 (by decide +kernel) (by decide +kernel)
set_option maxRecDepth 20000 in
theorem wd_448 : (.methodLink RL 103 yL_call : Cond) ∈ lw_all := in_all 448 (by decide +kernel) (by decide +kernel)
set_option maxRecDepth 20000 in
theorem wd_449 : (.static yL_call : Cond) ∈ lw_all := in_all 449 (by decide +kernel) (by decide +kernel)
set_option maxRecDepth 20000 in
theorem wd_451 : (.classLink RL 82 "java/lang/IndexOutOfBoundsException" : Cond) ∈ lw_all := in_all 451 (by decide +kernel) (by decide +kernel)
set_option maxRecDepth 20000 in
theorem wd_452 : (.classLink RL 84 "java/lang/IllegalArgumentException" : Cond) ∈ lw_all := in_all 452 (by decide +kernel) (by decide +kernel)
set_option maxRecDepth 20000 in
theorem wd_453 : (.classLink RL 86 "java/lang/IllegalStateException" : Cond) ∈ lw_all := in_all 453 (by decide +kernel) (by decide +kernel)
set_option maxRecDepth 20000 in
theorem wd_454 : (.methodLink RL 9 yX5_weight : Cond) ∈ lw_all := in_all 454 (by decide +kernel) (by decide +kernel)
set_option maxRecDepth 20000 in
theorem wd_455 : (.instanceMethod yX5_weight : Cond) ∈ lw_all := in_all 455 (by decide +kernel) (by decide +kernel)
set_option maxRecDepth 20000 in
theorem wd_456 : (.selects RX5 yX5_weight yX5_weight : Cond) ∈ lw_all := in_all 456 (by decide +kernel) (by decide +kernel)
set_option maxRecDepth 20000 in
theorem wd_457 : (.code yX5_weight cX5_weight 4 (some .int) : Cond) ∈ lw_all := in_all 457 (by decide +kernel) (by decide +kernel)
set_option maxRecDepth 20000 in
theorem wd_458 : (.methodLink RX5 30 yX5_throwIfNoPosition : Cond) ∈ lw_all := in_all 458 (by decide +kernel) (by decide +kernel)
set_option maxRecDepth 20000 in
theorem wd_459 : (.static yX5_throwIfNoPosition : Cond) ∈ lw_all := in_all 459 (by decide +kernel) (by decide +kernel)
set_option maxRecDepth 20000 in
theorem wd_460 : (.code yX5_throwIfNoPosition cX5_throwIfNoPosition 1 none : Cond) ∈ lw_all := in_all 460 (by decide +kernel) (by decide +kernel)
set_option maxRecDepth 20000 in
theorem wd_463 : (.methodLink RX5 55 yX2_setWeight : Cond) ∈ lw_all := in_all 463 (by decide +kernel) (by decide +kernel)
set_option maxRecDepth 20000 in
theorem wd_464 : (.instanceMethod yX2_setWeight : Cond) ∈ lw_all := in_all 464 (by decide +kernel) (by decide +kernel)
set_option maxRecDepth 20000 in
theorem wd_465 : (.selects RX2 yX2_setWeight yX2_setWeight : Cond) ∈ lw_all := in_all 465 (by decide +kernel) (by decide +kernel)
set_option maxRecDepth 20000 in
theorem wd_466 : (.code yX2_setWeight cX2_setWeight 3 none : Cond) ∈ lw_all := in_all 466 (by decide +kernel) (by decide +kernel)
set_option maxRecDepth 20000 in
theorem wd_467 : (.methodLink RL 15 yX5_modulus : Cond) ∈ lw_all := in_all 467 (by decide +kernel) (by decide +kernel)
set_option maxRecDepth 20000 in
theorem wd_468 : (.instanceMethod yX5_modulus : Cond) ∈ lw_all := in_all 468 (by decide +kernel) (by decide +kernel)
set_option maxRecDepth 20000 in
theorem wd_469 : (.selects RX5 yX5_modulus yX5_modulus : Cond) ∈ lw_all := in_all 469 (by decide +kernel) (by decide +kernel)
set_option maxRecDepth 20000 in
theorem wd_470 : (.code yX5_modulus cX5_modulus 3 (some .int) : Cond) ∈ lw_all := in_all 470 (by decide +kernel) (by decide +kernel)
set_option maxRecDepth 20000 in
theorem wd_472 : (.methodLink RL 28 yX5_voidRun : Cond) ∈ lw_all := in_all 472 (by decide +kernel) (by decide +kernel)
set_option maxRecDepth 20000 in
theorem wd_473 : (.instanceMethod yX5_voidRun : Cond) ∈ lw_all := in_all 473 (by decide +kernel) (by decide +kernel)
set_option maxRecDepth 20000 in
theorem wd_474 : (.selects RX5 yX5_voidRun yX5_voidRun : Cond) ∈ lw_all := in_all 474 (by decide +kernel) (by decide +kernel)
set_option maxRecDepth 20000 in
theorem wd_475 : (.code yX5_voidRun cX5_voidRun 3 (some .int) : Cond) ∈ lw_all := in_all 475 (by decide +kernel) (by decide +kernel)
set_option maxRecDepth 20000 in
theorem wd_476 : (.methodLink RX5 102 yX5_faultOfRun : Cond) ∈ lw_all := in_all 476 (by decide +kernel) (by decide +kernel)
set_option maxRecDepth 20000 in
theorem wd_477 : (.static yX5_faultOfRun : Cond) ∈ lw_all := in_all 477 (by decide +kernel) (by decide +kernel)
set_option maxRecDepth 20000 in
theorem wd_478 : (.code yX5_faultOfRun cX5_faultOfRun 2 (some .int) : Cond) ∈ lw_all := in_all 478 (by decide +kernel) (by decide +kernel)
set_option maxRecDepth 20000 in
theorem wd_479 : (.methodLink RX5 105 yX0_makeRunVoid : Cond) ∈ lw_all := in_all 479 (by decide +kernel) (by decide +kernel)
set_option maxRecDepth 20000 in
theorem wd_480 : (.instanceMethod yX0_makeRunVoid : Cond) ∈ lw_all := in_all 480 (by decide +kernel) (by decide +kernel)
set_option maxRecDepth 20000 in
theorem wd_481 : (.selects RX0 yX0_makeRunVoid yX0_makeRunVoid : Cond) ∈ lw_all := in_all 481 (by decide +kernel) (by decide +kernel)
set_option maxRecDepth 20000 in
theorem wd_482 : (.code yX0_makeRunVoid cX0_makeRunVoid 8 (some .int) : Cond) ∈ lw_all := in_all 482 (by decide +kernel) (by decide +kernel)
set_option maxRecDepth 20000 in
theorem wd_483 : (.methodLink RX0 46 Lib.Math.min.name : Cond) ∈ lw_all := in_all 483 (by decide +kernel) (by decide +kernel)
set_option maxRecDepth 20000 in
theorem wd_484 : (.static Lib.Math.min.name : Cond) ∈ lw_all := in_all 484 (by decide +kernel) (by decide +kernel)
set_option maxRecDepth 20000 in
theorem wd_485 : (.code Lib.Math.min.name Lib.Math.min.code 2 (some .int) : Cond) ∈ lw_all := in_all 485 (by decide +kernel) (by decide +kernel)
set_option maxRecDepth 20000 in
theorem wd_486 : (.methodLink RX0 52 Lib.Math.max.name : Cond) ∈ lw_all := in_all 486 (by decide +kernel) (by decide +kernel)
set_option maxRecDepth 20000 in
theorem wd_487 : (.static Lib.Math.max.name : Cond) ∈ lw_all := in_all 487 (by decide +kernel) (by decide +kernel)
set_option maxRecDepth 20000 in
theorem wd_488 : (.code Lib.Math.max.name Lib.Math.max.code 2 (some .int) : Cond) ∈ lw_all := in_all 488 (by decide +kernel) (by decide +kernel)
set_option maxRecDepth 20000 in
theorem wd_489 : (.methodLink RX0 55 yX0_makeVoid : Cond) ∈ lw_all := in_all 489 (by decide +kernel) (by decide +kernel)
set_option maxRecDepth 20000 in
theorem wd_491 : (.instanceMethod yX0_makeVoid : Cond) ∈ lw_all := in_all 491 (by decide +kernel) (by decide +kernel)
set_option maxRecDepth 20000 in
theorem wd_492 : (.code yX0_makeVoid cX0_makeVoid 3 (some .int) : Cond) ∈ lw_all := in_all 492 (by decide +kernel) (by decide +kernel)
set_option maxRecDepth 20000 in
theorem wd_493 : (.methodLink RL 31 yX5_append : Cond) ∈ lw_all := in_all 493 (by decide +kernel) (by decide +kernel)
set_option maxRecDepth 20000 in
theorem wd_494 : (.instanceMethod yX5_append : Cond) ∈ lw_all := in_all 494 (by decide +kernel) (by decide +kernel)
set_option maxRecDepth 20000 in
theorem wd_495 : (.selects RX5 yX5_append yX5_append : Cond) ∈ lw_all := in_all 495 (by decide +kernel) (by decide +kernel)
set_option maxRecDepth 20000 in
theorem wd_496 : (.code yX5_append cX5_append 2 (some .int) : Cond) ∈ lw_all := in_all 496 (by decide +kernel) (by decide +kernel)
set_option maxRecDepth 20000 in
theorem wd_498 : (.methodLink RX5 110 yX3_isFull : Cond) ∈ lw_all := in_all 498 (by decide +kernel) (by decide +kernel)
set_option maxRecDepth 20000 in
theorem wd_499 : (.instanceMethod yX3_isFull : Cond) ∈ lw_all := in_all 499 (by decide +kernel) (by decide +kernel)
set_option maxRecDepth 20000 in
theorem wd_500 : (.selects RX3 yX3_isFull yX3_isFull : Cond) ∈ lw_all := in_all 500 (by decide +kernel) (by decide +kernel)
set_option maxRecDepth 20000 in
theorem wd_501 : (.code yX3_isFull cX3_isFull 1 (some .boolean) : Cond) ∈ lw_all := in_all 501 (by decide +kernel) (by decide +kernel)
set_option maxRecDepth 20000 in
theorem wd_503 : (.methodLink RX5 119 yX3_add : Cond) ∈ lw_all := in_all 503 (by decide +kernel) (by decide +kernel)
set_option maxRecDepth 20000 in
theorem wd_504 : (.instanceMethod yX3_add : Cond) ∈ lw_all := in_all 504 (by decide +kernel) (by decide +kernel)
set_option maxRecDepth 20000 in
theorem wd_505 : (.selects RX3 yX3_add yX3_add : Cond) ∈ lw_all := in_all 505 (by decide +kernel) (by decide +kernel)
set_option maxRecDepth 20000 in
theorem wd_506 : (.code yX3_add cX3_add 2 (some .int) : Cond) ∈ lw_all := in_all 506 (by decide +kernel) (by decide +kernel)
set_option maxRecDepth 20000 in
theorem wd_507 : (.methodLink RL 34 yX5_execute : Cond) ∈ lw_all := in_all 507 (by decide +kernel) (by decide +kernel)
set_option maxRecDepth 20000 in
theorem wd_508 : (.instanceMethod yX5_execute : Cond) ∈ lw_all := in_all 508 (by decide +kernel) (by decide +kernel)
set_option maxRecDepth 20000 in
theorem wd_509 : (.selects RX5 yX5_execute yX5_execute : Cond) ∈ lw_all := in_all 509 (by decide +kernel) (by decide +kernel)
set_option maxRecDepth 20000 in
theorem wd_510 : (.code yX5_execute cX5_execute 2 (some .int) : Cond) ∈ lw_all := in_all 510 (by decide +kernel) (by decide +kernel)
set_option maxRecDepth 20000 in
theorem wd_511 : (.methodLink RX5 128 yX3_isComplete : Cond) ∈ lw_all := in_all 511 (by decide +kernel) (by decide +kernel)
set_option maxRecDepth 20000 in
theorem wd_512 : (.instanceMethod yX3_isComplete : Cond) ∈ lw_all := in_all 512 (by decide +kernel) (by decide +kernel)
set_option maxRecDepth 20000 in
theorem wd_513 : (.selects RX3 yX3_isComplete yX3_isComplete : Cond) ∈ lw_all := in_all 513 (by decide +kernel) (by decide +kernel)
set_option maxRecDepth 20000 in
theorem wd_514 : (.code yX3_isComplete cX3_isComplete 3 (some .boolean) : Cond) ∈ lw_all := in_all 514 (by decide +kernel) (by decide +kernel)
set_option maxRecDepth 20000 in
theorem wd_515 : (.methodLink RX3 27 yX3_errorIndex : Cond) ∈ lw_all := in_all 515 (by decide +kernel) (by decide +kernel)
set_option maxRecDepth 20000 in
theorem wd_516 : (.instanceMethod yX3_errorIndex : Cond) ∈ lw_all := in_all 516 (by decide +kernel) (by decide +kernel)
set_option maxRecDepth 20000 in
theorem wd_517 : (.selects RX3 yX3_errorIndex yX3_errorIndex : Cond) ∈ lw_all := in_all 517 (by decide +kernel) (by decide +kernel)
set_option maxRecDepth 20000 in
theorem wd_518 : (.code yX3_errorIndex cX3_errorIndex 3 (some .int) : Cond) ∈ lw_all := in_all 518 (by decide +kernel) (by decide +kernel)
set_option maxRecDepth 20000 in
theorem wd_519 : (.methodLink RX3 23 yX3_fits : Cond) ∈ lw_all := in_all 519 (by decide +kernel) (by decide +kernel)
set_option maxRecDepth 20000 in
theorem wd_521 : (.instanceMethod yX3_fits : Cond) ∈ lw_all := in_all 521 (by decide +kernel) (by decide +kernel)
set_option maxRecDepth 20000 in
theorem wd_522 : (.code yX3_fits cX3_fits 5 (some .boolean) : Cond) ∈ lw_all := in_all 522 (by decide +kernel) (by decide +kernel)
set_option maxRecDepth 20000 in
theorem wd_523 : (.methodLink RX3 19 yX3_signAt : Cond) ∈ lw_all := in_all 523 (by decide +kernel) (by decide +kernel)
set_option maxRecDepth 20000 in
theorem wd_524 : (.instanceMethod yX3_signAt : Cond) ∈ lw_all := in_all 524 (by decide +kernel) (by decide +kernel)
set_option maxRecDepth 20000 in
theorem wd_525 : (.selects RX3 yX3_signAt yX3_signAt : Cond) ∈ lw_all := in_all 525 (by decide +kernel) (by decide +kernel)
set_option maxRecDepth 20000 in
theorem wd_526 : (.code yX3_signAt cX3_signAt 2 (some .int) : Cond) ∈ lw_all := in_all 526 (by decide +kernel) (by decide +kernel)
set_option maxRecDepth 20000 in
theorem wd_527 : (.methodLink RX3 31 yX3_isWhole : Cond) ∈ lw_all := in_all 527 (by decide +kernel) (by decide +kernel)
set_option maxRecDepth 20000 in
theorem wd_529 : (.instanceMethod yX3_isWhole : Cond) ∈ lw_all := in_all 529 (by decide +kernel) (by decide +kernel)
set_option maxRecDepth 20000 in
theorem wd_530 : (.code yX3_isWhole cX3_isWhole 4 (some .boolean) : Cond) ∈ lw_all := in_all 530 (by decide +kernel) (by decide +kernel)
set_option maxRecDepth 20000 in
theorem wd_531 : (.methodLink RX3 34 yX3_isDigit : Cond) ∈ lw_all := in_all 531 (by decide +kernel) (by decide +kernel)
set_option maxRecDepth 20000 in
theorem wd_532 : (.static yX3_isDigit : Cond) ∈ lw_all := in_all 532 (by decide +kernel) (by decide +kernel)
set_option maxRecDepth 20000 in
theorem wd_533 : (.code yX3_isDigit cX3_isDigit 1 (some .boolean) : Cond) ∈ lw_all := in_all 533 (by decide +kernel) (by decide +kernel)
set_option maxRecDepth 20000 in
theorem wd_534 : (.methodLink RX3 38 yX3_endsHead : Cond) ∈ lw_all := in_all 534 (by decide +kernel) (by decide +kernel)
set_option maxRecDepth 20000 in
theorem wd_535 : (.static yX3_endsHead : Cond) ∈ lw_all := in_all 535 (by decide +kernel) (by decide +kernel)
set_option maxRecDepth 20000 in
theorem wd_536 : (.code yX3_endsHead cX3_endsHead 2 (some .boolean) : Cond) ∈ lw_all := in_all 536 (by decide +kernel) (by decide +kernel)
set_option maxRecDepth 20000 in
theorem wd_537 : (.methodLink RX3 41 yX3_fitsBehindHead : Cond) ∈ lw_all := in_all 537 (by decide +kernel) (by decide +kernel)
set_option maxRecDepth 20000 in
theorem wd_539 : (.instanceMethod yX3_fitsBehindHead : Cond) ∈ lw_all := in_all 539 (by decide +kernel) (by decide +kernel)
set_option maxRecDepth 20000 in
theorem wd_540 : (.code yX3_fitsBehindHead cX3_fitsBehindHead 4 (some .boolean) : Cond) ∈ lw_all := in_all 540 (by decide +kernel) (by decide +kernel)
set_option maxRecDepth 20000 in
theorem wd_541 : (.methodLink RX3 44 yX3_numberIn : Cond) ∈ lw_all := in_all 541 (by decide +kernel) (by decide +kernel)
set_option maxRecDepth 20000 in
theorem wd_542 : (.instanceMethod yX3_numberIn : Cond) ∈ lw_all := in_all 542 (by decide +kernel) (by decide +kernel)
set_option maxRecDepth 20000 in
theorem wd_543 : (.selects RX3 yX3_numberIn yX3_numberIn : Cond) ∈ lw_all := in_all 543 (by decide +kernel) (by decide +kernel)
set_option maxRecDepth 20000 in
theorem wd_544 : (.code yX3_numberIn cX3_numberIn 5 (some .int) : Cond) ∈ lw_all := in_all 544 (by decide +kernel) (by decide +kernel)
set_option maxRecDepth 20000 in
theorem wd_546 : (.methodLink RX5 133 yX5_runOrders : Cond) ∈ lw_all := in_all 546 (by decide +kernel) (by decide +kernel)
set_option maxRecDepth 20000 in
theorem wd_548 : (.instanceMethod yX5_runOrders : Cond) ∈ lw_all := in_all 548 (by decide +kernel) (by decide +kernel)
set_option maxRecDepth 20000 in
theorem wd_549 : (.code yX5_runOrders cX5_runOrders 5 (some .int) : Cond) ∈ lw_all := in_all 549 (by decide +kernel) (by decide +kernel)
set_option maxRecDepth 20000 in
theorem wd_550 : (.methodLink RX5 264 yX3_signAt : Cond) ∈ lw_all := in_all 550 (by decide +kernel) (by decide +kernel)
set_option maxRecDepth 20000 in
theorem wd_551 : (.methodLink RX5 267 yX5_runOrder : Cond) ∈ lw_all := in_all 551 (by decide +kernel) (by decide +kernel)
set_option maxRecDepth 20000 in
theorem wd_553 : (.instanceMethod yX5_runOrder : Cond) ∈ lw_all := in_all 553 (by decide +kernel) (by decide +kernel)
set_option maxRecDepth 20000 in
theorem wd_554 : (.code yX5_runOrder cX5_runOrder 5 (some .boolean) : Cond) ∈ lw_all := in_all 554 (by decide +kernel) (by decide +kernel)
set_option maxRecDepth 20000 in
theorem wd_555 : (.methodLink RX5 270 yX3_numberIn : Cond) ∈ lw_all := in_all 555 (by decide +kernel) (by decide +kernel)
set_option maxRecDepth 20000 in
theorem wd_556 : (.methodLink RX5 273 yX5_runBook : Cond) ∈ lw_all := in_all 556 (by decide +kernel) (by decide +kernel)
set_option maxRecDepth 20000 in
theorem wd_558 : (.instanceMethod yX5_runBook : Cond) ∈ lw_all := in_all 558 (by decide +kernel) (by decide +kernel)
set_option maxRecDepth 20000 in
theorem wd_559 : (.code yX5_runBook cX5_runBook 3 (some .boolean) : Cond) ∈ lw_all := in_all 559 (by decide +kernel) (by decide +kernel)
set_option maxRecDepth 20000 in
theorem wd_560 : (.methodLink RX5 276 yX5_runWriting : Cond) ∈ lw_all := in_all 560 (by decide +kernel) (by decide +kernel)
set_option maxRecDepth 20000 in
theorem wd_562 : (.instanceMethod yX5_runWriting : Cond) ∈ lw_all := in_all 562 (by decide +kernel) (by decide +kernel)
set_option maxRecDepth 20000 in
theorem wd_563 : (.code yX5_runWriting cX5_runWriting 3 (some .boolean) : Cond) ∈ lw_all := in_all 563 (by decide +kernel) (by decide +kernel)
set_option maxRecDepth 20000 in
theorem wd_564 : (.methodLink RX5 279 yX5_runVoiding : Cond) ∈ lw_all := in_all 564 (by decide +kernel) (by decide +kernel)
set_option maxRecDepth 20000 in
theorem wd_566 : (.instanceMethod yX5_runVoiding : Cond) ∈ lw_all := in_all 566 (by decide +kernel) (by decide +kernel)
set_option maxRecDepth 20000 in
theorem wd_567 : (.code yX5_runVoiding cX5_runVoiding 3 (some .boolean) : Cond) ∈ lw_all := in_all 567 (by decide +kernel) (by decide +kernel)
set_option maxRecDepth 20000 in
theorem wd_568 : (.methodLink RX5 121 yX3_clear : Cond) ∈ lw_all := in_all 568 (by decide +kernel) (by decide +kernel)
set_option maxRecDepth 20000 in
theorem wd_569 : (.instanceMethod yX3_clear : Cond) ∈ lw_all := in_all 569 (by decide +kernel) (by decide +kernel)
set_option maxRecDepth 20000 in
theorem wd_570 : (.selects RX3 yX3_clear yX3_clear : Cond) ∈ lw_all := in_all 570 (by decide +kernel) (by decide +kernel)
set_option maxRecDepth 20000 in
theorem wd_571 : (.code yX3_clear cX3_clear 2 (some .int) : Cond) ∈ lw_all := in_all 571 (by decide +kernel) (by decide +kernel)
set_option maxRecDepth 20000 in
theorem wd_572 : (.methodLink RL 50 yX5_cheque : Cond) ∈ lw_all := in_all 572 (by decide +kernel) (by decide +kernel)
set_option maxRecDepth 20000 in
theorem wd_573 : (.instanceMethod yX5_cheque : Cond) ∈ lw_all := in_all 573 (by decide +kernel) (by decide +kernel)
set_option maxRecDepth 20000 in
theorem wd_574 : (.selects RX5 yX5_cheque yX5_cheque : Cond) ∈ lw_all := in_all 574 (by decide +kernel) (by decide +kernel)
set_option maxRecDepth 20000 in
theorem wd_575 : (.code yX5_cheque cX5_cheque 4 (some .int) : Cond) ∈ lw_all := in_all 575 (by decide +kernel) (by decide +kernel)
set_option maxRecDepth 20000 in
theorem wd_577 : (.methodLink RX5 171 yX0_amountAt : Cond) ∈ lw_all := in_all 577 (by decide +kernel) (by decide +kernel)
set_option maxRecDepth 20000 in
theorem wd_578 : (.methodLink RX5 174 yX0_sameKindFrom : Cond) ∈ lw_all := in_all 578 (by decide +kernel) (by decide +kernel)
set_option maxRecDepth 20000 in
theorem wd_579 : (.instanceMethod yX0_sameKindFrom : Cond) ∈ lw_all := in_all 579 (by decide +kernel) (by decide +kernel)
set_option maxRecDepth 20000 in
theorem wd_580 : (.selects RX0 yX0_sameKindFrom yX0_sameKindFrom : Cond) ∈ lw_all := in_all 580 (by decide +kernel) (by decide +kernel)
set_option maxRecDepth 20000 in
theorem wd_581 : (.code yX0_sameKindFrom cX0_sameKindFrom 7 (some .int) : Cond) ∈ lw_all := in_all 581 (by decide +kernel) (by decide +kernel)
set_option maxRecDepth 20000 in
theorem wd_583 : (.methodLink RL 53 yX5_bookOf : Cond) ∈ lw_all := in_all 583 (by decide +kernel) (by decide +kernel)
set_option maxRecDepth 20000 in
theorem wd_584 : (.instanceMethod yX5_bookOf : Cond) ∈ lw_all := in_all 584 (by decide +kernel) (by decide +kernel)
set_option maxRecDepth 20000 in
theorem wd_585 : (.selects RX5 yX5_bookOf yX5_bookOf : Cond) ∈ lw_all := in_all 585 (by decide +kernel) (by decide +kernel)
set_option maxRecDepth 20000 in
theorem wd_586 : (.code yX5_bookOf cX5_bookOf 3 (some .int) : Cond) ∈ lw_all := in_all 586 (by decide +kernel) (by decide +kernel)
set_option maxRecDepth 20000 in
theorem wd_589 : (.methodLink RX5 183 yX0_numberOf : Cond) ∈ lw_all := in_all 589 (by decide +kernel) (by decide +kernel)
set_option maxRecDepth 20000 in
theorem wd_590 : (.methodLink RL 59 yX5_ranked : Cond) ∈ lw_all := in_all 590 (by decide +kernel) (by decide +kernel)
set_option maxRecDepth 20000 in
theorem wd_591 : (.instanceMethod yX5_ranked : Cond) ∈ lw_all := in_all 591 (by decide +kernel) (by decide +kernel)
set_option maxRecDepth 20000 in
theorem wd_592 : (.selects RX5 yX5_ranked yX5_ranked : Cond) ∈ lw_all := in_all 592 (by decide +kernel) (by decide +kernel)
set_option maxRecDepth 20000 in
theorem wd_593 : (.code yX5_ranked cX5_ranked 2 (some .int) : Cond) ∈ lw_all := in_all 593 (by decide +kernel) (by decide +kernel)
set_option maxRecDepth 20000 in
theorem wd_595 : (.methodLink RX5 199 yX0_serialOfRank : Cond) ∈ lw_all := in_all 595 (by decide +kernel) (by decide +kernel)
set_option maxRecDepth 20000 in
theorem wd_596 : (.instanceMethod yX0_serialOfRank : Cond) ∈ lw_all := in_all 596 (by decide +kernel) (by decide +kernel)
set_option maxRecDepth 20000 in
theorem wd_597 : (.selects RX0 yX0_serialOfRank yX0_serialOfRank : Cond) ∈ lw_all := in_all 597 (by decide +kernel) (by decide +kernel)
set_option maxRecDepth 20000 in
theorem wd_598 : (.code yX0_serialOfRank cX0_serialOfRank 6 (some .int) : Cond) ∈ lw_all := in_all 598 (by decide +kernel) (by decide +kernel)
set_option maxRecDepth 20000 in
theorem wd_599 : (.methodLink RX0 76 yX0_bookOfRank : Cond) ∈ lw_all := in_all 599 (by decide +kernel) (by decide +kernel)
set_option maxRecDepth 20000 in
theorem wd_600 : (.instanceMethod yX0_bookOfRank : Cond) ∈ lw_all := in_all 600 (by decide +kernel) (by decide +kernel)
set_option maxRecDepth 20000 in
theorem wd_601 : (.selects RX0 yX0_bookOfRank yX0_bookOfRank : Cond) ∈ lw_all := in_all 601 (by decide +kernel) (by decide +kernel)
set_option maxRecDepth 20000 in
theorem wd_602 : (.code yX0_bookOfRank cX0_bookOfRank 3 (some .int) : Cond) ∈ lw_all := in_all 602 (by decide +kernel) (by decide +kernel)
set_option maxRecDepth 20000 in
theorem wd_603 : (.methodLink RX0 73 yX0_booksBefore : Cond) ∈ lw_all := in_all 603 (by decide +kernel) (by decide +kernel)
set_option maxRecDepth 20000 in
theorem wd_605 : (.instanceMethod yX0_booksBefore : Cond) ∈ lw_all := in_all 605 (by decide +kernel) (by decide +kernel)
set_option maxRecDepth 20000 in
theorem wd_606 : (.code yX0_booksBefore cX0_booksBefore 4 (some .int) : Cond) ∈ lw_all := in_all 606 (by decide +kernel) (by decide +kernel)
set_option maxRecDepth 20000 in
theorem wd_607 : (.methodLink RL 62 yX5_missed : Cond) ∈ lw_all := in_all 607 (by decide +kernel) (by decide +kernel)
set_option maxRecDepth 20000 in
theorem wd_608 : (.instanceMethod yX5_missed : Cond) ∈ lw_all := in_all 608 (by decide +kernel) (by decide +kernel)
set_option maxRecDepth 20000 in
theorem wd_609 : (.selects RX5 yX5_missed yX5_missed : Cond) ∈ lw_all := in_all 609 (by decide +kernel) (by decide +kernel)
set_option maxRecDepth 20000 in
theorem wd_610 : (.code yX5_missed cX5_missed 3 (some .int) : Cond) ∈ lw_all := in_all 610 (by decide +kernel) (by decide +kernel)
set_option maxRecDepth 20000 in
theorem wd_611 : (.methodLink RX5 202 yX5_throwIfNoSlipKind : Cond) ∈ lw_all := in_all 611 (by decide +kernel) (by decide +kernel)
set_option maxRecDepth 20000 in
theorem wd_612 : (.static yX5_throwIfNoSlipKind : Cond) ∈ lw_all := in_all 612 (by decide +kernel) (by decide +kernel)
set_option maxRecDepth 20000 in
theorem wd_613 : (.code yX5_throwIfNoSlipKind cX5_throwIfNoSlipKind 1 none : Cond) ∈ lw_all := in_all 613 (by decide +kernel) (by decide +kernel)
set_option maxRecDepth 20000 in
theorem wd_615 : (.methodLink RX5 205 yX2_hiddenMisreadings : Cond) ∈ lw_all := in_all 615 (by decide +kernel) (by decide +kernel)
set_option maxRecDepth 20000 in
theorem wd_616 : (.instanceMethod yX2_hiddenMisreadings : Cond) ∈ lw_all := in_all 616 (by decide +kernel) (by decide +kernel)
set_option maxRecDepth 20000 in
theorem wd_617 : (.selects RX2 yX2_hiddenMisreadings yX2_hiddenMisreadings : Cond) ∈ lw_all := in_all 617 (by decide +kernel) (by decide +kernel)
set_option maxRecDepth 20000 in
theorem wd_618 : (.code yX2_hiddenMisreadings cX2_hiddenMisreadings 7 (some .int) : Cond) ∈ lw_all := in_all 618 (by decide +kernel) (by decide +kernel)
set_option maxRecDepth 20000 in
theorem wd_619 : (.methodLink RX2 44 yX2_digitAt : Cond) ∈ lw_all := in_all 619 (by decide +kernel) (by decide +kernel)
set_option maxRecDepth 20000 in
theorem wd_620 : (.static yX2_digitAt : Cond) ∈ lw_all := in_all 620 (by decide +kernel) (by decide +kernel)
set_option maxRecDepth 20000 in
theorem wd_621 : (.code yX2_digitAt cX2_digitAt 4 (some .int) : Cond) ∈ lw_all := in_all 621 (by decide +kernel) (by decide +kernel)
set_option maxRecDepth 20000 in
theorem wd_622 : (.methodLink RX2 40 yX2_factorAt : Cond) ∈ lw_all := in_all 622 (by decide +kernel) (by decide +kernel)
set_option maxRecDepth 20000 in
theorem wd_623 : (.instanceMethod yX2_factorAt : Cond) ∈ lw_all := in_all 623 (by decide +kernel) (by decide +kernel)
set_option maxRecDepth 20000 in
theorem wd_624 : (.selects RX2 yX2_factorAt yX2_factorAt : Cond) ∈ lw_all := in_all 624 (by decide +kernel) (by decide +kernel)
set_option maxRecDepth 20000 in
theorem wd_625 : (.code yX2_factorAt cX2_factorAt 4 (some .int) : Cond) ∈ lw_all := in_all 625 (by decide +kernel) (by decide +kernel)
set_option maxRecDepth 20000 in
theorem wd_626 : (.methodLink RX2 30 yX2_isHidden : Cond) ∈ lw_all := in_all 626 (by decide +kernel) (by decide +kernel)
set_option maxRecDepth 20000 in
theorem wd_628 : (.instanceMethod yX2_isHidden : Cond) ∈ lw_all := in_all 628 (by decide +kernel) (by decide +kernel)
set_option maxRecDepth 20000 in
theorem wd_629 : (.code yX2_isHidden cX2_isHidden 3 (some .boolean) : Cond) ∈ lw_all := in_all 629 (by decide +kernel) (by decide +kernel)
set_option maxRecDepth 20000 in
theorem wd_630 : (.methodLink RX5 208 yX2_hiddenSwaps : Cond) ∈ lw_all := in_all 630 (by decide +kernel) (by decide +kernel)
set_option maxRecDepth 20000 in
theorem wd_631 : (.instanceMethod yX2_hiddenSwaps : Cond) ∈ lw_all := in_all 631 (by decide +kernel) (by decide +kernel)
set_option maxRecDepth 20000 in
theorem wd_632 : (.selects RX2 yX2_hiddenSwaps yX2_hiddenSwaps : Cond) ∈ lw_all := in_all 632 (by decide +kernel) (by decide +kernel)
set_option maxRecDepth 20000 in
theorem wd_633 : (.code yX2_hiddenSwaps cX2_hiddenSwaps 6 (some .int) : Cond) ∈ lw_all := in_all 633 (by decide +kernel) (by decide +kernel)
set_option maxRecDepth 20000 in
theorem wd_634 : (.methodLink RL 65 yX5_weak : Cond) ∈ lw_all := in_all 634 (by decide +kernel) (by decide +kernel)
set_option maxRecDepth 20000 in
theorem wd_635 : (.instanceMethod yX5_weak : Cond) ∈ lw_all := in_all 635 (by decide +kernel) (by decide +kernel)
set_option maxRecDepth 20000 in
theorem wd_636 : (.selects RX5 yX5_weak yX5_weak : Cond) ∈ lw_all := in_all 636 (by decide +kernel) (by decide +kernel)
set_option maxRecDepth 20000 in
theorem wd_637 : (.code yX5_weak cX5_weak 5 (some .int) : Cond) ∈ lw_all := in_all 637 (by decide +kernel) (by decide +kernel)
set_option maxRecDepth 20000 in
theorem wd_638 : (.methodLink RX5 211 yX5_positionsOf : Cond) ∈ lw_all := in_all 638 (by decide +kernel) (by decide +kernel)
set_option maxRecDepth 20000 in
theorem wd_639 : (.static yX5_positionsOf : Cond) ∈ lw_all := in_all 639 (by decide +kernel) (by decide +kernel)
set_option maxRecDepth 20000 in
theorem wd_640 : (.code yX5_positionsOf cX5_positionsOf 1 (some .int) : Cond) ∈ lw_all := in_all 640 (by decide +kernel) (by decide +kernel)
set_option maxRecDepth 20000 in
theorem wd_642 : (.methodLink RX5 218 yX2_factorAt : Cond) ∈ lw_all := in_all 642 (by decide +kernel) (by decide +kernel)
set_option maxRecDepth 20000 in
theorem wd_643 : (.methodLink RX5 221 yX2_hiddenPairsTried : Cond) ∈ lw_all := in_all 643 (by decide +kernel) (by decide +kernel)
set_option maxRecDepth 20000 in
theorem wd_644 : (.instanceMethod yX2_hiddenPairsTried : Cond) ∈ lw_all := in_all 644 (by decide +kernel) (by decide +kernel)
set_option maxRecDepth 20000 in
theorem wd_645 : (.selects RX2 yX2_hiddenPairsTried yX2_hiddenPairsTried : Cond) ∈ lw_all := in_all 645 (by decide +kernel) (by decide +kernel)
set_option maxRecDepth 20000 in
theorem wd_646 : (.code yX2_hiddenPairsTried cX2_hiddenPairsTried 5 (some .int) : Cond) ∈ lw_all := in_all 646 (by decide +kernel) (by decide +kernel)
set_option maxRecDepth 20000 in
theorem wd_647 : (.methodLink RX5 224 yX2_hiddenPairs : Cond) ∈ lw_all := in_all 647 (by decide +kernel) (by decide +kernel)
set_option maxRecDepth 20000 in
theorem wd_648 : (.instanceMethod yX2_hiddenPairs : Cond) ∈ lw_all := in_all 648 (by decide +kernel) (by decide +kernel)
set_option maxRecDepth 20000 in
theorem wd_649 : (.selects RX2 yX2_hiddenPairs yX2_hiddenPairs : Cond) ∈ lw_all := in_all 649 (by decide +kernel) (by decide +kernel)
set_option maxRecDepth 20000 in
theorem wd_650 : (.code yX2_hiddenPairs cX2_hiddenPairs 4 (some .int) : Cond) ∈ lw_all := in_all 650 (by decide +kernel) (by decide +kernel)
set_option maxRecDepth 20000 in
theorem wd_651 : (.methodLink RL 69 yX5_bestWeight : Cond) ∈ lw_all := in_all 651 (by decide +kernel) (by decide +kernel)
set_option maxRecDepth 20000 in
theorem wd_652 : (.instanceMethod yX5_bestWeight : Cond) ∈ lw_all := in_all 652 (by decide +kernel) (by decide +kernel)
set_option maxRecDepth 20000 in
theorem wd_653 : (.selects RX5 yX5_bestWeight yX5_bestWeight : Cond) ∈ lw_all := in_all 653 (by decide +kernel) (by decide +kernel)
set_option maxRecDepth 20000 in
theorem wd_654 : (.code yX5_bestWeight cX5_bestWeight 6 (some .int) : Cond) ∈ lw_all := in_all 654 (by decide +kernel) (by decide +kernel)
set_option maxRecDepth 20000 in
theorem wd_655 : (.methodLink RX5 230 yX2_hiddenPairsWith : Cond) ∈ lw_all := in_all 655 (by decide +kernel) (by decide +kernel)
set_option maxRecDepth 20000 in
theorem wd_656 : (.instanceMethod yX2_hiddenPairsWith : Cond) ∈ lw_all := in_all 656 (by decide +kernel) (by decide +kernel)
set_option maxRecDepth 20000 in
theorem wd_657 : (.selects RX2 yX2_hiddenPairsWith yX2_hiddenPairsWith : Cond) ∈ lw_all := in_all 657 (by decide +kernel) (by decide +kernel)
set_option maxRecDepth 20000 in
theorem wd_658 : (.code yX2_hiddenPairsWith cX2_hiddenPairsWith 7 (some .int) : Cond) ∈ lw_all := in_all 658 (by decide +kernel) (by decide +kernel)
set_option maxRecDepth 20000 in
theorem wd_659 : (.methodLink RX2 34 yX2_hiddenPairs : Cond) ∈ lw_all := in_all 659 (by decide +kernel) (by decide +kernel)
set_option maxRecDepth 20000 in
theorem wd_660 : (.methodLink RL 72 yX5_meant : Cond) ∈ lw_all := in_all 660 (by decide +kernel) (by decide +kernel)
set_option maxRecDepth 20000 in
theorem wd_661 : (.instanceMethod yX5_meant : Cond) ∈ lw_all := in_all 661 (by decide +kernel) (by decide +kernel)
set_option maxRecDepth 20000 in
theorem wd_662 : (.selects RX5 yX5_meant yX5_meant : Cond) ∈ lw_all := in_all 662 (by decide +kernel) (by decide +kernel)
set_option maxRecDepth 20000 in
theorem wd_663 : (.code yX5_meant cX5_meant 4 (some .int) : Cond) ∈ lw_all := in_all 663 (by decide +kernel) (by decide +kernel)
set_option maxRecDepth 20000 in
theorem wd_665 : (.methodLink RX5 235 yX4_meantCheques : Cond) ∈ lw_all := in_all 665 (by decide +kernel) (by decide +kernel)
set_option maxRecDepth 20000 in
theorem wd_666 : (.instanceMethod yX4_meantCheques : Cond) ∈ lw_all := in_all 666 (by decide +kernel) (by decide +kernel)
set_option maxRecDepth 20000 in
theorem wd_667 : (.selects RX4 yX4_meantCheques yX4_meantCheques : Cond) ∈ lw_all := in_all 667 (by decide +kernel) (by decide +kernel)
set_option maxRecDepth 20000 in
theorem wd_668 : (.code yX4_meantCheques cX4_meantCheques 9 (some .int) : Cond) ∈ lw_all := in_all 668 (by decide +kernel) (by decide +kernel)
set_option maxRecDepth 20000 in
theorem wd_669 : (.methodLink RX4 60 yX0_bookOfRank : Cond) ∈ lw_all := in_all 669 (by decide +kernel) (by decide +kernel)
set_option maxRecDepth 20000 in
theorem wd_670 : (.methodLink RX4 63 yX0_firstOf : Cond) ∈ lw_all := in_all 670 (by decide +kernel) (by decide +kernel)
set_option maxRecDepth 20000 in
theorem wd_671 : (.methodLink RX4 66 yX0_sizeOf : Cond) ∈ lw_all := in_all 671 (by decide +kernel) (by decide +kernel)
set_option maxRecDepth 20000 in
theorem wd_672 : (.methodLink RX4 69 yX2_slipKind : Cond) ∈ lw_all := in_all 672 (by decide +kernel) (by decide +kernel)
set_option maxRecDepth 20000 in
theorem wd_673 : (.instanceMethod yX2_slipKind : Cond) ∈ lw_all := in_all 673 (by decide +kernel) (by decide +kernel)
set_option maxRecDepth 20000 in
theorem wd_674 : (.selects RX2 yX2_slipKind yX2_slipKind : Cond) ∈ lw_all := in_all 674 (by decide +kernel) (by decide +kernel)
set_option maxRecDepth 20000 in
theorem wd_675 : (.code yX2_slipKind cX2_slipKind 5 (some .int) : Cond) ∈ lw_all := in_all 675 (by decide +kernel) (by decide +kernel)
set_option maxRecDepth 20000 in
theorem wd_676 : (.methodLink RX2 47 yX2_letterOf : Cond) ∈ lw_all := in_all 676 (by decide +kernel) (by decide +kernel)
set_option maxRecDepth 20000 in
theorem wd_677 : (.methodLink RX2 50 yX2_digitSlip : Cond) ∈ lw_all := in_all 677 (by decide +kernel) (by decide +kernel)
set_option maxRecDepth 20000 in
theorem wd_678 : (.static yX2_digitSlip : Cond) ∈ lw_all := in_all 678 (by decide +kernel) (by decide +kernel)
set_option maxRecDepth 20000 in
theorem wd_679 : (.code yX2_digitSlip cX2_digitSlip 5 (some .int) : Cond) ∈ lw_all := in_all 679 (by decide +kernel) (by decide +kernel)
set_option maxRecDepth 20000 in
theorem wd_680 : (.methodLink RX2 53 yX2_isSwapped : Cond) ∈ lw_all := in_all 680 (by decide +kernel) (by decide +kernel)
set_option maxRecDepth 20000 in
theorem wd_681 : (.static yX2_isSwapped : Cond) ∈ lw_all := in_all 681 (by decide +kernel) (by decide +kernel)
set_option maxRecDepth 20000 in
theorem wd_682 : (.code yX2_isSwapped cX2_isSwapped 3 (some .boolean) : Cond) ∈ lw_all := in_all 682 (by decide +kernel) (by decide +kernel)
set_option maxRecDepth 20000 in
theorem wd_683 : (.methodLink RL 75 yX5_slip : Cond) ∈ lw_all := in_all 683 (by decide +kernel) (by decide +kernel)
set_option maxRecDepth 20000 in
theorem wd_684 : (.instanceMethod yX5_slip : Cond) ∈ lw_all := in_all 684 (by decide +kernel) (by decide +kernel)
set_option maxRecDepth 20000 in
theorem wd_685 : (.selects RX5 yX5_slip yX5_slip : Cond) ∈ lw_all := in_all 685 (by decide +kernel) (by decide +kernel)
set_option maxRecDepth 20000 in
theorem wd_686 : (.code yX5_slip cX5_slip 4 (some .int) : Cond) ∈ lw_all := in_all 686 (by decide +kernel) (by decide +kernel)
set_option maxRecDepth 20000 in
theorem wd_687 : (.methodLink RX5 239 yX2_slipKind : Cond) ∈ lw_all := in_all 687 (by decide +kernel) (by decide +kernel)
set_option maxRecDepth 20000 in
theorem wd_688 : (.methodLink RL 78 yX5_finds : Cond) ∈ lw_all := in_all 688 (by decide +kernel) (by decide +kernel)
set_option maxRecDepth 20000 in
theorem wd_689 : (.instanceMethod yX5_finds : Cond) ∈ lw_all := in_all 689 (by decide +kernel) (by decide +kernel)
set_option maxRecDepth 20000 in
theorem wd_690 : (.selects RX5 yX5_finds yX5_finds : Cond) ∈ lw_all := in_all 690 (by decide +kernel) (by decide +kernel)
set_option maxRecDepth 20000 in
theorem wd_691 : (.code yX5_finds cX5_finds 2 (some .boolean) : Cond) ∈ lw_all := in_all 691 (by decide +kernel) (by decide +kernel)
set_option maxRecDepth 20000 in
theorem wd_692 : (.methodLink RX5 227 yX2_hidesNothing : Cond) ∈ lw_all := in_all 692 (by decide +kernel) (by decide +kernel)
set_option maxRecDepth 20000 in
theorem wd_693 : (.instanceMethod yX2_hidesNothing : Cond) ∈ lw_all := in_all 693 (by decide +kernel) (by decide +kernel)
set_option maxRecDepth 20000 in
theorem wd_694 : (.selects RX2 yX2_hidesNothing yX2_hidesNothing : Cond) ∈ lw_all := in_all 694 (by decide +kernel) (by decide +kernel)
set_option maxRecDepth 20000 in
theorem wd_695 : (.code yX2_hidesNothing cX2_hidesNothing 3 (some .boolean) : Cond) ∈ lw_all := in_all 695 (by decide +kernel) (by decide +kernel)
set_option maxRecDepth 20000 in
theorem wd_697 : (.methodLink RL 108 yL_seen : Cond) ∈ lw_all := in_all 697 (by decide +kernel) (by decide +kernel)
set_option maxRecDepth 20000 in
theorem wd_698 : (.static yL_seen : Cond) ∈ lw_all := in_all 698 (by decide +kernel) (by decide +kernel)
set_option maxRecDepth 20000 in
theorem wd_699 : (.code yL_seen cL_seen 4 (some .long) : Cond) ∈ lw_all := in_all 699 (by decide +kernel) (by decide +kernel)
set_option maxRecDepth 20000 in
theorem wd_704 : (.methodLink RL 122 yL_refused : Cond) ∈ lw_all := in_all 704 (by decide +kernel) (by decide +kernel)
set_option maxRecDepth 20000 in
theorem wd_705 : (.static yL_refused : Cond) ∈ lw_all := in_all 705 (by decide +kernel) (by decide +kernel)
set_option maxRecDepth 20000 in
theorem wd_706 : (.code yL_refused cL_refused 5 (some .boolean) : Cond) ∈ lw_all := in_all 706 (by decide +kernel) (by decide +kernel)
set_option maxRecDepth 20000 in
theorem wd_707 : (.methodLink RL 112 yL_refusesOne : Cond) ∈ lw_all := in_all 707 (by decide +kernel) (by decide +kernel)
set_option maxRecDepth 20000 in
theorem wd_708 : (.static yL_refusesOne : Cond) ∈ lw_all := in_all 708 (by decide +kernel) (by decide +kernel)
set_option maxRecDepth 20000 in
theorem wd_709 : (.code yL_refusesOne cL_refusesOne 4 (some .boolean) : Cond) ∈ lw_all := in_all 709 (by decide +kernel) (by decide +kernel)
set_option maxRecDepth 20000 in
theorem wd_710 : (.constant RL 97 (999999) : Cond) ∈ lw_all := in_all 710 (by decide +kernel) (by decide +kernel)
set_option maxRecDepth 20000 in
theorem wd_711 : (.methodLink RL 98 yL_far : Cond) ∈ lw_all := in_all 711 (by decide +kernel) (by decide +kernel)
set_option maxRecDepth 20000 in
theorem wd_712 : (.static yL_far : Cond) ∈ lw_all := in_all 712 (by decide +kernel) (by decide +kernel)
set_option maxRecDepth 20000 in
theorem wd_713 : (.code yL_far cL_far 3 (some .int) : Cond) ∈ lw_all := in_all 713 (by decide +kernel) (by decide +kernel)
set_option maxRecDepth 20000 in
theorem wd_714 : (.constant RL 96 (-2147483648) : Cond) ∈ lw_all := in_all 714 (by decide +kernel) (by decide +kernel)
set_option maxRecDepth 20000 in
theorem wd_715 : (.constant RL 107 (999998) : Cond) ∈ lw_all := in_all 715 (by decide +kernel) (by decide +kernel)
set_option maxRecDepth 20000 in
theorem wd_716 : (.methodLink RL 217 yL_letters : Cond) ∈ lw_all := in_all 716 (by decide +kernel) (by decide +kernel)
set_option maxRecDepth 20000 in
theorem wd_717 : (.static yL_letters : Cond) ∈ lw_all := in_all 717 (by decide +kernel) (by decide +kernel)
set_option maxRecDepth 20000 in
theorem wd_718 : (.code yL_letters cL_letters 1 (some .boolean) : Cond) ∈ lw_all := in_all 718 (by decide +kernel) (by decide +kernel)
set_option maxRecDepth 20000 in
theorem wd_719 : (.constant RL 117 (123456) : Cond) ∈ lw_all := in_all 719 (by decide +kernel) (by decide +kernel)
set_option maxRecDepth 20000 in
theorem wd_720 : (.methodLink RL 118 yX5_cashed : Cond) ∈ lw_all := in_all 720 (by decide +kernel) (by decide +kernel)
set_option maxRecDepth 20000 in
theorem wd_721 : (.instanceMethod yX5_cashed : Cond) ∈ lw_all := in_all 721 (by decide +kernel) (by decide +kernel)
set_option maxRecDepth 20000 in
theorem wd_722 : (.selects RX5 yX5_cashed yX5_cashed : Cond) ∈ lw_all := in_all 722 (by decide +kernel) (by decide +kernel)
set_option maxRecDepth 20000 in
theorem wd_723 : (.code yX5_cashed cX5_cashed 2 (some .double) : Cond) ∈ lw_all := in_all 723 (by decide +kernel) (by decide +kernel)
set_option maxRecDepth 20000 in
theorem wd_724 : (.constant RL 126 (111111) : Cond) ∈ lw_all := in_all 724 (by decide +kernel) (by decide +kernel)
set_option maxRecDepth 20000 in
theorem wd_725 : (.methodLink RL 221 yL_cheques : Cond) ∈ lw_all := in_all 725 (by decide +kernel) (by decide +kernel)
set_option maxRecDepth 20000 in
theorem wd_726 : (.static yL_cheques : Cond) ∈ lw_all := in_all 726 (by decide +kernel) (by decide +kernel)
set_option maxRecDepth 20000 in
theorem wd_727 : (.code yL_cheques cL_cheques 1 (some .boolean) : Cond) ∈ lw_all := in_all 727 (by decide +kernel) (by decide +kernel)
set_option maxRecDepth 20000 in
theorem wd_729 : (.methodLink RL 224 yL_texts : Cond) ∈ lw_all := in_all 729 (by decide +kernel) (by decide +kernel)
set_option maxRecDepth 20000 in
theorem wd_730 : (.static yL_texts : Cond) ∈ lw_all := in_all 730 (by decide +kernel) (by decide +kernel)
set_option maxRecDepth 20000 in
theorem wd_731 : (.code yL_texts cL_texts 2 (some .boolean) : Cond) ∈ lw_all := in_all 731 (by decide +kernel) (by decide +kernel)
set_option maxRecDepth 20000 in
theorem wd_733 : (.methodLink RL 143 yL_isError : Cond) ∈ lw_all := in_all 733 (by decide +kernel) (by decide +kernel)
set_option maxRecDepth 20000 in
theorem wd_734 : (.static yL_isError : Cond) ∈ lw_all := in_all 734 (by decide +kernel) (by decide +kernel)
set_option maxRecDepth 20000 in
theorem wd_735 : (.code yL_isError cL_isError 6 (some .boolean) : Cond) ∈ lw_all := in_all 735 (by decide +kernel) (by decide +kernel)
set_option maxRecDepth 20000 in
theorem wd_736 : (.methodLink RL 131 yX5_clearBuffer : Cond) ∈ lw_all := in_all 736 (by decide +kernel) (by decide +kernel)
set_option maxRecDepth 20000 in
theorem wd_737 : (.instanceMethod yX5_clearBuffer : Cond) ∈ lw_all := in_all 737 (by decide +kernel) (by decide +kernel)
set_option maxRecDepth 20000 in
theorem wd_738 : (.selects RX5 yX5_clearBuffer yX5_clearBuffer : Cond) ∈ lw_all := in_all 738 (by decide +kernel) (by decide +kernel)
set_option maxRecDepth 20000 in
theorem wd_739 : (.code yX5_clearBuffer cX5_clearBuffer 1 (some .int) : Cond) ∈ lw_all := in_all 739 (by decide +kernel) (by decide +kernel)
set_option maxRecDepth 20000 in
theorem wd_740 : (.methodLink RL 134 yL_types : Cond) ∈ lw_all := in_all 740 (by decide +kernel) (by decide +kernel)
set_option maxRecDepth 20000 in
theorem wd_741 : (.static yL_types : Cond) ∈ lw_all := in_all 741 (by decide +kernel) (by decide +kernel)
set_option maxRecDepth 20000 in
theorem wd_742 : (.code yL_types cL_types 6 (some .boolean) : Cond) ∈ lw_all := in_all 742 (by decide +kernel) (by decide +kernel)
set_option maxRecDepth 20000 in
theorem wd_744 : (.methodLink RL 138 yX5_firstError : Cond) ∈ lw_all := in_all 744 (by decide +kernel) (by decide +kernel)
set_option maxRecDepth 20000 in
theorem wd_745 : (.instanceMethod yX5_firstError : Cond) ∈ lw_all := in_all 745 (by decide +kernel) (by decide +kernel)
set_option maxRecDepth 20000 in
theorem wd_746 : (.selects RX5 yX5_firstError yX5_firstError : Cond) ∈ lw_all := in_all 746 (by decide +kernel) (by decide +kernel)
set_option maxRecDepth 20000 in
theorem wd_747 : (.code yX5_firstError cX5_firstError 1 (some .int) : Cond) ∈ lw_all := in_all 747 (by decide +kernel) (by decide +kernel)
set_option maxRecDepth 20000 in
theorem wd_748 : (.methodLink RX5 125 yX3_errorIndex : Cond) ∈ lw_all := in_all 748 (by decide +kernel) (by decide +kernel)
set_option maxRecDepth 20000 in
theorem wd_784 : (.arrayClass .long : Cond) ∈ lw_all := in_all 784 (by decide +kernel) (by decide +kernel)
abbrev wsX0_init : List Cond := .code yX0_init cX0_init 1 none :: lw_all
abbrev wsX0_copyFrom : List Cond := .code yX0_copyFrom cX0_copyFrom 2 none :: lw_all
abbrev wsX0_firstOf : List Cond := .code yX0_firstOf cX0_firstOf 2 (some .int) :: lw_all
abbrev wsX0_sizeOf : List Cond := .code yX0_sizeOf cX0_sizeOf 2 (some .int) :: lw_all
abbrev wsX0_canTake : List Cond := .code yX0_canTake cX0_canTake 5 (some .boolean) :: lw_all
abbrev wsX0_add : List Cond := .code yX0_add cX0_add 5 (some .int) :: lw_all
abbrev wsX0_cellOf : List Cond := .code yX0_cellOf cX0_cellOf 4 (some .int) :: lw_all
abbrev wsX0_kindAt : List Cond := .code yX0_kindAt cX0_kindAt 2 (some .int) :: lw_all
abbrev wsX0_amountAt : List Cond := .code yX0_amountAt cX0_amountAt 2 (some .int) :: lw_all
abbrev wsX0_setCell : List Cond := .code yX0_setCell cX0_setCell 4 none :: lw_all
abbrev wsX0_makeWritten : List Cond := .code yX0_makeWritten cX0_makeWritten 3 none :: lw_all
abbrev wsX0_makeCashed : List Cond := .code yX0_makeCashed cX0_makeCashed 2 none :: lw_all
abbrev wsX0_makeRunVoid : List Cond := .code yX0_makeRunVoid cX0_makeRunVoid 8 (some .int) :: lw_all
abbrev wsX0_makeVoid : List Cond := .code yX0_makeVoid cX0_makeVoid 3 (some .int) :: lw_all
abbrev wsX0_sameKindFrom : List Cond := .code yX0_sameKindFrom cX0_sameKindFrom 7 (some .int) :: lw_all
abbrev wsX0_numberOf : List Cond := .code yX0_numberOf cX0_numberOf 3 (some .int) :: lw_all
abbrev wsX0_numberOfAll : List Cond := .code yX0_numberOfAll cX0_numberOfAll 4 (some .int) :: lw_all
abbrev wsX0_chequesOf : List Cond := .code yX0_chequesOf cX0_chequesOf 6 (some .int) :: lw_all
abbrev wsX0_amountsOf : List Cond := .code yX0_amountsOf cX0_amountsOf 7 (some .int) :: lw_all
abbrev wsX0_firstBlankOf : List Cond := .code yX0_firstBlankOf cX0_firstBlankOf 4 (some .int) :: lw_all
abbrev wsX0_bookOfRank : List Cond := .code yX0_bookOfRank cX0_bookOfRank 3 (some .int) :: lw_all
abbrev wsX0_booksBefore : List Cond := .code yX0_booksBefore cX0_booksBefore 4 (some .int) :: lw_all
abbrev wsX0_serialOfRank : List Cond := .code yX0_serialOfRank cX0_serialOfRank 6 (some .int) :: lw_all
abbrev wsX1_init : List Cond := .code yX1_init cX1_init 2 none :: lw_all
abbrev wsX1_save : List Cond := .code yX1_save cX1_save 2 none :: lw_all
abbrev wsX1_dropOldest : List Cond := .code yX1_dropOldest cX1_dropOldest 3 none :: lw_all
abbrev wsX1_restoreLast : List Cond := .code yX1_restoreLast cX1_restoreLast 3 none :: lw_all
abbrev wsX1_isSlotFilled : List Cond := .code yX1_isSlotFilled cX1_isSlotFilled 2 (some .boolean) :: lw_all
abbrev wsX1_putIntoSlot : List Cond := .code yX1_putIntoSlot cX1_putIntoSlot 3 none :: lw_all
abbrev wsX1_restoreSlot : List Cond := .code yX1_restoreSlot cX1_restoreSlot 3 none :: lw_all
abbrev wsX1_copyState : List Cond := .code yX1_copyState cX1_copyState 2 none :: lw_all
abbrev wsX2_init : List Cond := .code yX2_init cX2_init 2 none :: lw_all
abbrev wsX2_copyFrom : List Cond := .code yX2_copyFrom cX2_copyFrom 2 none :: lw_all
abbrev wsX2_weightAt : List Cond := .code yX2_weightAt cX2_weightAt 2 (some .int) :: lw_all
abbrev wsX2_setWeight : List Cond := .code yX2_setWeight cX2_setWeight 3 none :: lw_all
abbrev wsX2_letterOf : List Cond := .code yX2_letterOf cX2_letterOf 5 (some .int) :: lw_all
abbrev wsX2_restOf : List Cond := .code yX2_restOf cX2_restOf 3 (some .int) :: lw_all
abbrev wsX2_digitAt : List Cond := .code yX2_digitAt cX2_digitAt 4 (some .int) :: lw_all
abbrev wsX2_factorAt : List Cond := .code yX2_factorAt cX2_factorAt 4 (some .int) :: lw_all
abbrev wsX2_isHidden : List Cond := .code yX2_isHidden cX2_isHidden 3 (some .boolean) :: lw_all
abbrev wsX2_hiddenPairsTried : List Cond := .code yX2_hiddenPairsTried cX2_hiddenPairsTried 5 (some .int) :: lw_all
abbrev wsX2_hiddenPairs : List Cond := .code yX2_hiddenPairs cX2_hiddenPairs 4 (some .int) :: lw_all
abbrev wsX2_hiddenPairsWith : List Cond := .code yX2_hiddenPairsWith cX2_hiddenPairsWith 7 (some .int) :: lw_all
abbrev wsX2_hidesNothing : List Cond := .code yX2_hidesNothing cX2_hidesNothing 3 (some .boolean) :: lw_all
abbrev wsX2_hiddenMisreadings : List Cond := .code yX2_hiddenMisreadings cX2_hiddenMisreadings 7 (some .int) :: lw_all
abbrev wsX2_hiddenSwaps : List Cond := .code yX2_hiddenSwaps cX2_hiddenSwaps 6 (some .int) :: lw_all
abbrev wsX2_slipKind : List Cond := .code yX2_slipKind cX2_slipKind 5 (some .int) :: lw_all
abbrev wsX2_digitSlip : List Cond := .code yX2_digitSlip cX2_digitSlip 5 (some .int) :: lw_all
abbrev wsX2_isSwapped : List Cond := .code yX2_isSwapped cX2_isSwapped 3 (some .boolean) :: lw_all
abbrev wsX3_init : List Cond := .code yX3_init cX3_init 1 none :: lw_all
abbrev wsX3_isFull : List Cond := .code yX3_isFull cX3_isFull 1 (some .boolean) :: lw_all
abbrev wsX3_add : List Cond := .code yX3_add cX3_add 2 (some .int) :: lw_all
abbrev wsX3_clear : List Cond := .code yX3_clear cX3_clear 2 (some .int) :: lw_all
abbrev wsX3_signAt : List Cond := .code yX3_signAt cX3_signAt 2 (some .int) :: lw_all
abbrev wsX3_numberIn : List Cond := .code yX3_numberIn cX3_numberIn 5 (some .int) :: lw_all
abbrev wsX3_errorIndex : List Cond := .code yX3_errorIndex cX3_errorIndex 3 (some .int) :: lw_all
abbrev wsX3_isComplete : List Cond := .code yX3_isComplete cX3_isComplete 3 (some .boolean) :: lw_all
abbrev wsX3_fits : List Cond := .code yX3_fits cX3_fits 5 (some .boolean) :: lw_all
abbrev wsX3_isWhole : List Cond := .code yX3_isWhole cX3_isWhole 4 (some .boolean) :: lw_all
abbrev wsX3_isDigit : List Cond := .code yX3_isDigit cX3_isDigit 1 (some .boolean) :: lw_all
abbrev wsX3_endsHead : List Cond := .code yX3_endsHead cX3_endsHead 2 (some .boolean) :: lw_all
abbrev wsX3_fitsBehindHead : List Cond := .code yX3_fitsBehindHead cX3_fitsBehindHead 4 (some .boolean) :: lw_all
abbrev wsX4_init : List Cond := .code yX4_init cX4_init 1 none :: lw_all
abbrev wsX4_copyFrom : List Cond := .code yX4_copyFrom cX4_copyFrom 2 none :: lw_all
abbrev wsX4_cashByReading : List Cond := .code yX4_cashByReading cX4_cashByReading 5 (some .int) :: lw_all
abbrev wsX4_reasonAgainstCashing : List Cond := .code yX4_reasonAgainstCashing cX4_reasonAgainstCashing 4 (some .int) :: lw_all
abbrev wsX4_meantCheques : List Cond := .code yX4_meantCheques cX4_meantCheques 9 (some .int) :: lw_all
abbrev wsX5_init : List Cond := .code yX5_init cX5_init 1 none :: lw_all
abbrev wsX5_weight : List Cond := .code yX5_weight cX5_weight 4 (some .int) :: lw_all
abbrev wsX5_modulus : List Cond := .code yX5_modulus cX5_modulus 3 (some .int) :: lw_all
abbrev wsX5_book : List Cond := .code yX5_book cX5_book 3 (some .int) :: lw_all
abbrev wsX5_write : List Cond := .code yX5_write cX5_write 3 (some .int) :: lw_all
abbrev wsX5_cash : List Cond := .code yX5_cash cX5_cash 3 (some .int) :: lw_all
abbrev wsX5_voidRun : List Cond := .code yX5_voidRun cX5_voidRun 3 (some .int) :: lw_all
abbrev wsX5_append : List Cond := .code yX5_append cX5_append 2 (some .int) :: lw_all
abbrev wsX5_clearBuffer : List Cond := .code yX5_clearBuffer cX5_clearBuffer 1 (some .int) :: lw_all
abbrev wsX5_firstError : List Cond := .code yX5_firstError cX5_firstError 1 (some .int) :: lw_all
abbrev wsX5_execute : List Cond := .code yX5_execute cX5_execute 2 (some .int) :: lw_all
abbrev wsX5_undo : List Cond := .code yX5_undo cX5_undo 1 (some .int) :: lw_all
abbrev wsX5_keep : List Cond := .code yX5_keep cX5_keep 2 (some .int) :: lw_all
abbrev wsX5_goBack : List Cond := .code yX5_goBack cX5_goBack 2 (some .int) :: lw_all
abbrev wsX5_letter : List Cond := .code yX5_letter cX5_letter 2 (some .int) :: lw_all
abbrev wsX5_cheque : List Cond := .code yX5_cheque cX5_cheque 4 (some .int) :: lw_all
abbrev wsX5_bookOf : List Cond := .code yX5_bookOf cX5_bookOf 3 (some .int) :: lw_all
abbrev wsX5_count : List Cond := .code yX5_count cX5_count 2 (some .int) :: lw_all
abbrev wsX5_ranked : List Cond := .code yX5_ranked cX5_ranked 2 (some .int) :: lw_all
abbrev wsX5_missed : List Cond := .code yX5_missed cX5_missed 3 (some .int) :: lw_all
abbrev wsX5_weak : List Cond := .code yX5_weak cX5_weak 5 (some .int) :: lw_all
abbrev wsX5_finds : List Cond := .code yX5_finds cX5_finds 2 (some .boolean) :: lw_all
abbrev wsX5_bestWeight : List Cond := .code yX5_bestWeight cX5_bestWeight 6 (some .int) :: lw_all
abbrev wsX5_meant : List Cond := .code yX5_meant cX5_meant 4 (some .int) :: lw_all
abbrev wsX5_slip : List Cond := .code yX5_slip cX5_slip 4 (some .int) :: lw_all
abbrev wsX5_cashed : List Cond := .code yX5_cashed cX5_cashed 2 (some .double) :: lw_all
abbrev wsX5_throwIfNoPosition : List Cond := .code yX5_throwIfNoPosition cX5_throwIfNoPosition 1 none :: lw_all
abbrev wsX5_throwIfNoSerial : List Cond := .code yX5_throwIfNoSerial cX5_throwIfNoSerial 1 none :: lw_all
abbrev wsX5_throwIfNoLetter : List Cond := .code yX5_throwIfNoLetter cX5_throwIfNoLetter 1 none :: lw_all
abbrev wsX5_throwIfNoSlipKind : List Cond := .code yX5_throwIfNoSlipKind cX5_throwIfNoSlipKind 1 none :: lw_all
abbrev wsX5_throwIfNoSlot : List Cond := .code yX5_throwIfNoSlot cX5_throwIfNoSlot 1 none :: lw_all
abbrev wsX5_throwIfFaulty : List Cond := .code yX5_throwIfFaulty cX5_throwIfFaulty 1 none :: lw_all
abbrev wsX5_isSerial : List Cond := .code yX5_isSerial cX5_isSerial 1 (some .boolean) :: lw_all
abbrev wsX5_positionsOf : List Cond := .code yX5_positionsOf cX5_positionsOf 1 (some .int) :: lw_all
abbrev wsX5_faultOfBook : List Cond := .code yX5_faultOfBook cX5_faultOfBook 3 (some .int) :: lw_all
abbrev wsX5_faultOfWriting : List Cond := .code yX5_faultOfWriting cX5_faultOfWriting 4 (some .int) :: lw_all
abbrev wsX5_faultOfRun : List Cond := .code yX5_faultOfRun cX5_faultOfRun 2 (some .int) :: lw_all
abbrev wsX5_runOrders : List Cond := .code yX5_runOrders cX5_runOrders 5 (some .int) :: lw_all
abbrev wsX5_runOrder : List Cond := .code yX5_runOrder cX5_runOrder 5 (some .boolean) :: lw_all
abbrev wsX5_runBook : List Cond := .code yX5_runBook cX5_runBook 3 (some .boolean) :: lw_all
abbrev wsX5_runWriting : List Cond := .code yX5_runWriting cX5_runWriting 3 (some .boolean) :: lw_all
abbrev wsX5_runVoiding : List Cond := .code yX5_runVoiding cX5_runVoiding 3 (some .boolean) :: lw_all
abbrev wsX5_copyRow : List Cond := .code yX5_copyRow cX5_copyRow 3 none :: lw_all
abbrev wsL_part : List Cond := .code yL_part cL_part 2 (some .int) :: lw_all
abbrev wsL_drawn : List Cond := .code yL_drawn cL_drawn 2 (some .int) :: lw_all
abbrev wsL_seen : List Cond := .code yL_seen cL_seen 4 (some .long) :: lw_all
abbrev wsL_far : List Cond := .code yL_far cL_far 3 (some .int) :: lw_all
abbrev wsL_refusesOne : List Cond := .code yL_refusesOne cL_refusesOne 4 (some .boolean) :: lw_all
abbrev wsL_refused : List Cond := .code yL_refused cL_refused 5 (some .boolean) :: lw_all
abbrev wsL_letters : List Cond := .code yL_letters cL_letters 1 (some .boolean) :: lw_all
abbrev wsL_cheques : List Cond := .code yL_cheques cL_cheques 1 (some .boolean) :: lw_all
abbrev wsL_types : List Cond := .code yL_types cL_types 6 (some .boolean) :: lw_all
abbrev wsL_isError : List Cond := .code yL_isError cL_isError 6 (some .boolean) :: lw_all
abbrev wsL_texts : List Cond := .code yL_texts cL_texts 2 (some .boolean) :: lw_all
