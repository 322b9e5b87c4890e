def RX0 : String := "ChequeSerials$Books"
def TX0 : u_T := fun k => match k with
  | 0 => ("ChequeSerials$Books", "firsts", "[I", true)
  | 1 => ("ChequeSerials$Books", "sizes", "[I", true)
  | 2 => ("ChequeSerials$Books", "kinds", "[I", true)
  | 3 => ("ChequeSerials$Books", "amounts", "[I", true)
  | _ => ("ChequeSerials$Books", "held", "I", false)
def tyX0 : Nat → FieldType := fun k => match k with
  | 0 => .array .int
  | 1 => .array .int
  | 2 => .array .int
  | 3 => .array .int
  | _ => .int
abbrev wsX00 : List Cond := u_ws RX0 TX0 5
theorem nmX0 : ∀ a, a < 5 → ∀ b, b < 5 → a ≠ b → (TX0 a).2.1 ≠ (TX0 b).2.1 := by decide +kernel
theorem tyX0_ok : ∀ k, k < 5 → parseFieldDescriptor (TX0 k).2.2.1 = some (tyX0 k) := by decide +kernel
abbrev cX0_init : ByteArray := prog_2_method_1_code
def yX0_init : MethodName := ⟨RX0, "<init>", "()V"⟩
abbrev cX0_copyFrom : ByteArray := prog_2_method_2_code
def yX0_copyFrom : MethodName := ⟨RX0, "copyFrom", "(LChequeSerials$Books;)V"⟩
abbrev cX0_firstOf : ByteArray := prog_2_method_3_code
def yX0_firstOf : MethodName := ⟨RX0, "firstOf", "(I)I"⟩
abbrev cX0_sizeOf : ByteArray := prog_2_method_4_code
def yX0_sizeOf : MethodName := ⟨RX0, "sizeOf", "(I)I"⟩
abbrev cX0_canTake : ByteArray := prog_2_method_5_code
def yX0_canTake : MethodName := ⟨RX0, "canTake", "(II)Z"⟩
abbrev cX0_add : ByteArray := prog_2_method_6_code
def yX0_add : MethodName := ⟨RX0, "add", "(II)I"⟩
abbrev cX0_cellOf : ByteArray := prog_2_method_7_code
def yX0_cellOf : MethodName := ⟨RX0, "cellOf", "(I)I"⟩
abbrev cX0_kindAt : ByteArray := prog_2_method_8_code
def yX0_kindAt : MethodName := ⟨RX0, "kindAt", "(I)I"⟩
abbrev cX0_amountAt : ByteArray := prog_2_method_9_code
def yX0_amountAt : MethodName := ⟨RX0, "amountAt", "(I)I"⟩
abbrev cX0_setCell : ByteArray := prog_2_method_10_code
def yX0_setCell : MethodName := ⟨RX0, "setCell", "(III)V"⟩
abbrev cX0_makeWritten : ByteArray := prog_2_method_11_code
def yX0_makeWritten : MethodName := ⟨RX0, "makeWritten", "(II)V"⟩
abbrev cX0_makeCashed : ByteArray := prog_2_method_12_code
def yX0_makeCashed : MethodName := ⟨RX0, "makeCashed", "(I)V"⟩
abbrev cX0_makeRunVoid : ByteArray := prog_2_method_13_code
def yX0_makeRunVoid : MethodName := ⟨RX0, "makeRunVoid", "(II)I"⟩
abbrev cX0_makeVoid : ByteArray := prog_2_method_14_code
def yX0_makeVoid : MethodName := ⟨RX0, "makeVoid", "(I)I"⟩
abbrev cX0_sameKindFrom : ByteArray := prog_2_method_15_code
def yX0_sameKindFrom : MethodName := ⟨RX0, "sameKindFrom", "(I)I"⟩
abbrev cX0_numberOf : ByteArray := prog_2_method_16_code
def yX0_numberOf : MethodName := ⟨RX0, "numberOf", "(II)I"⟩
abbrev cX0_numberOfAll : ByteArray := prog_2_method_17_code
def yX0_numberOfAll : MethodName := ⟨RX0, "numberOfAll", "(I)I"⟩
abbrev cX0_chequesOf : ByteArray := prog_2_method_18_code
def yX0_chequesOf : MethodName := ⟨RX0, "chequesOf", "(II)I"⟩
abbrev cX0_amountsOf : ByteArray := prog_2_method_19_code
def yX0_amountsOf : MethodName := ⟨RX0, "amountsOf", "(II)I"⟩
abbrev cX0_firstBlankOf : ByteArray := prog_2_method_20_code
def yX0_firstBlankOf : MethodName := ⟨RX0, "firstBlankOf", "(I)I"⟩
abbrev cX0_bookOfRank : ByteArray := prog_2_method_21_code
def yX0_bookOfRank : MethodName := ⟨RX0, "bookOfRank", "(I)I"⟩
abbrev cX0_booksBefore : ByteArray := prog_2_method_22_code
def yX0_booksBefore : MethodName := ⟨RX0, "booksBefore", "(I)I"⟩
abbrev cX0_serialOfRank : ByteArray := prog_2_method_23_code
def yX0_serialOfRank : MethodName := ⟨RX0, "serialOfRank", "(I)I"⟩
def RX1 : String := "ChequeSerials$History"
def TX1 : u_T := fun k => match k with
  | 0 => ("ChequeSerials$History", "saved", "[LChequeSerials$State;", true)
  | 1 => ("ChequeSerials$History", "slots", "[LChequeSerials$State;", true)
  | 2 => ("ChequeSerials$History", "filled", "[Z", true)
  | _ => ("ChequeSerials$History", "depth", "I", false)
def tyX1 : Nat → FieldType := fun k => match k with
  | 0 => .array (.object "ChequeSerials$State")
  | 1 => .array (.object "ChequeSerials$State")
  | 2 => .array .boolean
  | _ => .int
abbrev wsX10 : List Cond := u_ws RX1 TX1 4
theorem nmX1 : ∀ a, a < 4 → ∀ b, b < 4 → a ≠ b → (TX1 a).2.1 ≠ (TX1 b).2.1 := by decide +kernel
theorem tyX1_ok : ∀ k, k < 4 → parseFieldDescriptor (TX1 k).2.2.1 = some (tyX1 k) := by decide +kernel
abbrev cX1_init : ByteArray := prog_3_method_1_code
def yX1_init : MethodName := ⟨RX1, "<init>", "()V"⟩
abbrev cX1_save : ByteArray := prog_3_method_2_code
def yX1_save : MethodName := ⟨RX1, "save", "(LChequeSerials$State;)V"⟩
abbrev cX1_dropOldest : ByteArray := prog_3_method_3_code
def yX1_dropOldest : MethodName := ⟨RX1, "dropOldest", "()V"⟩
abbrev cX1_restoreLast : ByteArray := prog_3_method_4_code
def yX1_restoreLast : MethodName := ⟨RX1, "restoreLast", "(LChequeSerials$State;)V"⟩
abbrev cX1_isSlotFilled : ByteArray := prog_3_method_5_code
def yX1_isSlotFilled : MethodName := ⟨RX1, "isSlotFilled", "(I)Z"⟩
abbrev cX1_putIntoSlot : ByteArray := prog_3_method_6_code
def yX1_putIntoSlot : MethodName := ⟨RX1, "putIntoSlot", "(ILChequeSerials$State;)V"⟩
abbrev cX1_restoreSlot : ByteArray := prog_3_method_7_code
def yX1_restoreSlot : MethodName := ⟨RX1, "restoreSlot", "(ILChequeSerials$State;)V"⟩
abbrev cX1_copyState : ByteArray := prog_3_method_8_code
def yX1_copyState : MethodName := ⟨RX1, "copyState", "(LChequeSerials$State;LChequeSerials$State;)V"⟩
def RX2 : String := "ChequeSerials$Letters"
def TX2 : u_T := fun k => match k with
  | 0 => ("ChequeSerials$Letters", "weights", "[I", true)
  | _ => ("ChequeSerials$Letters", "modulus", "I", false)
def tyX2 : Nat → FieldType := fun k => match k with
  | 0 => .array .int
  | _ => .int
abbrev wsX20 : List Cond := u_ws RX2 TX2 2
theorem nmX2 : ∀ a, a < 2 → ∀ b, b < 2 → a ≠ b → (TX2 a).2.1 ≠ (TX2 b).2.1 := by decide +kernel
theorem tyX2_ok : ∀ k, k < 2 → parseFieldDescriptor (TX2 k).2.2.1 = some (tyX2 k) := by decide +kernel
abbrev cX2_init : ByteArray := prog_4_method_1_code
def yX2_init : MethodName := ⟨RX2, "<init>", "()V"⟩
abbrev cX2_copyFrom : ByteArray := prog_4_method_2_code
def yX2_copyFrom : MethodName := ⟨RX2, "copyFrom", "(LChequeSerials$Letters;)V"⟩
abbrev cX2_weightAt : ByteArray := prog_4_method_3_code
def yX2_weightAt : MethodName := ⟨RX2, "weightAt", "(I)I"⟩
abbrev cX2_setWeight : ByteArray := prog_4_method_4_code
def yX2_setWeight : MethodName := ⟨RX2, "setWeight", "(II)V"⟩
abbrev cX2_letterOf : ByteArray := prog_4_method_5_code
def yX2_letterOf : MethodName := ⟨RX2, "letterOf", "(I)I"⟩
abbrev cX2_restOf : ByteArray := prog_4_method_6_code
def yX2_restOf : MethodName := ⟨RX2, "restOf", "(I)I"⟩
abbrev cX2_digitAt : ByteArray := prog_4_method_7_code
def yX2_digitAt : MethodName := ⟨RX2, "digitAt", "(II)I"⟩
abbrev cX2_factorAt : ByteArray := prog_4_method_8_code
def yX2_factorAt : MethodName := ⟨RX2, "factorAt", "(II)I"⟩
abbrev cX2_isHidden : ByteArray := prog_4_method_9_code
def yX2_isHidden : MethodName := ⟨RX2, "isHidden", "(II)Z"⟩
abbrev cX2_hiddenPairsTried : ByteArray := prog_4_method_10_code
def yX2_hiddenPairsTried : MethodName := ⟨RX2, "hiddenPairsTried", "(I)I"⟩
abbrev cX2_hiddenPairs : ByteArray := prog_4_method_11_code
def yX2_hiddenPairs : MethodName := ⟨RX2, "hiddenPairs", "(I)I"⟩
abbrev cX2_hiddenPairsWith : ByteArray := prog_4_method_12_code
def yX2_hiddenPairsWith : MethodName := ⟨RX2, "hiddenPairsWith", "(II)I"⟩
abbrev cX2_hidesNothing : ByteArray := prog_4_method_13_code
def yX2_hidesNothing : MethodName := ⟨RX2, "hidesNothing", "(I)Z"⟩
abbrev cX2_hiddenMisreadings : ByteArray := prog_4_method_14_code
def yX2_hiddenMisreadings : MethodName := ⟨RX2, "hiddenMisreadings", "(I)I"⟩
abbrev cX2_hiddenSwaps : ByteArray := prog_4_method_15_code
def yX2_hiddenSwaps : MethodName := ⟨RX2, "hiddenSwaps", "(I)I"⟩
abbrev cX2_slipKind : ByteArray := prog_4_method_16_code
def yX2_slipKind : MethodName := ⟨RX2, "slipKind", "(III)I"⟩
abbrev cX2_digitSlip : ByteArray := prog_4_method_17_code
def yX2_digitSlip : MethodName := ⟨RX2, "digitSlip", "(II)I"⟩
abbrev cX2_isSwapped : ByteArray := prog_4_method_18_code
def yX2_isSwapped : MethodName := ⟨RX2, "isSwapped", "(III)Z"⟩
def RX3 : String := "ChequeSerials$OrderText"
def TX3 : u_T := fun k => match k with
  | 0 => ("ChequeSerials$OrderText", "signs", "[I", true)
  | _ => ("ChequeSerials$OrderText", "length", "I", false)
def tyX3 : Nat → FieldType := fun k => match k with
  | 0 => .array .int
  | _ => .int
abbrev wsX30 : List Cond := u_ws RX3 TX3 2
theorem nmX3 : ∀ a, a < 2 → ∀ b, b < 2 → a ≠ b → (TX3 a).2.1 ≠ (TX3 b).2.1 := by decide +kernel
theorem tyX3_ok : ∀ k, k < 2 → parseFieldDescriptor (TX3 k).2.2.1 = some (tyX3 k) := by decide +kernel
abbrev cX3_init : ByteArray := prog_5_method_1_code
def yX3_init : MethodName := ⟨RX3, "<init>", "()V"⟩
abbrev cX3_isFull : ByteArray := prog_5_method_2_code
def yX3_isFull : MethodName := ⟨RX3, "isFull", "()Z"⟩
abbrev cX3_add : ByteArray := prog_5_method_3_code
def yX3_add : MethodName := ⟨RX3, "add", "(I)I"⟩
abbrev cX3_clear : ByteArray := prog_5_method_4_code
def yX3_clear : MethodName := ⟨RX3, "clear", "()I"⟩
abbrev cX3_signAt : ByteArray := prog_5_method_5_code
def yX3_signAt : MethodName := ⟨RX3, "signAt", "(I)I"⟩
abbrev cX3_numberIn : ByteArray := prog_5_method_6_code
def yX3_numberIn : MethodName := ⟨RX3, "numberIn", "(II)I"⟩
abbrev cX3_errorIndex : ByteArray := prog_5_method_7_code
def yX3_errorIndex : MethodName := ⟨RX3, "errorIndex", "()I"⟩
abbrev cX3_isComplete : ByteArray := prog_5_method_8_code
def yX3_isComplete : MethodName := ⟨RX3, "isComplete", "()Z"⟩
abbrev cX3_fits : ByteArray := prog_5_method_9_code
def yX3_fits : MethodName := ⟨RX3, "fits", "(II)Z"⟩
abbrev cX3_isWhole : ByteArray := prog_5_method_10_code
def yX3_isWhole : MethodName := ⟨RX3, "isWhole", "(II)Z"⟩
abbrev cX3_isDigit : ByteArray := prog_5_method_11_code
def yX3_isDigit : MethodName := ⟨RX3, "isDigit", "(I)Z"⟩
abbrev cX3_endsHead : ByteArray := prog_5_method_12_code
def yX3_endsHead : MethodName := ⟨RX3, "endsHead", "(II)Z"⟩
abbrev cX3_fitsBehindHead : ByteArray := prog_5_method_13_code
def yX3_fitsBehindHead : MethodName := ⟨RX3, "fitsBehindHead", "(II)Z"⟩
def RX4 : String := "ChequeSerials$State"
def TX4 : u_T := fun k => match k with
  | 0 => ("ChequeSerials$State", "letters", "LChequeSerials$Letters;", true)
  | 1 => ("ChequeSerials$State", "books", "LChequeSerials$Books;", true)
  | _ => ("ChequeSerials$State", "refusals", "I", false)
def tyX4 : Nat → FieldType := fun k => match k with
  | 0 => .object "ChequeSerials$Letters"
  | 1 => .object "ChequeSerials$Books"
  | _ => .int
abbrev wsX40 : List Cond := u_ws RX4 TX4 3
theorem nmX4 : ∀ a, a < 3 → ∀ b, b < 3 → a ≠ b → (TX4 a).2.1 ≠ (TX4 b).2.1 := by decide +kernel
theorem tyX4_ok : ∀ k, k < 3 → parseFieldDescriptor (TX4 k).2.2.1 = some (tyX4 k) := by decide +kernel
abbrev cX4_init : ByteArray := prog_6_method_1_code
def yX4_init : MethodName := ⟨RX4, "<init>", "()V"⟩
abbrev cX4_copyFrom : ByteArray := prog_6_method_2_code
def yX4_copyFrom : MethodName := ⟨RX4, "copyFrom", "(LChequeSerials$State;)V"⟩
abbrev cX4_cashByReading : ByteArray := prog_6_method_3_code
def yX4_cashByReading : MethodName := ⟨RX4, "cashByReading", "(II)I"⟩
abbrev cX4_reasonAgainstCashing : ByteArray := prog_6_method_4_code
def yX4_reasonAgainstCashing : MethodName := ⟨RX4, "reasonAgainstCashing", "(II)I"⟩
abbrev cX4_meantCheques : ByteArray := prog_6_method_5_code
def yX4_meantCheques : MethodName := ⟨RX4, "meantCheques", "(III)I"⟩
def RX5 : String := "ChequeSerials"
def TX5 : u_T := fun k => match k with
  | 0 => ("ChequeSerials", "now", "LChequeSerials$State;", true)
  | 1 => ("ChequeSerials", "history", "LChequeSerials$History;", true)
  | _ => ("ChequeSerials", "orders", "LChequeSerials$OrderText;", true)
def tyX5 : Nat → FieldType := fun k => match k with
  | 0 => .object "ChequeSerials$State"
  | 1 => .object "ChequeSerials$History"
  | _ => .object "ChequeSerials$OrderText"
abbrev wsX50 : List Cond := u_ws RX5 TX5 3
theorem nmX5 : ∀ a, a < 3 → ∀ b, b < 3 → a ≠ b → (TX5 a).2.1 ≠ (TX5 b).2.1 := by decide +kernel
theorem tyX5_ok : ∀ k, k < 3 → parseFieldDescriptor (TX5 k).2.2.1 = some (tyX5 k) := by decide +kernel
abbrev cX5_init : ByteArray := prog_1_method_1_code
def yX5_init : MethodName := ⟨RX5, "<init>", "()V"⟩
abbrev cX5_weight : ByteArray := prog_1_method_2_code
def yX5_weight : MethodName := ⟨RX5, "weight", "(II)I"⟩
abbrev cX5_modulus : ByteArray := prog_1_method_3_code
def yX5_modulus : MethodName := ⟨RX5, "modulus", "(I)I"⟩
abbrev cX5_book : ByteArray := prog_1_method_4_code
def yX5_book : MethodName := ⟨RX5, "book", "(II)I"⟩
abbrev cX5_write : ByteArray := prog_1_method_5_code
def yX5_write : MethodName := ⟨RX5, "write", "(II)I"⟩
abbrev cX5_cash : ByteArray := prog_1_method_6_code
def yX5_cash : MethodName := ⟨RX5, "cash", "(II)I"⟩
abbrev cX5_voidRun : ByteArray := prog_1_method_7_code
def yX5_voidRun : MethodName := ⟨RX5, "voidRun", "(II)I"⟩
abbrev cX5_append : ByteArray := prog_1_method_8_code
def yX5_append : MethodName := ⟨RX5, "append", "(I)I"⟩
abbrev cX5_clearBuffer : ByteArray := prog_1_method_9_code
def yX5_clearBuffer : MethodName := ⟨RX5, "clearBuffer", "()I"⟩
abbrev cX5_firstError : ByteArray := prog_1_method_10_code
def yX5_firstError : MethodName := ⟨RX5, "firstError", "()I"⟩
abbrev cX5_execute : ByteArray := prog_1_method_11_code
def yX5_execute : MethodName := ⟨RX5, "execute", "()I"⟩
abbrev cX5_undo : ByteArray := prog_1_method_12_code
def yX5_undo : MethodName := ⟨RX5, "undo", "()I"⟩
abbrev cX5_keep : ByteArray := prog_1_method_13_code
def yX5_keep : MethodName := ⟨RX5, "keep", "(I)I"⟩
abbrev cX5_goBack : ByteArray := prog_1_method_14_code
def yX5_goBack : MethodName := ⟨RX5, "goBack", "(I)I"⟩
abbrev cX5_letter : ByteArray := prog_1_method_15_code
def yX5_letter : MethodName := ⟨RX5, "letter", "(I)I"⟩
abbrev cX5_cheque : ByteArray := prog_1_method_16_code
def yX5_cheque : MethodName := ⟨RX5, "cheque", "(II)I"⟩
abbrev cX5_bookOf : ByteArray := prog_1_method_17_code
def yX5_bookOf : MethodName := ⟨RX5, "bookOf", "(II)I"⟩
abbrev cX5_count : ByteArray := prog_1_method_18_code
def yX5_count : MethodName := ⟨RX5, "count", "(I)I"⟩
abbrev cX5_ranked : ByteArray := prog_1_method_19_code
def yX5_ranked : MethodName := ⟨RX5, "ranked", "(I)I"⟩
abbrev cX5_missed : ByteArray := prog_1_method_20_code
def yX5_missed : MethodName := ⟨RX5, "missed", "(II)I"⟩
abbrev cX5_weak : ByteArray := prog_1_method_21_code
def yX5_weak : MethodName := ⟨RX5, "weak", "(III)I"⟩
abbrev cX5_finds : ByteArray := prog_1_method_22_code
def yX5_finds : MethodName := ⟨RX5, "finds", "(I)Z"⟩
abbrev cX5_bestWeight : ByteArray := prog_1_method_23_code
def yX5_bestWeight : MethodName := ⟨RX5, "bestWeight", "(I)I"⟩
abbrev cX5_meant : ByteArray := prog_1_method_24_code
def yX5_meant : MethodName := ⟨RX5, "meant", "(III)I"⟩
abbrev cX5_slip : ByteArray := prog_1_method_25_code
def yX5_slip : MethodName := ⟨RX5, "slip", "(III)I"⟩
abbrev cX5_cashed : ByteArray := prog_1_method_26_code
def yX5_cashed : MethodName := ⟨RX5, "cashed", "()D"⟩
abbrev cX5_throwIfNoPosition : ByteArray := prog_1_method_27_code
def yX5_throwIfNoPosition : MethodName := ⟨RX5, "throwIfNoPosition", "(I)V"⟩
abbrev cX5_throwIfNoSerial : ByteArray := prog_1_method_28_code
def yX5_throwIfNoSerial : MethodName := ⟨RX5, "throwIfNoSerial", "(I)V"⟩
abbrev cX5_throwIfNoLetter : ByteArray := prog_1_method_29_code
def yX5_throwIfNoLetter : MethodName := ⟨RX5, "throwIfNoLetter", "(I)V"⟩
abbrev cX5_throwIfNoSlipKind : ByteArray := prog_1_method_30_code
def yX5_throwIfNoSlipKind : MethodName := ⟨RX5, "throwIfNoSlipKind", "(I)V"⟩
abbrev cX5_throwIfNoSlot : ByteArray := prog_1_method_31_code
def yX5_throwIfNoSlot : MethodName := ⟨RX5, "throwIfNoSlot", "(I)V"⟩
abbrev cX5_throwIfFaulty : ByteArray := prog_1_method_32_code
def yX5_throwIfFaulty : MethodName := ⟨RX5, "throwIfFaulty", "(I)V"⟩
abbrev cX5_isSerial : ByteArray := prog_1_method_33_code
def yX5_isSerial : MethodName := ⟨RX5, "isSerial", "(I)Z"⟩
abbrev cX5_positionsOf : ByteArray := prog_1_method_34_code
def yX5_positionsOf : MethodName := ⟨RX5, "positionsOf", "(I)I"⟩
abbrev cX5_faultOfBook : ByteArray := prog_1_method_35_code
def yX5_faultOfBook : MethodName := ⟨RX5, "faultOfBook", "(II)I"⟩
abbrev cX5_faultOfWriting : ByteArray := prog_1_method_36_code
def yX5_faultOfWriting : MethodName := ⟨RX5, "faultOfWriting", "(II)I"⟩
abbrev cX5_faultOfRun : ByteArray := prog_1_method_37_code
def yX5_faultOfRun : MethodName := ⟨RX5, "faultOfRun", "(II)I"⟩
abbrev cX5_runOrders : ByteArray := prog_1_method_38_code
def yX5_runOrders : MethodName := ⟨RX5, "runOrders", "()I"⟩
abbrev cX5_runOrder : ByteArray := prog_1_method_39_code
def yX5_runOrder : MethodName := ⟨RX5, "runOrder", "(II)Z"⟩
abbrev cX5_runBook : ByteArray := prog_1_method_40_code
def yX5_runBook : MethodName := ⟨RX5, "runBook", "(II)Z"⟩
abbrev cX5_runWriting : ByteArray := prog_1_method_41_code
def yX5_runWriting : MethodName := ⟨RX5, "runWriting", "(II)Z"⟩
abbrev cX5_runVoiding : ByteArray := prog_1_method_42_code
def yX5_runVoiding : MethodName := ⟨RX5, "runVoiding", "(II)Z"⟩
abbrev cX5_copyRow : ByteArray := prog_1_method_43_code
def yX5_copyRow : MethodName := ⟨RX5, "copyRow", "([I[I)V"⟩
def RX6 : String := "ChequeSerialsModel"
def TX6 : u_T := fun k => match k with
  | _ => ("", "", "", false)
def tyX6 : Nat → FieldType := fun k => match k with
  | _ => .int
abbrev wsX60 : List Cond := u_ws RX6 TX6 0
theorem nmX6 : ∀ a, a < 0 → ∀ b, b < 0 → a ≠ b → (TX6 a).2.1 ≠ (TX6 b).2.1 := by decide +kernel
theorem tyX6_ok : ∀ k, k < 0 → parseFieldDescriptor (TX6 k).2.2.1 = some (tyX6 k) := by decide +kernel
def RL : String := "ChequeSerialsLaw"
abbrev cL_part : ByteArray := method_2_code
def yL_part : MethodName := ⟨RL, "part", "(II)I"⟩
abbrev cL_drawn : ByteArray := method_3_code
def yL_drawn : MethodName := ⟨RL, "drawn", "([II)I"⟩
abbrev cL_call : ByteArray := method_4_code
def yL_call : MethodName := ⟨RL, "call", "(LChequeSerials;IIII)I"⟩
abbrev cL_seen : ByteArray := method_5_code
def yL_seen : MethodName := ⟨RL, "seen", "(LChequeSerials;)J"⟩
abbrev cL_far : ByteArray := method_6_code
def yL_far : MethodName := ⟨RL, "far", "(III)I"⟩
abbrev cL_refusesOne : ByteArray := method_7_code
def yL_refusesOne : MethodName := ⟨RL, "refusesOne", "(LChequeSerials;I)Z"⟩
abbrev cL_refused : ByteArray := method_8_code
def yL_refused : MethodName := ⟨RL, "refused", "(LChequeSerials;)Z"⟩
abbrev cL_letters : ByteArray := method_9_code
def yL_letters : MethodName := ⟨RL, "letters", "()Z"⟩
abbrev cL_cheques : ByteArray := method_10_code
def yL_cheques : MethodName := ⟨RL, "cheques", "()Z"⟩
abbrev cL_types : ByteArray := method_11_code
def yL_types : MethodName := ⟨RL, "types", "(LChequeSerials;J)Z"⟩
abbrev cL_isError : ByteArray := method_12_code
def yL_isError : MethodName := ⟨RL, "isError", "(LChequeSerials;JJI)Z"⟩
abbrev cL_texts : ByteArray := method_13_code
def yL_texts : MethodName := ⟨RL, "texts", "()Z"⟩
abbrev cL_law : ByteArray := code
def yL_law : MethodName := ⟨RL, "law", "([I)Z"⟩
abbrev vwCl : List vw_C := [(RX0, TX0, 5), (RX1, TX1, 4), (RX2, TX2, 2), (RX3, TX3, 2), (RX4, TX4, 3), (RX5, TX5, 3)]
/-- one list of words for all methods: what the tables say and a call may take along -/
def lw_all : List Cond := lw_tbl.filter goodWord
theorem lw_all_tbl {w : Cond} (h : w ∈ lw_all) : w ∈ lw_tbl := (List.mem_filter.mp h).1
theorem lw_all_good {w : Cond} (h : w ∈ lw_all) : (w.onTables && w.keeps) = true ∨ ∃ ty, w = .arrayClass ty := good_of_word (List.mem_filter.mp h).2
theorem in_all {w : Cond} (k : Nat) (h : lw_tbl[k]? = some w) (g : goodWord w = true) : w ∈ lw_all := List.mem_filter.mpr ⟨List.mem_of_getElem? h, g⟩
theorem gd_all {c : Cond} (h : c ∈ lw_all) : GoodIn lw_all (c :: lw_all) := fun w hw => by
  rcases List.mem_cons.mp hw with rfl | hw
  · exact ⟨h, lw_all_good h⟩
  · exact ⟨hw, lw_all_good hw⟩
theorem gd_V {c : Cond} {own C : String} {ix : Nat} {y : MethodName} (h1 : Cond.methodLink own ix y ∈ lw_all) (h2 : Cond.instanceMethod y ∈ lw_all) (h3 : Cond.selects C y y ∈ lw_all) (h4 : Cond.initialized C ∈ lw_all) (h : c ∈ lw_all) : GoodIn lw_all (wsV own ix C y (c :: lw_all)) := fun w hw => by
  unfold wsV at hw
  rcases List.mem_append.mp hw with hw | hw
  · have : w ∈ lw_all := by
      rcases List.mem_cons.mp hw with rfl | hw
      · exact h1
      rcases List.mem_cons.mp hw with rfl | hw
      · exact h2
      rcases List.mem_cons.mp hw with rfl | hw
      · exact h3
      rcases List.mem_cons.mp hw with rfl | hw
      · exact h4
      cases hw
    exact ⟨this, lw_all_good this⟩
  · exact gd_all h w hw
theorem gd_S {c : Cond} {own : String} {ix : Nat} {y : MethodName} (h1 : Cond.methodLink own ix y ∈ lw_all) (h2 : Cond.static y ∈ lw_all) (h4 : Cond.initialized y.cls ∈ lw_all) (h : c ∈ lw_all) : GoodIn lw_all (va_wsS own ix y (c :: lw_all)) := fun w hw => by
  unfold va_wsS at hw
  rcases List.mem_append.mp hw with hw | hw
  · have : w ∈ lw_all := by
      rcases List.mem_cons.mp hw with rfl | hw
      · exact h1
      rcases List.mem_cons.mp hw with rfl | hw
      · exact h2
      rcases List.mem_cons.mp hw with rfl | hw
      · exact h4
      cases hw
    exact ⟨this, lw_all_good this⟩
  · exact gd_all h w hw
