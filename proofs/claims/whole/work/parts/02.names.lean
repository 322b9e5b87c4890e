def RX0 : String := "ChequeSerials$Books"
def TX0 : u_T := fun k => match k with
  | 0 => ("ChequeSerials$Books", "firsts", "[I", true)
  | 1 => ("ChequeSerials$Books", "sizes", "[I", true)
  | 2 => ("ChequeSerials$Books", "kinds", "[I", true)
  | 3 => ("ChequeSerials$Books", "amounts", "[I", true)
  | _ => ("ChequeSerials$Books", "held", "I", false)
def tyX0 : Nat → FieldType := fun k => match k with
  | 0 => .array .int
  | 1 => .array .int
  | 2 => .array .int
  | 3 => .array .int
  | _ => .int
abbrev wsX00 : List Cond := u_ws RX0 TX0 5
theorem nmX0 : ∀ a, a < 5 → ∀ b, b < 5 → a ≠ b → (TX0 a).2.1 ≠ (TX0 b).2.1 := by decide +kernel
theorem tyX0_ok : ∀ k, k < 5 → parseFieldDescriptor (TX0 k).2.2.1 = some (tyX0 k) := by decide +kernel
abbrev cX0_init : ByteArray := prog_2_method_1_code
def yX0_init : MethodName := ⟨RX0, "<init>", "()V"⟩
abbrev cX0_copyFrom : ByteArray := prog_2_method_2_code
def yX0_copyFrom : MethodName := ⟨RX0, "copyFrom", "(LChequeSerials$Books;)V"⟩
abbrev cX0_firstOf : ByteArray := prog_2_method_3_code
def yX0_firstOf : MethodName := ⟨RX0, "firstOf", "(I)I"⟩
abbrev cX0_sizeOf : ByteArray := prog_2_method_4_code
def yX0_sizeOf : MethodName := ⟨RX0, "sizeOf", "(I)I"⟩
abbrev cX0_canTake : ByteArray := prog_2_method_5_code
def yX0_canTake : MethodName := ⟨RX0, "canTake", "(II)Z"⟩
abbrev cX0_add : ByteArray := prog_2_method_6_code
def yX0_add : MethodName := ⟨RX0, "add", "(II)I"⟩
abbrev cX0_cellOf : ByteArray := prog_2_method_7_code
def yX0_cellOf : MethodName := ⟨RX0, "cellOf", "(I)I"⟩
abbrev cX0_kindAt : ByteArray := prog_2_method_8_code
def yX0_kindAt : MethodName := ⟨RX0, "kindAt", "(I)I"⟩
abbrev cX0_amountAt : ByteArray := prog_2_method_9_code
def yX0_amountAt : MethodName := ⟨RX0, "amountAt", "(I)I"⟩
abbrev cX0_setCell : ByteArray := prog_2_method_10_code
def yX0_setCell : MethodName := ⟨RX0, "setCell", "(III)V"⟩
abbrev cX0_makeWritten : ByteArray := prog_2_method_11_code
def yX0_makeWritten : MethodName := ⟨RX0, "makeWritten", "(II)V"⟩
abbrev cX0_makeCashed : ByteArray := prog_2_method_12_code
def yX0_makeCashed : MethodName := ⟨RX0, "makeCashed", "(I)V"⟩
abbrev cX0_makeRunVoid : ByteArray := prog_2_method_13_code
def yX0_makeRunVoid : MethodName := ⟨RX0, "makeRunVoid", "(II)I"⟩
abbrev cX0_makeVoid : ByteArray := prog_2_method_14_code
def yX0_makeVoid : MethodName := ⟨RX0, "makeVoid", "(I)I"⟩
abbrev cX0_sameKindFrom : ByteArray := prog_2_method_15_code
def yX0_sameKindFrom : MethodName := ⟨RX0, "sameKindFrom", "(I)I"⟩
abbrev cX0_numberOf : ByteArray := prog_2_method_16_code
def yX0_numberOf : MethodName := ⟨RX0, "numberOf", "(II)I"⟩
abbrev cX0_numberOfAll : ByteArray := prog_2_method_17_code
def yX0_numberOfAll : MethodName := ⟨RX0, "numberOfAll", "(I)I"⟩
abbrev cX0_chequesOf : ByteArray := prog_2_method_18_code
def yX0_chequesOf : MethodName := ⟨RX0, "chequesOf", "(II)I"⟩
abbrev cX0_amountsOf : ByteArray := prog_2_method_19_code
def yX0_amountsOf : MethodName := ⟨RX0, "amountsOf", "(II)I"⟩
abbrev cX0_firstBlankOf : ByteArray := prog_2_method_20_code
def yX0_firstBlankOf : MethodName := ⟨RX0, "firstBlankOf", "(I)I"⟩
abbrev cX0_bookOfRank : ByteArray := prog_2_method_21_code
def yX0_bookOfRank : MethodName := ⟨RX0, "bookOfRank", "(I)I"⟩
abbrev cX0_booksBefore : ByteArray := prog_2_method_22_code
def yX0_booksBefore : MethodName := ⟨RX0, "booksBefore", "(I)I"⟩
abbrev cX0_serialOfRank : ByteArray := prog_2_method_23_code
def yX0_serialOfRank : MethodName := ⟨RX0, "serialOfRank", "(I)I"⟩
def RX1 : String := "ChequeSerials$History"
def TX1 : u_T := fun k => match k with
  | 0 => ("ChequeSerials$History", "saved", "[LChequeSerials$State;", true)
  | 1 => ("ChequeSerials$History", "slots", "[LChequeSerials$State;", true)
  | 2 => ("ChequeSerials$History", "filled", "[Z", true)
  | _ => ("ChequeSerials$History", "depth", "I", false)
def tyX1 : Nat → FieldType := fun k => match k with
  | 0 => .array (.object "ChequeSerials$State")
  | 1 => .array (.object "ChequeSerials$State")
  | 2 => .array .boolean
  | _ => .int
abbrev wsX10 : List Cond := u_ws RX1 TX1 4
theorem nmX1 : ∀ a, a < 4 → ∀ b, b < 4 → a ≠ b → (TX1 a).2.1 ≠ (TX1 b).2.1 := by decide +kernel
theorem tyX1_ok : ∀ k, k < 4 → parseFieldDescriptor (TX1 k).2.2.1 = some (tyX1 k) := by decide +kernel
abbrev cX1_init : ByteArray := prog_3_method_1_code
def yX1_init : MethodName := ⟨RX1, "<init>", "()V"⟩
abbrev cX1_save : ByteArray := prog_3_method_2_code
def yX1_save : MethodName := ⟨RX1, "save", "(LChequeSerials$State;)V"⟩
abbrev cX1_dropOldest : ByteArray := prog_3_method_3_code
def yX1_dropOldest : MethodName := ⟨RX1, "dropOldest", "()V"⟩
abbrev cX1_restoreLast : ByteArray := prog_3_method_4_code
def yX1_restoreLast : MethodName := ⟨RX1, "restoreLast", "(LChequeSerials$State;)V"⟩
abbrev cX1_isSlotFilled : ByteArray := prog_3_method_5_code
def yX1_isSlotFilled : MethodName := ⟨RX1, "isSlotFilled", "(I)Z"⟩
abbrev cX1_putIntoSlot : ByteArray := prog_3_method_6_code
def yX1_putIntoSlot : MethodName := ⟨RX1, "putIntoSlot", "(ILChequeSerials$State;)V"⟩
abbrev cX1_restoreSlot : ByteArray := prog_3_method_7_code
def yX1_restoreSlot : MethodName := ⟨RX1, "restoreSlot", "(ILChequeSerials$State;)V"⟩
abbrev cX1_copyState : ByteArray := prog_3_method_8_code
def yX1_copyState : MethodName := ⟨RX1, "copyState", "(LChequeSerials$State;LChequeSerials$State;)V"⟩
def RX2 : String := "ChequeSerials$Letters"
def TX2 : u_T := fun k => match k with
  | 0 => ("ChequeSerials$Letters", "weights", "[I", true)
  | _ => ("ChequeSerials$Letters", "modulus", "I", false)
def tyX2 : Nat → FieldType := fun k => match k with
  | 0 => .array .int
  | _ => .int
abbrev wsX20 : List Cond := u_ws RX2 TX2 2
theorem nmX2 : ∀ a, a < 2 → ∀ b, b < 2 → a ≠ b → (TX2 a).2.1 ≠ (TX2 b).2.1 := by decide +kernel
theorem tyX2_ok : ∀ k, k < 2 → parseFieldDescriptor (TX2 k).2.2.1 = some (tyX2 k) := by decide +kernel
abbrev cX2_init : ByteArray := prog_4_method_1_code
def yX2_init : MethodName := ⟨RX2, "<init>", "()V"⟩
abbrev cX2_copyFrom : ByteArray := prog_4_method_2_code
def yX2_copyFrom : MethodName := ⟨RX2, "copyFrom", "(LChequeSerials$Letters;)V"⟩
abbrev cX2_weightAt : ByteArray := prog_4_method_3_code
def yX2_weightAt : MethodName := ⟨RX2, "weightAt", "(I)I"⟩
abbrev cX2_setWeight : ByteArray := prog_4_method_4_code
def yX2_setWeight : MethodName := ⟨RX2, "setWeight", "(II)V"⟩
abbrev cX2_letterOf : ByteArray := prog_4_method_5_code
def yX2_letterOf : MethodName := ⟨RX2, "letterOf", "(I)I"⟩
abbrev cX2_restOf : ByteArray := prog_4_method_6_code
def yX2_restOf : MethodName := ⟨RX2, "restOf", "(I)I"⟩
abbrev cX2_digitAt : ByteArray := prog_4_method_7_code
def yX2_digitAt : MethodName := ⟨RX2, "digitAt", "(II)I"⟩
abbrev cX2_factorAt : ByteArray := prog_4_method_8_code
def yX2_factorAt : MethodName := ⟨RX2, "factorAt", "(II)I"⟩
abbrev cX2_isHidden : ByteArray := prog_4_method_9_code
def yX2_isHidden : MethodName := ⟨RX2, "isHidden", "(II)Z"⟩
abbrev cX2_hiddenPairsTried : ByteArray := prog_4_method_10_code
def yX2_hiddenPairsTried : MethodName := ⟨RX2, "hiddenPairsTried", "(I)I"⟩
abbrev cX2_hiddenPairs : ByteArray := prog_4_method_11_code
def yX2_hiddenPairs : MethodName := ⟨RX2, "hiddenPairs", "(I)I"⟩
abbrev cX2_hiddenPairsWith : ByteArray := prog_4_method_12_code
def yX2_hiddenPairsWith : MethodName := ⟨RX2, "hiddenPairsWith", "(II)I"⟩
abbrev cX2_hidesNothing : ByteArray := prog_4_method_13_code
def yX2_hidesNothing : MethodName := ⟨RX2, "hidesNothing", "(I)Z"⟩
abbrev cX2_hiddenMisreadings : ByteArray := prog_4_method_14_code
def yX2_hiddenMisreadings : MethodName := ⟨RX2, "hiddenMisreadings", "(I)I"⟩
abbrev cX2_hiddenSwaps : ByteArray := prog_4_method_15_code
def yX2_hiddenSwaps : MethodName := ⟨RX2, "hiddenSwaps", "(I)I"⟩
abbrev cX2_slipKind : ByteArray := prog_4_method_16_code
def yX2_slipKind : MethodName := ⟨RX2, "slipKind", "(III)I"⟩
abbrev cX2_digitSlip : ByteArray := prog_4_method_17_code
def yX2_digitSlip : MethodName := ⟨RX2, "digitSlip", "(II)I"⟩
abbrev cX2_isSwapped : ByteArray := prog_4_method_18_code
def yX2_isSwapped : MethodName := ⟨RX2, "isSwapped", "(III)Z"⟩
def RX3 : String := "ChequeSerials$OrderText"
def TX3 : u_T := fun k => match k with
  | 0 => ("ChequeSerials$OrderText", "signs", "[I", true)
  | _ => ("ChequeSerials$OrderText", "length", "I", false)
def tyX3 : Nat → FieldType := fun k => match k with
  | 0 => .array .int
  | _ => .int
abbrev wsX30 : List Cond := u_ws RX3 TX3 2
theorem nmX3 : ∀ a, a < 2 → ∀ b, b < 2 → a ≠ b → (TX3 a).2.1 ≠ (TX3 b).2.1 := by decide +kernel
theorem tyX3_ok : ∀ k, k < 2 → parseFieldDescriptor (TX3 k).2.2.1 = some (tyX3 k) := by decide +kernel
abbrev cX3_init : ByteArray := prog_5_method_1_code
def yX3_init : MethodName := ⟨RX3, "<init>", "()V"⟩
abbrev cX3_isFull : ByteArray := prog_5_method_2_code
def yX3_isFull : MethodName := ⟨RX3, "isFull", "()Z"⟩
abbrev cX3_add : ByteArray := prog_5_method_3_code
def yX3_add : MethodName := ⟨RX3, "add", "(I)I"⟩
abbrev cX3_clear : ByteArray := prog_5_method_4_code
def yX3_clear : MethodName := ⟨RX3, "clear", "()I"⟩
abbrev cX3_signAt : ByteArray := prog_5_method_5_code
def yX3_signAt : MethodName := ⟨RX3, "signAt", "(I)I"⟩
abbrev cX3_numberIn : ByteArray := prog_5_method_6_code
def yX3_numberIn : MethodName := ⟨RX3, "numberIn", "(II)I"⟩
abbrev cX3_errorIndex : ByteArray := prog_5_method_7_code
def yX3_errorIndex : MethodName := ⟨RX3, "errorIndex", "()I"⟩
abbrev cX3_isComplete : ByteArray := prog_5_method_8_code
def yX3_isComplete : MethodName := ⟨RX3, "isComplete", "()Z"⟩
abbrev cX3_fits : ByteArray := prog_5_method_9_code
def yX3_fits : MethodName := ⟨RX3, "fits", "(II)Z"⟩
abbrev cX3_isWhole : ByteArray := prog_5_method_10_code
def yX3_isWhole : MethodName := ⟨RX3, "isWhole", "(II)Z"⟩
abbrev cX3_isDigit : ByteArray := prog_5_method_11_code
def yX3_isDigit : MethodName := ⟨RX3, "isDigit", "(I)Z"⟩
abbrev cX3_endsHead : ByteArray := prog_5_method_12_code
def yX3_endsHead : MethodName := ⟨RX3, "endsHead", "(II)Z"⟩
abbrev cX3_fitsBehindHead : ByteArray := prog_5_method_13_code
def yX3_fitsBehindHead : MethodName := ⟨RX3, "fitsBehindHead", "(II)Z"⟩
def RX4 : String := "ChequeSerials$State"
def TX4 : u_T := fun k => match k with
  | 0 => ("ChequeSerials$State", "letters", "LChequeSerials$Letters;", true)
  | 1 => ("ChequeSerials$State", "books", "LChequeSerials$Books;", true)
  | _ => ("ChequeSerials$State", "refusals", "I", false)
def tyX4 : Nat → FieldType := fun k => match k with
  | 0 => .object "ChequeSerials$Letters"
  | 1 => .object "ChequeSerials$Books"
  | _ => .int
abbrev wsX40 : List Cond := u_ws RX4 TX4 3
theorem nmX4 : ∀ a, a < 3 → ∀ b, b < 3 → a ≠ b → (TX4 a).2.1 ≠ (TX4 b).2.1 := by decide +kernel
theorem tyX4_ok : ∀ k, k < 3 → parseFieldDescriptor (TX4 k).2.2.1 = some (tyX4 k) := by decide +kernel
abbrev cX4_init : ByteArray := prog_6_method_1_code
def yX4_init : MethodName := ⟨RX4, "<init>", "()V"⟩
abbrev cX4_copyFrom : ByteArray := prog_6_method_2_code
def yX4_copyFrom : MethodName := ⟨RX4, "copyFrom", "(LChequeSerials$State;)V"⟩
abbrev cX4_cashByReading : ByteArray := prog_6_method_3_code
def yX4_cashByReading : MethodName := ⟨RX4, "cashByReading", "(II)I"⟩
abbrev cX4_reasonAgainstCashing : ByteArray := prog_6_method_4_code
def yX4_reasonAgainstCashing : MethodName := ⟨RX4, "reasonAgainstCashing", "(II)I"⟩
abbrev cX4_meantCheques : ByteArray := prog_6_method_5_code
def yX4_meantCheques : MethodName := ⟨RX4, "meantCheques", "(III)I"⟩
def RX5 : String := "ChequeSerials"
def TX5 : u_T := fun k => match k with
  | 0 => ("ChequeSerials", "now", "LChequeSerials$State;", true)
  | 1 => ("ChequeSerials", "history", "LChequeSerials$History;", true)
  | _ => ("ChequeSerials", "orders", "LChequeSerials$OrderText;", true)
def tyX5 : Nat → FieldType := fun k => match k with
  | 0 => .object "ChequeSerials$State"
  | 1 => .object "ChequeSerials$History"
  | _ => .object "ChequeSerials$OrderText"
abbrev wsX50 : List Cond := u_ws RX5 TX5 3
theorem nmX5 : ∀ a, a < 3 → ∀ b, b < 3 → a ≠ b → (TX5 a).2.1 ≠ (TX5 b).2.1 := by decide +kernel
theorem tyX5_ok : ∀ k, k < 3 → parseFieldDescriptor (TX5 k).2.2.1 = some (tyX5 k) := by decide +kernel
abbrev cX5_init : ByteArray := prog_1_method_1_code
def yX5_init : MethodName := ⟨RX5, "<init>", "()V"⟩
abbrev cX5_weight : ByteArray := prog_1_method_2_code
def yX5_weight : MethodName := ⟨RX5, "weight", "(II)I"⟩
abbrev cX5_modulus : ByteArray := prog_1_method_3_code
def yX5_modulus : MethodName := ⟨RX5, "modulus", "(I)I"⟩
abbrev cX5_book : ByteArray := prog_1_method_4_code
def yX5_book : MethodName := ⟨RX5, "book", "(II)I"⟩
abbrev cX5_write : ByteArray := prog_1_method_5_code
def yX5_write : MethodName := ⟨RX5, "write", "(II)I"⟩
abbrev cX5_cash : ByteArray := prog_1_method_6_code
def yX5_cash : MethodName := ⟨RX5, "cash", "(II)I"⟩
abbrev cX5_voidRun : ByteArray := prog_1_method_7_code
def yX5_voidRun : MethodName := ⟨RX5, "voidRun", "(II)I"⟩
abbrev cX5_append : ByteArray := prog_1_method_8_code
def yX5_append : MethodName := ⟨RX5, "append", "(I)I"⟩
abbrev cX5_clearBuffer : ByteArray := prog_1_method_9_code
def yX5_clearBuffer : MethodName := ⟨RX5, "clearBuffer", "()I"⟩
abbrev cX5_firstError : ByteArray := prog_1_method_10_code
def yX5_firstError : MethodName := ⟨RX5, "firstError", "()I"⟩
abbrev cX5_execute : ByteArray := prog_1_method_11_code
def yX5_execute : MethodName := ⟨RX5, "execute", "()I"⟩
abbrev cX5_undo : ByteArray := prog_1_method_12_code
def yX5_undo : MethodName := ⟨RX5, "undo", "()I"⟩
abbrev cX5_keep : ByteArray := prog_1_method_13_code
def yX5_keep : MethodName := ⟨RX5, "keep", "(I)I"⟩
abbrev cX5_goBack : ByteArray := prog_1_method_14_code
def yX5_goBack : MethodName := ⟨RX5, "goBack", "(I)I"⟩
abbrev cX5_letter : ByteArray := prog_1_method_15_code
def yX5_letter : MethodName := ⟨RX5, "letter", "(I)I"⟩
abbrev cX5_cheque : ByteArray := prog_1_method_16_code
def yX5_cheque : MethodName := ⟨RX5, "cheque", "(II)I"⟩
abbrev cX5_bookOf : ByteArray := prog_1_method_17_code
def yX5_bookOf : MethodName := ⟨RX5, "bookOf", "(II)I"⟩
abbrev cX5_count : ByteArray := prog_1_method_18_code
def yX5_count : MethodName := ⟨RX5, "count", "(I)I"⟩
abbrev cX5_ranked : ByteArray := prog_1_method_19_code
def yX5_ranked : MethodName := ⟨RX5, "ranked", "(I)I"⟩
abbrev cX5_missed : ByteArray := prog_1_method_20_code
def yX5_missed : MethodName := ⟨RX5, "missed", "(II)I"⟩
abbrev cX5_weak : ByteArray := prog_1_method_21_code
def yX5_weak : MethodName := ⟨RX5, "weak", "(III)I"⟩
abbrev cX5_finds : ByteArray := prog_1_method_22_code
def yX5_finds : MethodName := ⟨RX5, "finds", "(I)Z"⟩
abbrev cX5_bestWeight : ByteArray := prog_1_method_23_code
def yX5_bestWeight : MethodName := ⟨RX5, "bestWeight", "(I)I"⟩
abbrev cX5_meant : ByteArray := prog_1_method_24_code
def yX5_meant : MethodName := ⟨RX5, "meant", "(III)I"⟩
abbrev cX5_slip : ByteArray := prog_1_method_25_code
def yX5_slip : MethodName := ⟨RX5, "slip", "(III)I"⟩
abbrev cX5_cashed : ByteArray := prog_1_method_26_code
def yX5_cashed : MethodName := ⟨RX5, "cashed", "()D"⟩
abbrev cX5_throwIfNoPosition : ByteArray := prog_1_method_27_code
def yX5_throwIfNoPosition : MethodName := ⟨RX5, "throwIfNoPosition", "(I)V"⟩
abbrev cX5_throwIfNoSerial : ByteArray := prog_1_method_28_code
def yX5_throwIfNoSerial : MethodName := ⟨RX5, "throwIfNoSerial", "(I)V"⟩
abbrev cX5_throwIfNoLetter : ByteArray := prog_1_method_29_code
def yX5_throwIfNoLetter : MethodName := ⟨RX5, "throwIfNoLetter", "(I)V"⟩
abbrev cX5_throwIfNoSlipKind : ByteArray := prog_1_method_30_code
def yX5_throwIfNoSlipKind : MethodName := ⟨RX5, "throwIfNoSlipKind", "(I)V"⟩
abbrev cX5_throwIfNoSlot : ByteArray := prog_1_method_31_code
def yX5_throwIfNoSlot : MethodName := ⟨RX5, "throwIfNoSlot", "(I)V"⟩
abbrev cX5_throwIfFaulty : ByteArray := prog_1_method_32_code
def yX5_throwIfFaulty : MethodName := ⟨RX5, "throwIfFaulty", "(I)V"⟩
abbrev cX5_isSerial : ByteArray := prog_1_method_33_code
def yX5_isSerial : MethodName := ⟨RX5, "isSerial", "(I)Z"⟩
abbrev cX5_positionsOf : ByteArray := prog_1_method_34_code
def yX5_positionsOf : MethodName := ⟨RX5, "positionsOf", "(I)I"⟩
abbrev cX5_faultOfBook : ByteArray := prog_1_method_35_code
def yX5_faultOfBook : MethodName := ⟨RX5, "faultOfBook", "(II)I"⟩
abbrev cX5_faultOfWriting : ByteArray := prog_1_method_36_code
def yX5_faultOfWriting : MethodName := ⟨RX5, "faultOfWriting", "(II)I"⟩
abbrev cX5_faultOfRun : ByteArray := prog_1_method_37_code
def yX5_faultOfRun : MethodName := ⟨RX5, "faultOfRun", "(II)I"⟩
abbrev cX5_runOrders : ByteArray := prog_1_method_38_code
def yX5_runOrders : MethodName := ⟨RX5, "runOrders", "()I"⟩
abbrev cX5_runOrder : ByteArray := prog_1_method_39_code
def yX5_runOrder : MethodName := ⟨RX5, "runOrder", "(II)Z"⟩
abbrev cX5_runBook : ByteArray := prog_1_method_40_code
def yX5_runBook : MethodName := ⟨RX5, "runBook", "(II)Z"⟩
abbrev cX5_runWriting : ByteArray := prog_1_method_41_code
def yX5_runWriting : MethodName := ⟨RX5, "runWriting", "(II)Z"⟩
abbrev cX5_runVoiding : ByteArray := prog_1_method_42_code
def yX5_runVoiding : MethodName := ⟨RX5, "runVoiding", "(II)Z"⟩
abbrev cX5_copyRow : ByteArray := prog_1_method_43_code
def yX5_copyRow : MethodName := ⟨RX5, "copyRow", "([I[I)V"⟩
def RX6 : String := "ChequeSerialsModel"
def TX6 : u_T := fun k => match k with
  | 0 => ("ChequeSerialsModel", "now", "[I", true)
  | 1 => ("ChequeSerialsModel", "past", "[I", true)
  | 2 => ("ChequeSerialsModel", "states", "I", false)
  | 3 => ("ChequeSerialsModel", "kept", "[I", true)
  | 4 => ("ChequeSerialsModel", "isKept", "[I", true)
  | 5 => ("ChequeSerialsModel", "text", "[I", true)
  | 6 => ("ChequeSerialsModel", "length", "I", false)
  | 7 => ("ChequeSerialsModel", "thrown", "I", false)
  | 8 => ("ChequeSerialsModel", "spot", "I", false)
  | 9 => ("ChequeSerialsModel", "told", "[I", true)
  | _ => ("ChequeSerialsModel", "toldMany", "I", false)
def tyX6 : Nat → FieldType := fun k => match k with
  | 0 => .array .int
  | 1 => .array .int
  | 2 => .int
  | 3 => .array .int
  | 4 => .array .int
  | 5 => .array .int
  | 6 => .int
  | 7 => .int
  | 8 => .int
  | 9 => .array .int
  | _ => .int
abbrev wsX60 : List Cond := u_ws RX6 TX6 11
theorem nmX6 : ∀ a, a < 11 → ∀ b, b < 11 → a ≠ b → (TX6 a).2.1 ≠ (TX6 b).2.1 := by decide +kernel
theorem tyX6_ok : ∀ k, k < 11 → parseFieldDescriptor (TX6 k).2.2.1 = some (tyX6 k) := by decide +kernel
abbrev cX6_init : ByteArray := prog_8_method_1_code
def yX6_init : MethodName := ⟨RX6, "<init>", "()V"⟩
abbrev cX6_thrown : ByteArray := prog_8_method_2_code
def yX6_thrown : MethodName := ⟨RX6, "thrown", "()I"⟩
abbrev cX6_refuses : ByteArray := prog_8_method_3_code
def yX6_refuses : MethodName := ⟨RX6, "refuses", "(I)I"⟩
abbrev cX6_in : ByteArray := prog_8_method_4_code
def yX6_in : MethodName := ⟨RX6, "in", "(III)Z"⟩
abbrev cX6_isSerial : ByteArray := prog_8_method_5_code
def yX6_isSerial : MethodName := ⟨RX6, "isSerial", "(I)Z"⟩
abbrev cX6_isLetter : ByteArray := prog_8_method_6_code
def yX6_isLetter : MethodName := ⟨RX6, "isLetter", "(I)Z"⟩
abbrev cX6_lays : ByteArray := prog_8_method_7_code
def yX6_lays : MethodName := ⟨RX6, "lays", "([II[II)V"⟩
abbrev cX6_saves : ByteArray := prog_8_method_8_code
def yX6_saves : MethodName := ⟨RX6, "saves", "()V"⟩
abbrev cX6_digit : ByteArray := prog_8_method_9_code
def yX6_digit : MethodName := ⟨RX6, "digit", "(II)I"⟩
abbrev cX6_letterOf : ByteArray := prog_8_method_10_code
def yX6_letterOf : MethodName := ⟨RX6, "letterOf", "(I)I"⟩
abbrev cX6_firstOf : ByteArray := prog_8_method_11_code
def yX6_firstOf : MethodName := ⟨RX6, "firstOf", "(I)I"⟩
abbrev cX6_countOf : ByteArray := prog_8_method_12_code
def yX6_countOf : MethodName := ⟨RX6, "countOf", "(I)I"⟩
abbrev cX6_spotOf : ByteArray := prog_8_method_13_code
def yX6_spotOf : MethodName := ⟨RX6, "spotOf", "(I)I"⟩
abbrev cX6_serialAt : ByteArray := prog_8_method_14_code
def yX6_serialAt : MethodName := ⟨RX6, "serialAt", "(I)I"⟩
abbrev cX6_isCheque : ByteArray := prog_8_method_15_code
def yX6_isCheque : MethodName := ⟨RX6, "isCheque", "(I)Z"⟩
abbrev cX6_isTaken : ByteArray := prog_8_method_16_code
def yX6_isTaken : MethodName := ⟨RX6, "isTaken", "(II)Z"⟩
abbrev cX6_canBook : ByteArray := prog_8_method_17_code
def yX6_canBook : MethodName := ⟨RX6, "canBook", "(II)Z"⟩
abbrev cX6_books : ByteArray := prog_8_method_18_code
def yX6_books : MethodName := ⟨RX6, "books", "(II)I"⟩
abbrev cX6_writes : ByteArray := prog_8_method_19_code
def yX6_writes : MethodName := ⟨RX6, "writes", "(II)V"⟩
abbrev cX6_cashes : ByteArray := prog_8_method_20_code
def yX6_cashes : MethodName := ⟨RX6, "cashes", "(II)I"⟩
abbrev cX6_voids : ByteArray := prog_8_method_21_code
def yX6_voids : MethodName := ⟨RX6, "voids", "(II)I"⟩
abbrev cX6_weight : ByteArray := prog_8_method_22_code
def yX6_weight : MethodName := ⟨RX6, "weight", "(II)I"⟩
abbrev cX6_modulus : ByteArray := prog_8_method_23_code
def yX6_modulus : MethodName := ⟨RX6, "modulus", "(I)I"⟩
abbrev cX6_book : ByteArray := prog_8_method_24_code
def yX6_book : MethodName := ⟨RX6, "book", "(II)I"⟩
abbrev cX6_write : ByteArray := prog_8_method_25_code
def yX6_write : MethodName := ⟨RX6, "write", "(II)I"⟩
abbrev cX6_cash : ByteArray := prog_8_method_26_code
def yX6_cash : MethodName := ⟨RX6, "cash", "(II)I"⟩
abbrev cX6_voidRun : ByteArray := prog_8_method_27_code
def yX6_voidRun : MethodName := ⟨RX6, "voidRun", "(II)I"⟩
abbrev cX6_append : ByteArray := prog_8_method_28_code
def yX6_append : MethodName := ⟨RX6, "append", "(I)I"⟩
abbrev cX6_clearBuffer : ByteArray := prog_8_method_29_code
def yX6_clearBuffer : MethodName := ⟨RX6, "clearBuffer", "()I"⟩
abbrev cX6_sees : ByteArray := prog_8_method_30_code
def yX6_sees : MethodName := ⟨RX6, "sees", "(II)Z"⟩
abbrev cX6_takes : ByteArray := prog_8_method_31_code
def yX6_takes : MethodName := ⟨RX6, "takes", "(I)Z"⟩
abbrev cX6_isSix : ByteArray := prog_8_method_32_code
def yX6_isSix : MethodName := ⟨RX6, "isSix", "(I)Z"⟩
abbrev cX6_isNumber : ByteArray := prog_8_method_33_code
def yX6_isNumber : MethodName := ⟨RX6, "isNumber", "(I)Z"⟩
abbrev cX6_isSign : ByteArray := prog_8_method_34_code
def yX6_isSign : MethodName := ⟨RX6, "isSign", "()Z"⟩
abbrev cX6_isOrder : ByteArray := prog_8_method_35_code
def yX6_isOrder : MethodName := ⟨RX6, "isOrder", "()Z"⟩
abbrev cX6_isWhole : ByteArray := prog_8_method_36_code
def yX6_isWhole : MethodName := ⟨RX6, "isWhole", "()Z"⟩
abbrev cX6_firstError : ByteArray := prog_8_method_37_code
def yX6_firstError : MethodName := ⟨RX6, "firstError", "()I"⟩
abbrev cX6_isDone : ByteArray := prog_8_method_38_code
def yX6_isDone : MethodName := ⟨RX6, "isDone", "(I)Z"⟩
abbrev cX6_execute : ByteArray := prog_8_method_39_code
def yX6_execute : MethodName := ⟨RX6, "execute", "()I"⟩
abbrev cX6_undo : ByteArray := prog_8_method_40_code
def yX6_undo : MethodName := ⟨RX6, "undo", "()I"⟩
abbrev cX6_keep : ByteArray := prog_8_method_41_code
def yX6_keep : MethodName := ⟨RX6, "keep", "(I)I"⟩
abbrev cX6_goBack : ByteArray := prog_8_method_42_code
def yX6_goBack : MethodName := ⟨RX6, "goBack", "(I)I"⟩
abbrev cX6_letter : ByteArray := prog_8_method_43_code
def yX6_letter : MethodName := ⟨RX6, "letter", "(I)I"⟩
abbrev cX6_runFrom : ByteArray := prog_8_method_44_code
def yX6_runFrom : MethodName := ⟨RX6, "runFrom", "(I)I"⟩
abbrev cX6_aboutCheque : ByteArray := prog_8_method_45_code
def yX6_aboutCheque : MethodName := ⟨RX6, "aboutCheque", "(II)I"⟩
abbrev cX6_cheque : ByteArray := prog_8_method_46_code
def yX6_cheque : MethodName := ⟨RX6, "cheque", "(II)I"⟩
abbrev cX6_ofKind : ByteArray := prog_8_method_47_code
def yX6_ofKind : MethodName := ⟨RX6, "ofKind", "(III)I"⟩
abbrev cX6_amounts : ByteArray := prog_8_method_48_code
def yX6_amounts : MethodName := ⟨RX6, "amounts", "(III)I"⟩
abbrev cX6_firstBlank : ByteArray := prog_8_method_49_code
def yX6_firstBlank : MethodName := ⟨RX6, "firstBlank", "(I)I"⟩
abbrev cX6_aboutBook : ByteArray := prog_8_method_50_code
def yX6_aboutBook : MethodName := ⟨RX6, "aboutBook", "(II)I"⟩
abbrev cX6_bookOf : ByteArray := prog_8_method_51_code
def yX6_bookOf : MethodName := ⟨RX6, "bookOf", "(II)I"⟩
abbrev cX6_cheques : ByteArray := prog_8_method_52_code
def yX6_cheques : MethodName := ⟨RX6, "cheques", "()I"⟩
abbrev cX6_counted : ByteArray := prog_8_method_53_code
def yX6_counted : MethodName := ⟨RX6, "counted", "(I)I"⟩
abbrev cX6_count : ByteArray := prog_8_method_54_code
def yX6_count : MethodName := ⟨RX6, "count", "(I)I"⟩
abbrev cX6_next : ByteArray := prog_8_method_55_code
def yX6_next : MethodName := ⟨RX6, "next", "(I)I"⟩
abbrev cX6_ranked : ByteArray := prog_8_method_56_code
def yX6_ranked : MethodName := ⟨RX6, "ranked", "(I)I"⟩
abbrev cX6_isLeft : ByteArray := prog_8_method_57_code
def yX6_isLeft : MethodName := ⟨RX6, "isLeft", "(II)Z"⟩
abbrev cX6_missedDigits : ByteArray := prog_8_method_58_code
def yX6_missedDigits : MethodName := ⟨RX6, "missedDigits", "(I)I"⟩
abbrev cX6_missedSwaps : ByteArray := prog_8_method_59_code
def yX6_missedSwaps : MethodName := ⟨RX6, "missedSwaps", "(I)I"⟩
abbrev cX6_missed : ByteArray := prog_8_method_60_code
def yX6_missed : MethodName := ⟨RX6, "missed", "(II)I"⟩
abbrev cX6_pairs : ByteArray := prog_8_method_61_code
def yX6_pairs : MethodName := ⟨RX6, "pairs", "(I)I"⟩
abbrev cX6_weakAt : ByteArray := prog_8_method_62_code
def yX6_weakAt : MethodName := ⟨RX6, "weakAt", "(II)I"⟩
abbrev cX6_weak : ByteArray := prog_8_method_63_code
def yX6_weak : MethodName := ⟨RX6, "weak", "(III)I"⟩
abbrev cX6_weakOf : ByteArray := prog_8_method_64_code
def yX6_weakOf : MethodName := ⟨RX6, "weakOf", "(I)I"⟩
abbrev cX6_finds : ByteArray := prog_8_method_65_code
def yX6_finds : MethodName := ⟨RX6, "finds", "(I)Z"⟩
abbrev cX6_bestWeight : ByteArray := prog_8_method_66_code
def yX6_bestWeight : MethodName := ⟨RX6, "bestWeight", "(I)I"⟩
abbrev cX6_way : ByteArray := prog_8_method_67_code
def yX6_way : MethodName := ⟨RX6, "way", "(II)I"⟩
abbrev cX6_slipOf : ByteArray := prog_8_method_68_code
def yX6_slipOf : MethodName := ⟨RX6, "slipOf", "(III)I"⟩
abbrev cX6_meantBy : ByteArray := prog_8_method_69_code
def yX6_meantBy : MethodName := ⟨RX6, "meantBy", "(III)I"⟩
abbrev cX6_meant : ByteArray := prog_8_method_70_code
def yX6_meant : MethodName := ⟨RX6, "meant", "(III)I"⟩
abbrev cX6_slip : ByteArray := prog_8_method_71_code
def yX6_slip : MethodName := ⟨RX6, "slip", "(III)I"⟩
abbrev cX6_cashed : ByteArray := prog_8_method_72_code
def yX6_cashed : MethodName := ⟨RX6, "cashed", "()D"⟩
def RL : String := "ChequeSerialsLaw"
abbrev cL_weight : ByteArray := method_3_code
def yL_weight : MethodName := ⟨RL, "weight", "(LChequeSerials;II[J)I"⟩
abbrev cL_modulus : ByteArray := method_4_code
def yL_modulus : MethodName := ⟨RL, "modulus", "(LChequeSerials;I[J)I"⟩
abbrev cL_book : ByteArray := method_5_code
def yL_book : MethodName := ⟨RL, "book", "(LChequeSerials;II[J)I"⟩
abbrev cL_write : ByteArray := method_6_code
def yL_write : MethodName := ⟨RL, "write", "(LChequeSerials;II[J)I"⟩
abbrev cL_cash : ByteArray := method_7_code
def yL_cash : MethodName := ⟨RL, "cash", "(LChequeSerials;II[J)I"⟩
abbrev cL_voidRun : ByteArray := method_8_code
def yL_voidRun : MethodName := ⟨RL, "voidRun", "(LChequeSerials;II[J)I"⟩
abbrev cL_append : ByteArray := method_9_code
def yL_append : MethodName := ⟨RL, "append", "(LChequeSerials;I[J)I"⟩
abbrev cL_execute : ByteArray := method_10_code
def yL_execute : MethodName := ⟨RL, "execute", "(LChequeSerials;[J)I"⟩
abbrev cL_undo : ByteArray := method_11_code
def yL_undo : MethodName := ⟨RL, "undo", "(LChequeSerials;[J)I"⟩
abbrev cL_keep : ByteArray := method_12_code
def yL_keep : MethodName := ⟨RL, "keep", "(LChequeSerials;I[J)I"⟩
abbrev cL_goBack : ByteArray := method_13_code
def yL_goBack : MethodName := ⟨RL, "goBack", "(LChequeSerials;I[J)I"⟩
abbrev cL_letter : ByteArray := method_14_code
def yL_letter : MethodName := ⟨RL, "letter", "(LChequeSerials;I[J)I"⟩
abbrev cL_cheque : ByteArray := method_15_code
def yL_cheque : MethodName := ⟨RL, "cheque", "(LChequeSerials;II[J)I"⟩
abbrev cL_bookOf : ByteArray := method_16_code
def yL_bookOf : MethodName := ⟨RL, "bookOf", "(LChequeSerials;II[J)I"⟩
abbrev cL_count : ByteArray := method_17_code
def yL_count : MethodName := ⟨RL, "count", "(LChequeSerials;I[J)I"⟩
abbrev cL_ranked : ByteArray := method_18_code
def yL_ranked : MethodName := ⟨RL, "ranked", "(LChequeSerials;I[J)I"⟩
abbrev cL_missed : ByteArray := method_19_code
def yL_missed : MethodName := ⟨RL, "missed", "(LChequeSerials;II[J)I"⟩
abbrev cL_weak : ByteArray := method_20_code
def yL_weak : MethodName := ⟨RL, "weak", "(LChequeSerials;III[J)I"⟩
abbrev cL_finds : ByteArray := method_21_code
def yL_finds : MethodName := ⟨RL, "finds", "(LChequeSerials;I[J)I"⟩
abbrev cL_bestWeight : ByteArray := method_22_code
def yL_bestWeight : MethodName := ⟨RL, "bestWeight", "(LChequeSerials;I[J)I"⟩
abbrev cL_meant : ByteArray := method_23_code
def yL_meant : MethodName := ⟨RL, "meant", "(LChequeSerials;III[J)I"⟩
abbrev cL_slip : ByteArray := method_24_code
def yL_slip : MethodName := ⟨RL, "slip", "(LChequeSerials;III[J)I"⟩
abbrev cL_law : ByteArray := code
def yL_law : MethodName := ⟨RL, "law", "([I)Z"⟩
abbrev vwCl : List vw_C := [(RX0, TX0, 5), (RX1, TX1, 4), (RX2, TX2, 2), (RX3, TX3, 2), (RX4, TX4, 3), (RX5, TX5, 3), (RX6, TX6, 11)]
/-- one list of words for all methods: what the tables say and a call may take along -/
def lw_all : List Cond := lw_tbl.filter goodWord
theorem lw_all_tbl {w : Cond} (h : w ∈ lw_all) : w ∈ lw_tbl := (List.mem_filter.mp h).1
theorem lw_all_good {w : Cond} (h : w ∈ lw_all) : (w.onTables && w.keeps) = true ∨ ∃ ty, w = .arrayClass ty := good_of_word (List.mem_filter.mp h).2
theorem in_all {w : Cond} (k : Nat) (h : lw_tbl[k]? = some w) (g : goodWord w = true) : w ∈ lw_all := List.mem_filter.mpr ⟨List.mem_of_getElem? h, g⟩
theorem gd_all {c : Cond} (h : c ∈ lw_all) : GoodIn lw_all (c :: lw_all) := fun w hw => by
  rcases List.mem_cons.mp hw with rfl | hw
  · exact ⟨h, lw_all_good h⟩
  · exact ⟨hw, lw_all_good hw⟩
theorem gd_V {c : Cond} {own C : String} {ix : Nat} {y : MethodName} (h1 : Cond.methodLink own ix y ∈ lw_all) (h2 : Cond.instanceMethod y ∈ lw_all) (h3 : Cond.selects C y y ∈ lw_all) (h4 : Cond.initialized C ∈ lw_all) (h : c ∈ lw_all) : GoodIn lw_all (wsV own ix C y (c :: lw_all)) := fun w hw => by
  unfold wsV at hw
  rcases List.mem_append.mp hw with hw | hw
  · have : w ∈ lw_all := by
      rcases List.mem_cons.mp hw with rfl | hw
      · exact h1
      rcases List.mem_cons.mp hw with rfl | hw
      · exact h2
      rcases List.mem_cons.mp hw with rfl | hw
      · exact h3
      rcases List.mem_cons.mp hw with rfl | hw
      · exact h4
      cases hw
    exact ⟨this, lw_all_good this⟩
  · exact gd_all h w hw
theorem gd_S {c : Cond} {own : String} {ix : Nat} {y : MethodName} (h1 : Cond.methodLink own ix y ∈ lw_all) (h2 : Cond.static y ∈ lw_all) (h4 : Cond.initialized y.cls ∈ lw_all) (h : c ∈ lw_all) : GoodIn lw_all (va_wsS own ix y (c :: lw_all)) := fun w hw => by
  unfold va_wsS at hw
  rcases List.mem_append.mp hw with hw | hw
  · have : w ∈ lw_all := by
      rcases List.mem_cons.mp hw with rfl | hw
      · exact h1
      rcases List.mem_cons.mp hw with rfl | hw
      · exact h2
      rcases List.mem_cons.mp hw with rfl | hw
      · exact h4
      cases hw
    exact ⟨this, lw_all_good this⟩
  · exact gd_all h w hw
set_option maxRecDepth 20000 in
theorem wd_0 : (.selects RX3 yX3_fits yX3_fits : Cond) ∈ lw_all := in_all 0 (by decide +kernel) (by decide +kernel)
set_option maxRecDepth 20000 in
theorem wd_1 : (.selects RX3 yX3_isWhole yX3_isWhole : Cond) ∈ lw_all := in_all 1 (by decide +kernel) (by decide +kernel)
set_option maxRecDepth 20000 in
theorem wd_2 : (.selects RX3 yX3_fitsBehindHead yX3_fitsBehindHead : Cond) ∈ lw_all := in_all 2 (by decide +kernel) (by decide +kernel)
set_option maxRecDepth 20000 in
theorem wd_3 : (.selects RX0 yX0_amountsOf yX0_amountsOf : Cond) ∈ lw_all := in_all 3 (by decide +kernel) (by decide +kernel)
set_option maxRecDepth 20000 in
theorem wd_4 : (.selects RX0 yX0_firstBlankOf yX0_firstBlankOf : Cond) ∈ lw_all := in_all 4 (by decide +kernel) (by decide +kernel)
set_option maxRecDepth 20000 in
theorem wd_5 : (.selects RX0 yX0_chequesOf yX0_chequesOf : Cond) ∈ lw_all := in_all 5 (by decide +kernel) (by decide +kernel)
set_option maxRecDepth 20000 in
theorem wd_6 : (.selects "java/lang/Throwable" ⟨"java/lang/Throwable", "fillInStackTrace", "(I)Ljava/lang/Throwable;"⟩ ⟨"java/lang/Throwable", "fillInStackTrace", "(I)Ljava/lang/Throwable;"⟩ : Cond) ∈ lw_all := in_all 6 (by decide +kernel) (by decide +kernel)
set_option maxRecDepth 20000 in
theorem wd_7 : (.selects RX1 yX1_dropOldest yX1_dropOldest : Cond) ∈ lw_all := in_all 7 (by decide +kernel) (by decide +kernel)
set_option maxRecDepth 20000 in
theorem wd_8 : (.selects RX5 yX5_faultOfBook yX5_faultOfBook : Cond) ∈ lw_all := in_all 8 (by decide +kernel) (by decide +kernel)
set_option maxRecDepth 20000 in
theorem wd_9 : (.selects RX0 yX0_setCell yX0_setCell : Cond) ∈ lw_all := in_all 9 (by decide +kernel) (by decide +kernel)
set_option maxRecDepth 20000 in
theorem wd_10 : (.selects RX5 yX5_faultOfWriting yX5_faultOfWriting : Cond) ∈ lw_all := in_all 10 (by decide +kernel) (by decide +kernel)
set_option maxRecDepth 20000 in
theorem wd_11 : (.selects RX2 yX2_restOf yX2_restOf : Cond) ∈ lw_all := in_all 11 (by decide +kernel) (by decide +kernel)
set_option maxRecDepth 20000 in
theorem wd_12 : (.selects RX4 yX4_reasonAgainstCashing yX4_reasonAgainstCashing : Cond) ∈ lw_all := in_all 12 (by decide +kernel) (by decide +kernel)
set_option maxRecDepth 20000 in
theorem wd_13 : (.selects RX0 yX0_makeVoid yX0_makeVoid : Cond) ∈ lw_all := in_all 13 (by decide +kernel) (by decide +kernel)
set_option maxRecDepth 20000 in
theorem wd_14 : (.selects RX5 yX5_runOrders yX5_runOrders : Cond) ∈ lw_all := in_all 14 (by decide +kernel) (by decide +kernel)
set_option maxRecDepth 20000 in
theorem wd_15 : (.selects RX5 yX5_runOrder yX5_runOrder : Cond) ∈ lw_all := in_all 15 (by decide +kernel) (by decide +kernel)
set_option maxRecDepth 20000 in
theorem wd_16 : (.selects RX5 yX5_runBook yX5_runBook : Cond) ∈ lw_all := in_all 16 (by decide +kernel) (by decide +kernel)
set_option maxRecDepth 20000 in
theorem wd_17 : (.selects RX5 yX5_runWriting yX5_runWriting : Cond) ∈ lw_all := in_all 17 (by decide +kernel) (by decide +kernel)
set_option maxRecDepth 20000 in
theorem wd_18 : (.selects RX5 yX5_runVoiding yX5_runVoiding : Cond) ∈ lw_all := in_all 18 (by decide +kernel) (by decide +kernel)
set_option maxRecDepth 20000 in
theorem wd_19 : (.selects RX0 yX0_booksBefore yX0_booksBefore : Cond) ∈ lw_all := in_all 19 (by decide +kernel) (by decide +kernel)
set_option maxRecDepth 20000 in
theorem wd_20 : (.selects RX2 yX2_isHidden yX2_isHidden : Cond) ∈ lw_all := in_all 20 (by decide +kernel) (by decide +kernel)
set_option maxRecDepth 20000 in
theorem wd_21 : (.selects RX6 yX6_refuses yX6_refuses : Cond) ∈ lw_all := in_all 21 (by decide +kernel) (by decide +kernel)
set_option maxRecDepth 20000 in
theorem wd_22 : (.selects RX6 yX6_saves yX6_saves : Cond) ∈ lw_all := in_all 22 (by decide +kernel) (by decide +kernel)
set_option maxRecDepth 20000 in
theorem wd_23 : (.selects RX6 yX6_canBook yX6_canBook : Cond) ∈ lw_all := in_all 23 (by decide +kernel) (by decide +kernel)
set_option maxRecDepth 20000 in
theorem wd_24 : (.selects RX6 yX6_isTaken yX6_isTaken : Cond) ∈ lw_all := in_all 24 (by decide +kernel) (by decide +kernel)
set_option maxRecDepth 20000 in
theorem wd_25 : (.selects RX6 yX6_firstOf yX6_firstOf : Cond) ∈ lw_all := in_all 25 (by decide +kernel) (by decide +kernel)
set_option maxRecDepth 20000 in
theorem wd_26 : (.selects RX6 yX6_countOf yX6_countOf : Cond) ∈ lw_all := in_all 26 (by decide +kernel) (by decide +kernel)
set_option maxRecDepth 20000 in
theorem wd_27 : (.selects RX6 yX6_books yX6_books : Cond) ∈ lw_all := in_all 27 (by decide +kernel) (by decide +kernel)
set_option maxRecDepth 20000 in
theorem wd_28 : (.selects RX6 yX6_spotOf yX6_spotOf : Cond) ∈ lw_all := in_all 28 (by decide +kernel) (by decide +kernel)
set_option maxRecDepth 20000 in
theorem wd_29 : (.selects RX6 yX6_writes yX6_writes : Cond) ∈ lw_all := in_all 29 (by decide +kernel) (by decide +kernel)
set_option maxRecDepth 20000 in
theorem wd_30 : (.selects RX6 yX6_letterOf yX6_letterOf : Cond) ∈ lw_all := in_all 30 (by decide +kernel) (by decide +kernel)
set_option maxRecDepth 20000 in
theorem wd_31 : (.selects RX6 yX6_cashes yX6_cashes : Cond) ∈ lw_all := in_all 31 (by decide +kernel) (by decide +kernel)
set_option maxRecDepth 20000 in
theorem wd_32 : (.selects RX6 yX6_voids yX6_voids : Cond) ∈ lw_all := in_all 32 (by decide +kernel) (by decide +kernel)
set_option maxRecDepth 20000 in
theorem wd_33 : (.selects RX6 yX6_isCheque yX6_isCheque : Cond) ∈ lw_all := in_all 33 (by decide +kernel) (by decide +kernel)
set_option maxRecDepth 20000 in
theorem wd_34 : (.selects RX6 yX6_serialAt yX6_serialAt : Cond) ∈ lw_all := in_all 34 (by decide +kernel) (by decide +kernel)
set_option maxRecDepth 20000 in
theorem wd_35 : (.selects RX6 yX6_isWhole yX6_isWhole : Cond) ∈ lw_all := in_all 35 (by decide +kernel) (by decide +kernel)
set_option maxRecDepth 20000 in
theorem wd_36 : (.selects RX6 yX6_isOrder yX6_isOrder : Cond) ∈ lw_all := in_all 36 (by decide +kernel) (by decide +kernel)
set_option maxRecDepth 20000 in
theorem wd_37 : (.selects RX6 yX6_sees yX6_sees : Cond) ∈ lw_all := in_all 37 (by decide +kernel) (by decide +kernel)
set_option maxRecDepth 20000 in
theorem wd_38 : (.selects RX6 yX6_isSix yX6_isSix : Cond) ∈ lw_all := in_all 38 (by decide +kernel) (by decide +kernel)
set_option maxRecDepth 20000 in
theorem wd_39 : (.selects RX6 yX6_takes yX6_takes : Cond) ∈ lw_all := in_all 39 (by decide +kernel) (by decide +kernel)
set_option maxRecDepth 20000 in
theorem wd_40 : (.selects RX6 yX6_isNumber yX6_isNumber : Cond) ∈ lw_all := in_all 40 (by decide +kernel) (by decide +kernel)
set_option maxRecDepth 20000 in
theorem wd_41 : (.selects RX6 yX6_isSign yX6_isSign : Cond) ∈ lw_all := in_all 41 (by decide +kernel) (by decide +kernel)
set_option maxRecDepth 20000 in
theorem wd_42 : (.selects RX6 yX6_isDone yX6_isDone : Cond) ∈ lw_all := in_all 42 (by decide +kernel) (by decide +kernel)
set_option maxRecDepth 20000 in
theorem wd_43 : (.selects RX6 yX6_aboutCheque yX6_aboutCheque : Cond) ∈ lw_all := in_all 43 (by decide +kernel) (by decide +kernel)
set_option maxRecDepth 20000 in
theorem wd_44 : (.selects RX6 yX6_runFrom yX6_runFrom : Cond) ∈ lw_all := in_all 44 (by decide +kernel) (by decide +kernel)
set_option maxRecDepth 20000 in
theorem wd_45 : (.selects RX6 yX6_aboutBook yX6_aboutBook : Cond) ∈ lw_all := in_all 45 (by decide +kernel) (by decide +kernel)
set_option maxRecDepth 20000 in
theorem wd_46 : (.selects RX6 yX6_amounts yX6_amounts : Cond) ∈ lw_all := in_all 46 (by decide +kernel) (by decide +kernel)
set_option maxRecDepth 20000 in
theorem wd_47 : (.selects RX6 yX6_firstBlank yX6_firstBlank : Cond) ∈ lw_all := in_all 47 (by decide +kernel) (by decide +kernel)
set_option maxRecDepth 20000 in
theorem wd_48 : (.selects RX6 yX6_ofKind yX6_ofKind : Cond) ∈ lw_all := in_all 48 (by decide +kernel) (by decide +kernel)
set_option maxRecDepth 20000 in
theorem wd_49 : (.selects RX6 yX6_counted yX6_counted : Cond) ∈ lw_all := in_all 49 (by decide +kernel) (by decide +kernel)
set_option maxRecDepth 20000 in
theorem wd_50 : (.selects RX6 yX6_cheques yX6_cheques : Cond) ∈ lw_all := in_all 50 (by decide +kernel) (by decide +kernel)
set_option maxRecDepth 20000 in
theorem wd_51 : (.selects RX6 yX6_next yX6_next : Cond) ∈ lw_all := in_all 51 (by decide +kernel) (by decide +kernel)
set_option maxRecDepth 20000 in
theorem wd_52 : (.selects RX6 yX6_missedDigits yX6_missedDigits : Cond) ∈ lw_all := in_all 52 (by decide +kernel) (by decide +kernel)
set_option maxRecDepth 20000 in
theorem wd_53 : (.selects RX6 yX6_isLeft yX6_isLeft : Cond) ∈ lw_all := in_all 53 (by decide +kernel) (by decide +kernel)
set_option maxRecDepth 20000 in
theorem wd_54 : (.selects RX6 yX6_missedSwaps yX6_missedSwaps : Cond) ∈ lw_all := in_all 54 (by decide +kernel) (by decide +kernel)
set_option maxRecDepth 20000 in
theorem wd_55 : (.selects RX6 yX6_weakAt yX6_weakAt : Cond) ∈ lw_all := in_all 55 (by decide +kernel) (by decide +kernel)
set_option maxRecDepth 20000 in
theorem wd_56 : (.selects RX6 yX6_pairs yX6_pairs : Cond) ∈ lw_all := in_all 56 (by decide +kernel) (by decide +kernel)
set_option maxRecDepth 20000 in
theorem wd_57 : (.selects RX6 yX6_weakOf yX6_weakOf : Cond) ∈ lw_all := in_all 57 (by decide +kernel) (by decide +kernel)
set_option maxRecDepth 20000 in
theorem wd_58 : (.selects RX6 yX6_meantBy yX6_meantBy : Cond) ∈ lw_all := in_all 58 (by decide +kernel) (by decide +kernel)
set_option maxRecDepth 20000 in
theorem wd_59 : (.selects RX6 yX6_slipOf yX6_slipOf : Cond) ∈ lw_all := in_all 59 (by decide +kernel) (by decide +kernel)
set_option maxRecDepth 20000 in
theorem wd_60 : (.initialized RL : Cond) ∈ lw_all := in_all 60 (by decide +kernel) (by decide +kernel)
set_option maxRecDepth 20000 in
theorem wd_61 : (.initialized RX5 : Cond) ∈ lw_all := in_all 61 (by decide +kernel) (by decide +kernel)
set_option maxRecDepth 20000 in
theorem wd_62 : (.initialized RX4 : Cond) ∈ lw_all := in_all 62 (by decide +kernel) (by decide +kernel)
set_option maxRecDepth 20000 in
theorem wd_63 : (.initialized RX2 : Cond) ∈ lw_all := in_all 63 (by decide +kernel) (by decide +kernel)
set_option maxRecDepth 20000 in
theorem wd_64 : (.initialized RX0 : Cond) ∈ lw_all := in_all 64 (by decide +kernel) (by decide +kernel)
set_option maxRecDepth 20000 in
theorem wd_65 : (.initialized RX1 : Cond) ∈ lw_all := in_all 65 (by decide +kernel) (by decide +kernel)
set_option maxRecDepth 20000 in
theorem wd_66 : (.initialized RX3 : Cond) ∈ lw_all := in_all 66 (by decide +kernel) (by decide +kernel)
set_option maxRecDepth 20000 in
theorem wd_67 : (.initialized RX6 : Cond) ∈ lw_all := in_all 67 (by decide +kernel) (by decide +kernel)
set_option maxRecDepth 20000 in
theorem wd_68 : (.initialized "java/lang/Throwable" : Cond) ∈ lw_all := in_all 68 (by decide +kernel) (by decide +kernel)
set_option maxRecDepth 20000 in
theorem wd_69 : (.initialized "java/lang/Exception" : Cond) ∈ lw_all := in_all 69 (by decide +kernel) (by decide +kernel)
set_option maxRecDepth 20000 in
theorem wd_70 : (.initialized "java/lang/RuntimeException" : Cond) ∈ lw_all := in_all 70 (by decide +kernel) (by decide +kernel)
set_option maxRecDepth 20000 in
theorem wd_71 : (.initialized "java/lang/IndexOutOfBoundsException" : Cond) ∈ lw_all := in_all 71 (by decide +kernel) (by decide +kernel)
set_option maxRecDepth 20000 in
theorem wd_72 : (.initialized "java/lang/IllegalArgumentException" : Cond) ∈ lw_all := in_all 72 (by decide +kernel) (by decide +kernel)
set_option maxRecDepth 20000 in
theorem wd_73 : (.initialized "java/lang/IllegalStateException" : Cond) ∈ lw_all := in_all 73 (by decide +kernel) (by decide +kernel)
set_option maxRecDepth 20000 in
theorem wd_74 : (.initialized "java/lang/Math" : Cond) ∈ lw_all := in_all 74 (by decide +kernel) (by decide +kernel)
set_option maxRecDepth 20000 in
theorem wd_75 : (.classLink RL 8 RX5 : Cond) ∈ lw_all := in_all 75 (by decide +kernel) (by decide +kernel)
set_option maxRecDepth 20000 in
theorem wd_76 : (.instantiable RX5 3 : Cond) ∈ lw_all := in_all 76 (by decide +kernel) (by decide +kernel)
set_option maxRecDepth 20000 in
theorem wd_77 : (.methodLink RL 86 yX5_init : Cond) ∈ lw_all := in_all 77 (by decide +kernel) (by decide +kernel)
set_option maxRecDepth 20000 in
theorem wd_78 : (.instanceMethod yX5_init : Cond) ∈ lw_all := in_all 78 (by decide +kernel) (by decide +kernel)
set_option maxRecDepth 20000 in
theorem wd_79 : (.code yX5_init cX5_init 1 none : Cond) ∈ lw_all := in_all 79 (by decide +kernel) (by decide +kernel)
set_option maxRecDepth 20000 in
theorem wd_80 : (.methodLink RX5 1 objectInit : Cond) ∈ lw_all := in_all 80 (by decide +kernel) (by decide +kernel)
set_option maxRecDepth 20000 in
theorem wd_81 : (.instanceMethod objectInit : Cond) ∈ lw_all := in_all 81 (by decide +kernel) (by decide +kernel)
set_option maxRecDepth 20000 in
theorem wd_82 : (.code objectInit object_method_1_code 1 none : Cond) ∈ lw_all := in_all 82 (by decide +kernel) (by decide +kernel)
set_option maxRecDepth 20000 in
theorem wd_83 : (.classLink RX5 7 RX4 : Cond) ∈ lw_all := in_all 83 (by decide +kernel) (by decide +kernel)
set_option maxRecDepth 20000 in
theorem wd_84 : (.instantiable RX4 3 : Cond) ∈ lw_all := in_all 84 (by decide +kernel) (by decide +kernel)
set_option maxRecDepth 20000 in
theorem wd_86 : (.instanceMethod yX4_init : Cond) ∈ lw_all := in_all 86 (by decide +kernel) (by decide +kernel)
set_option maxRecDepth 20000 in
theorem wd_87 : (.code yX4_init cX4_init 1 none : Cond) ∈ lw_all := in_all 87 (by decide +kernel) (by decide +kernel)
set_option maxRecDepth 20000 in
theorem wd_88 : (.methodLink RX4 3 objectInit : Cond) ∈ lw_all := in_all 88 (by decide +kernel) (by decide +kernel)
set_option maxRecDepth 20000 in
theorem wd_89 : (.classLink RX4 9 RX2 : Cond) ∈ lw_all := in_all 89 (by decide +kernel) (by decide +kernel)
set_option maxRecDepth 20000 in
theorem wd_90 : (.instantiable RX2 2 : Cond) ∈ lw_all := in_all 90 (by decide +kernel) (by decide +kernel)
set_option maxRecDepth 20000 in
theorem wd_91 : (.methodLink RX4 11 yX2_init : Cond) ∈ lw_all := in_all 91 (by decide +kernel) (by decide +kernel)
set_option maxRecDepth 20000 in
theorem wd_92 : (.instanceMethod yX2_init : Cond) ∈ lw_all := in_all 92 (by decide +kernel) (by decide +kernel)
set_option maxRecDepth 20000 in
theorem wd_93 : (.code yX2_init cX2_init 2 none : Cond) ∈ lw_all := in_all 93 (by decide +kernel) (by decide +kernel)
set_option maxRecDepth 20000 in
theorem wd_94 : (.methodLink RX2 3 objectInit : Cond) ∈ lw_all := in_all 94 (by decide +kernel) (by decide +kernel)
set_option maxRecDepth 20000 in
theorem wd_95 : (.fieldLink RX2 9 "ChequeSerials$Letters" "weights" "[I" : Cond) ∈ lw_all := in_all 95 (by decide +kernel) (by decide +kernel)
set_option maxRecDepth 20000 in
theorem wd_96 : (.fieldLink RX2 15 "ChequeSerials$Letters" "modulus" "I" : Cond) ∈ lw_all := in_all 96 (by decide +kernel) (by decide +kernel)
set_option maxRecDepth 20000 in
theorem wd_97 : (.fieldLink RX5 61 "ChequeSerials$Letters" "modulus" "I" : Cond) ∈ lw_all := in_all 97 (by decide +kernel) (by decide +kernel)
set_option maxRecDepth 20000 in
theorem wd_103 : (.arrayClass .int : Cond) ∈ lw_all := in_all 103 (by decide +kernel) (by decide +kernel)
set_option maxRecDepth 20000 in
theorem wd_104 : (.classLink RX4 18 RX0 : Cond) ∈ lw_all := in_all 104 (by decide +kernel) (by decide +kernel)
set_option maxRecDepth 20000 in
theorem wd_105 : (.instantiable RX0 5 : Cond) ∈ lw_all := in_all 105 (by decide +kernel) (by decide +kernel)
set_option maxRecDepth 20000 in
theorem wd_107 : (.instanceMethod yX0_init : Cond) ∈ lw_all := in_all 107 (by decide +kernel) (by decide +kernel)
set_option maxRecDepth 20000 in
theorem wd_108 : (.code yX0_init cX0_init 1 none : Cond) ∈ lw_all := in_all 108 (by decide +kernel) (by decide +kernel)
set_option maxRecDepth 20000 in
theorem wd_109 : (.methodLink RX0 3 objectInit : Cond) ∈ lw_all := in_all 109 (by decide +kernel) (by decide +kernel)
set_option maxRecDepth 20000 in
theorem wd_110 : (.fieldLink RX0 9 "ChequeSerials$Books" "firsts" "[I" : Cond) ∈ lw_all := in_all 110 (by decide +kernel) (by decide +kernel)
set_option maxRecDepth 20000 in
theorem wd_111 : (.fieldLink RX0 15 "ChequeSerials$Books" "sizes" "[I" : Cond) ∈ lw_all := in_all 111 (by decide +kernel) (by decide +kernel)
set_option maxRecDepth 20000 in
theorem wd_112 : (.fieldLink RX0 18 "ChequeSerials$Books" "kinds" "[I" : Cond) ∈ lw_all := in_all 112 (by decide +kernel) (by decide +kernel)
set_option maxRecDepth 20000 in
theorem wd_113 : (.fieldLink RX0 21 "ChequeSerials$Books" "amounts" "[I" : Cond) ∈ lw_all := in_all 113 (by decide +kernel) (by decide +kernel)
set_option maxRecDepth 20000 in
theorem wd_114 : (.fieldLink RX0 28 "ChequeSerials$Books" "held" "I" : Cond) ∈ lw_all := in_all 114 (by decide +kernel) (by decide +kernel)
set_option maxRecDepth 20000 in
theorem wd_115 : (.fieldLink RX4 57 "ChequeSerials$Books" "held" "I" : Cond) ∈ lw_all := in_all 115 (by decide +kernel) (by decide +kernel)
set_option maxRecDepth 20000 in
theorem wd_116 : (.fieldLink RX5 151 "ChequeSerials$Books" "held" "I" : Cond) ∈ lw_all := in_all 116 (by decide +kernel) (by decide +kernel)
set_option maxRecDepth 20000 in
theorem wd_128 : (.fieldLink RX4 12 "ChequeSerials$State" "letters" "LChequeSerials$Letters;" : Cond) ∈ lw_all := in_all 128 (by decide +kernel) (by decide +kernel)
set_option maxRecDepth 20000 in
theorem wd_129 : (.fieldLink RX5 45 "ChequeSerials$State" "letters" "LChequeSerials$Letters;" : Cond) ∈ lw_all := in_all 129 (by decide +kernel) (by decide +kernel)
set_option maxRecDepth 20000 in
theorem wd_130 : (.fieldLink RX4 21 "ChequeSerials$State" "books" "LChequeSerials$Books;" : Cond) ∈ lw_all := in_all 130 (by decide +kernel) (by decide +kernel)
set_option maxRecDepth 20000 in
theorem wd_131 : (.fieldLink RX5 72 "ChequeSerials$State" "books" "LChequeSerials$Books;" : Cond) ∈ lw_all := in_all 131 (by decide +kernel) (by decide +kernel)
set_option maxRecDepth 20000 in
theorem wd_132 : (.fieldLink RX4 32 "ChequeSerials$State" "refusals" "I" : Cond) ∈ lw_all := in_all 132 (by decide +kernel) (by decide +kernel)
set_option maxRecDepth 20000 in
theorem wd_133 : (.fieldLink RX5 188 "ChequeSerials$State" "refusals" "I" : Cond) ∈ lw_all := in_all 133 (by decide +kernel) (by decide +kernel)
set_option maxRecDepth 20000 in
theorem wd_141 : (.classLink RX5 16 RX1 : Cond) ∈ lw_all := in_all 141 (by decide +kernel) (by decide +kernel)
set_option maxRecDepth 20000 in
theorem wd_142 : (.instantiable RX1 4 : Cond) ∈ lw_all := in_all 142 (by decide +kernel) (by decide +kernel)
set_option maxRecDepth 20000 in
theorem wd_143 : (.methodLink RX5 18 yX1_init : Cond) ∈ lw_all := in_all 143 (by decide +kernel) (by decide +kernel)
set_option maxRecDepth 20000 in
theorem wd_144 : (.instanceMethod yX1_init : Cond) ∈ lw_all := in_all 144 (by decide +kernel) (by decide +kernel)
set_option maxRecDepth 20000 in
theorem wd_145 : (.code yX1_init cX1_init 2 none : Cond) ∈ lw_all := in_all 145 (by decide +kernel) (by decide +kernel)
set_option maxRecDepth 20000 in
theorem wd_146 : (.methodLink RX1 3 objectInit : Cond) ∈ lw_all := in_all 146 (by decide +kernel) (by decide +kernel)
set_option maxRecDepth 20000 in
theorem wd_147 : (.classLink RX1 9 RX4 : Cond) ∈ lw_all := in_all 147 (by decide +kernel) (by decide +kernel)
set_option maxRecDepth 20000 in
theorem wd_150 : (.fieldLink RX1 11 "ChequeSerials$History" "saved" "[LChequeSerials$State;" : Cond) ∈ lw_all := in_all 150 (by decide +kernel) (by decide +kernel)
set_option maxRecDepth 20000 in
theorem wd_151 : (.fieldLink RX1 17 "ChequeSerials$History" "slots" "[LChequeSerials$State;" : Cond) ∈ lw_all := in_all 151 (by decide +kernel) (by decide +kernel)
set_option maxRecDepth 20000 in
theorem wd_152 : (.fieldLink RX1 20 "ChequeSerials$History" "filled" "[Z" : Cond) ∈ lw_all := in_all 152 (by decide +kernel) (by decide +kernel)
set_option maxRecDepth 20000 in
theorem wd_153 : (.fieldLink RX1 25 "ChequeSerials$History" "depth" "I" : Cond) ∈ lw_all := in_all 153 (by decide +kernel) (by decide +kernel)
set_option maxRecDepth 20000 in
theorem wd_154 : (.fieldLink RX5 136 "ChequeSerials$History" "depth" "I" : Cond) ∈ lw_all := in_all 154 (by decide +kernel) (by decide +kernel)
set_option maxRecDepth 20000 in
theorem wd_164 : (.arrayClass .boolean : Cond) ∈ lw_all := in_all 164 (by decide +kernel) (by decide +kernel)
set_option maxRecDepth 20000 in
theorem wd_165 : (.classLink RX5 23 RX3 : Cond) ∈ lw_all := in_all 165 (by decide +kernel) (by decide +kernel)
set_option maxRecDepth 20000 in
theorem wd_166 : (.instantiable RX3 2 : Cond) ∈ lw_all := in_all 166 (by decide +kernel) (by decide +kernel)
set_option maxRecDepth 20000 in
theorem wd_168 : (.instanceMethod yX3_init : Cond) ∈ lw_all := in_all 168 (by decide +kernel) (by decide +kernel)
set_option maxRecDepth 20000 in
theorem wd_169 : (.code yX3_init cX3_init 1 none : Cond) ∈ lw_all := in_all 169 (by decide +kernel) (by decide +kernel)
set_option maxRecDepth 20000 in
theorem wd_170 : (.methodLink RX3 3 objectInit : Cond) ∈ lw_all := in_all 170 (by decide +kernel) (by decide +kernel)
set_option maxRecDepth 20000 in
theorem wd_171 : (.fieldLink RX3 9 "ChequeSerials$OrderText" "signs" "[I" : Cond) ∈ lw_all := in_all 171 (by decide +kernel) (by decide +kernel)
set_option maxRecDepth 20000 in
theorem wd_172 : (.fieldLink RX3 15 "ChequeSerials$OrderText" "length" "I" : Cond) ∈ lw_all := in_all 172 (by decide +kernel) (by decide +kernel)
set_option maxRecDepth 20000 in
theorem wd_173 : (.fieldLink RX5 191 "ChequeSerials$OrderText" "length" "I" : Cond) ∈ lw_all := in_all 173 (by decide +kernel) (by decide +kernel)
set_option maxRecDepth 20000 in
theorem wd_179 : (.fieldLink RX5 10 "ChequeSerials" "now" "LChequeSerials$State;" : Cond) ∈ lw_all := in_all 179 (by decide +kernel) (by decide +kernel)
set_option maxRecDepth 20000 in
theorem wd_180 : (.fieldLink RX5 19 "ChequeSerials" "history" "LChequeSerials$History;" : Cond) ∈ lw_all := in_all 180 (by decide +kernel) (by decide +kernel)
set_option maxRecDepth 20000 in
theorem wd_181 : (.fieldLink RX5 26 "ChequeSerials" "orders" "LChequeSerials$OrderText;" : Cond) ∈ lw_all := in_all 181 (by decide +kernel) (by decide +kernel)
set_option maxRecDepth 20000 in
theorem wd_189 : (.methodLink RL 118 yX5_clearBuffer : Cond) ∈ lw_all := in_all 189 (by decide +kernel) (by decide +kernel)
set_option maxRecDepth 20000 in
theorem wd_190 : (.instanceMethod yX5_clearBuffer : Cond) ∈ lw_all := in_all 190 (by decide +kernel) (by decide +kernel)
set_option maxRecDepth 20000 in
theorem wd_191 : (.selects RX5 yX5_clearBuffer yX5_clearBuffer : Cond) ∈ lw_all := in_all 191 (by decide +kernel) (by decide +kernel)
set_option maxRecDepth 20000 in
theorem wd_192 : (.code yX5_clearBuffer cX5_clearBuffer 1 (some .int) : Cond) ∈ lw_all := in_all 192 (by decide +kernel) (by decide +kernel)
set_option maxRecDepth 20000 in
theorem wd_193 : (.methodLink RX5 121 yX3_clear : Cond) ∈ lw_all := in_all 193 (by decide +kernel) (by decide +kernel)
set_option maxRecDepth 20000 in
theorem wd_194 : (.instanceMethod yX3_clear : Cond) ∈ lw_all := in_all 194 (by decide +kernel) (by decide +kernel)
set_option maxRecDepth 20000 in
theorem wd_195 : (.selects RX3 yX3_clear yX3_clear : Cond) ∈ lw_all := in_all 195 (by decide +kernel) (by decide +kernel)
set_option maxRecDepth 20000 in
theorem wd_196 : (.code yX3_clear cX3_clear 2 (some .int) : Cond) ∈ lw_all := in_all 196 (by decide +kernel) (by decide +kernel)
set_option maxRecDepth 20000 in
theorem wd_197 : (.methodLink RL 122 yX5_firstError : Cond) ∈ lw_all := in_all 197 (by decide +kernel) (by decide +kernel)
set_option maxRecDepth 20000 in
theorem wd_198 : (.instanceMethod yX5_firstError : Cond) ∈ lw_all := in_all 198 (by decide +kernel) (by decide +kernel)
set_option maxRecDepth 20000 in
theorem wd_199 : (.selects RX5 yX5_firstError yX5_firstError : Cond) ∈ lw_all := in_all 199 (by decide +kernel) (by decide +kernel)
set_option maxRecDepth 20000 in
theorem wd_200 : (.code yX5_firstError cX5_firstError 1 (some .int) : Cond) ∈ lw_all := in_all 200 (by decide +kernel) (by decide +kernel)
set_option maxRecDepth 20000 in
theorem wd_201 : (.methodLink RX5 125 yX3_errorIndex : Cond) ∈ lw_all := in_all 201 (by decide +kernel) (by decide +kernel)
set_option maxRecDepth 20000 in
theorem wd_202 : (.instanceMethod yX3_errorIndex : Cond) ∈ lw_all := in_all 202 (by decide +kernel) (by decide +kernel)
set_option maxRecDepth 20000 in
theorem wd_203 : (.selects RX3 yX3_errorIndex yX3_errorIndex : Cond) ∈ lw_all := in_all 203 (by decide +kernel) (by decide +kernel)
set_option maxRecDepth 20000 in
theorem wd_204 : (.code yX3_errorIndex cX3_errorIndex 3 (some .int) : Cond) ∈ lw_all := in_all 204 (by decide +kernel) (by decide +kernel)
set_option maxRecDepth 20000 in
theorem wd_205 : (.methodLink RX3 23 yX3_fits : Cond) ∈ lw_all := in_all 205 (by decide +kernel) (by decide +kernel)
set_option maxRecDepth 20000 in
theorem wd_207 : (.instanceMethod yX3_fits : Cond) ∈ lw_all := in_all 207 (by decide +kernel) (by decide +kernel)
set_option maxRecDepth 20000 in
theorem wd_208 : (.code yX3_fits cX3_fits 5 (some .boolean) : Cond) ∈ lw_all := in_all 208 (by decide +kernel) (by decide +kernel)
set_option maxRecDepth 20000 in
theorem wd_209 : (.methodLink RX3 19 yX3_signAt : Cond) ∈ lw_all := in_all 209 (by decide +kernel) (by decide +kernel)
set_option maxRecDepth 20000 in
theorem wd_210 : (.instanceMethod yX3_signAt : Cond) ∈ lw_all := in_all 210 (by decide +kernel) (by decide +kernel)
set_option maxRecDepth 20000 in
theorem wd_211 : (.selects RX3 yX3_signAt yX3_signAt : Cond) ∈ lw_all := in_all 211 (by decide +kernel) (by decide +kernel)
set_option maxRecDepth 20000 in
theorem wd_212 : (.code yX3_signAt cX3_signAt 2 (some .int) : Cond) ∈ lw_all := in_all 212 (by decide +kernel) (by decide +kernel)
set_option maxRecDepth 20000 in
theorem wd_213 : (.methodLink RX3 31 yX3_isWhole : Cond) ∈ lw_all := in_all 213 (by decide +kernel) (by decide +kernel)
set_option maxRecDepth 20000 in
theorem wd_215 : (.instanceMethod yX3_isWhole : Cond) ∈ lw_all := in_all 215 (by decide +kernel) (by decide +kernel)
set_option maxRecDepth 20000 in
theorem wd_216 : (.code yX3_isWhole cX3_isWhole 4 (some .boolean) : Cond) ∈ lw_all := in_all 216 (by decide +kernel) (by decide +kernel)
set_option maxRecDepth 20000 in
theorem wd_217 : (.methodLink RX3 34 yX3_isDigit : Cond) ∈ lw_all := in_all 217 (by decide +kernel) (by decide +kernel)
set_option maxRecDepth 20000 in
theorem wd_218 : (.static yX3_isDigit : Cond) ∈ lw_all := in_all 218 (by decide +kernel) (by decide +kernel)
set_option maxRecDepth 20000 in
theorem wd_219 : (.code yX3_isDigit cX3_isDigit 1 (some .boolean) : Cond) ∈ lw_all := in_all 219 (by decide +kernel) (by decide +kernel)
set_option maxRecDepth 20000 in
theorem wd_220 : (.methodLink RX3 38 yX3_endsHead : Cond) ∈ lw_all := in_all 220 (by decide +kernel) (by decide +kernel)
set_option maxRecDepth 20000 in
theorem wd_221 : (.static yX3_endsHead : Cond) ∈ lw_all := in_all 221 (by decide +kernel) (by decide +kernel)
set_option maxRecDepth 20000 in
theorem wd_222 : (.code yX3_endsHead cX3_endsHead 2 (some .boolean) : Cond) ∈ lw_all := in_all 222 (by decide +kernel) (by decide +kernel)
set_option maxRecDepth 20000 in
theorem wd_223 : (.methodLink RX3 41 yX3_fitsBehindHead : Cond) ∈ lw_all := in_all 223 (by decide +kernel) (by decide +kernel)
set_option maxRecDepth 20000 in
theorem wd_225 : (.instanceMethod yX3_fitsBehindHead : Cond) ∈ lw_all := in_all 225 (by decide +kernel) (by decide +kernel)
set_option maxRecDepth 20000 in
theorem wd_226 : (.code yX3_fitsBehindHead cX3_fitsBehindHead 4 (some .boolean) : Cond) ∈ lw_all := in_all 226 (by decide +kernel) (by decide +kernel)
set_option maxRecDepth 20000 in
theorem wd_227 : (.methodLink RX3 44 yX3_numberIn : Cond) ∈ lw_all := in_all 227 (by decide +kernel) (by decide +kernel)
set_option maxRecDepth 20000 in
theorem wd_228 : (.instanceMethod yX3_numberIn : Cond) ∈ lw_all := in_all 228 (by decide +kernel) (by decide +kernel)
set_option maxRecDepth 20000 in
theorem wd_229 : (.selects RX3 yX3_numberIn yX3_numberIn : Cond) ∈ lw_all := in_all 229 (by decide +kernel) (by decide +kernel)
set_option maxRecDepth 20000 in
theorem wd_230 : (.code yX3_numberIn cX3_numberIn 5 (some .int) : Cond) ∈ lw_all := in_all 230 (by decide +kernel) (by decide +kernel)
set_option maxRecDepth 20000 in
theorem wd_231 : (.methodLink RL 173 yX5_cashed : Cond) ∈ lw_all := in_all 231 (by decide +kernel) (by decide +kernel)
set_option maxRecDepth 20000 in
theorem wd_232 : (.instanceMethod yX5_cashed : Cond) ∈ lw_all := in_all 232 (by decide +kernel) (by decide +kernel)
set_option maxRecDepth 20000 in
theorem wd_233 : (.selects RX5 yX5_cashed yX5_cashed : Cond) ∈ lw_all := in_all 233 (by decide +kernel) (by decide +kernel)
set_option maxRecDepth 20000 in
theorem wd_234 : (.code yX5_cashed cX5_cashed 2 (some .double) : Cond) ∈ lw_all := in_all 234 (by decide +kernel) (by decide +kernel)
set_option maxRecDepth 20000 in
theorem wd_235 : (.methodLink RX5 194 yX0_numberOfAll : Cond) ∈ lw_all := in_all 235 (by decide +kernel) (by decide +kernel)
set_option maxRecDepth 20000 in
theorem wd_236 : (.instanceMethod yX0_numberOfAll : Cond) ∈ lw_all := in_all 236 (by decide +kernel) (by decide +kernel)
set_option maxRecDepth 20000 in
theorem wd_237 : (.selects RX0 yX0_numberOfAll yX0_numberOfAll : Cond) ∈ lw_all := in_all 237 (by decide +kernel) (by decide +kernel)
set_option maxRecDepth 20000 in
theorem wd_238 : (.code yX0_numberOfAll cX0_numberOfAll 4 (some .int) : Cond) ∈ lw_all := in_all 238 (by decide +kernel) (by decide +kernel)
set_option maxRecDepth 20000 in
theorem wd_239 : (.methodLink RX0 70 yX0_numberOf : Cond) ∈ lw_all := in_all 239 (by decide +kernel) (by decide +kernel)
set_option maxRecDepth 20000 in
theorem wd_240 : (.instanceMethod yX0_numberOf : Cond) ∈ lw_all := in_all 240 (by decide +kernel) (by decide +kernel)
set_option maxRecDepth 20000 in
theorem wd_241 : (.selects RX0 yX0_numberOf yX0_numberOf : Cond) ∈ lw_all := in_all 241 (by decide +kernel) (by decide +kernel)
set_option maxRecDepth 20000 in
theorem wd_242 : (.code yX0_numberOf cX0_numberOf 3 (some .int) : Cond) ∈ lw_all := in_all 242 (by decide +kernel) (by decide +kernel)
set_option maxRecDepth 20000 in
theorem wd_243 : (.methodLink RX0 32 yX0_firstOf : Cond) ∈ lw_all := in_all 243 (by decide +kernel) (by decide +kernel)
set_option maxRecDepth 20000 in
theorem wd_244 : (.instanceMethod yX0_firstOf : Cond) ∈ lw_all := in_all 244 (by decide +kernel) (by decide +kernel)
set_option maxRecDepth 20000 in
theorem wd_245 : (.selects RX0 yX0_firstOf yX0_firstOf : Cond) ∈ lw_all := in_all 245 (by decide +kernel) (by decide +kernel)
set_option maxRecDepth 20000 in
theorem wd_246 : (.code yX0_firstOf cX0_firstOf 2 (some .int) : Cond) ∈ lw_all := in_all 246 (by decide +kernel) (by decide +kernel)
set_option maxRecDepth 20000 in
theorem wd_247 : (.methodLink RX0 36 yX0_sizeOf : Cond) ∈ lw_all := in_all 247 (by decide +kernel) (by decide +kernel)
set_option maxRecDepth 20000 in
theorem wd_248 : (.instanceMethod yX0_sizeOf : Cond) ∈ lw_all := in_all 248 (by decide +kernel) (by decide +kernel)
set_option maxRecDepth 20000 in
theorem wd_249 : (.selects RX0 yX0_sizeOf yX0_sizeOf : Cond) ∈ lw_all := in_all 249 (by decide +kernel) (by decide +kernel)
set_option maxRecDepth 20000 in
theorem wd_250 : (.code yX0_sizeOf cX0_sizeOf 2 (some .int) : Cond) ∈ lw_all := in_all 250 (by decide +kernel) (by decide +kernel)
set_option maxRecDepth 20000 in
theorem wd_251 : (.methodLink RX0 61 yX0_amountsOf : Cond) ∈ lw_all := in_all 251 (by decide +kernel) (by decide +kernel)
set_option maxRecDepth 20000 in
theorem wd_253 : (.instanceMethod yX0_amountsOf : Cond) ∈ lw_all := in_all 253 (by decide +kernel) (by decide +kernel)
set_option maxRecDepth 20000 in
theorem wd_254 : (.code yX0_amountsOf cX0_amountsOf 7 (some .int) : Cond) ∈ lw_all := in_all 254 (by decide +kernel) (by decide +kernel)
set_option maxRecDepth 20000 in
theorem wd_255 : (.methodLink RX0 58 yX0_kindAt : Cond) ∈ lw_all := in_all 255 (by decide +kernel) (by decide +kernel)
set_option maxRecDepth 20000 in
theorem wd_256 : (.instanceMethod yX0_kindAt : Cond) ∈ lw_all := in_all 256 (by decide +kernel) (by decide +kernel)
set_option maxRecDepth 20000 in
theorem wd_257 : (.selects RX0 yX0_kindAt yX0_kindAt : Cond) ∈ lw_all := in_all 257 (by decide +kernel) (by decide +kernel)
set_option maxRecDepth 20000 in
theorem wd_258 : (.code yX0_kindAt cX0_kindAt 2 (some .int) : Cond) ∈ lw_all := in_all 258 (by decide +kernel) (by decide +kernel)
set_option maxRecDepth 20000 in
theorem wd_259 : (.methodLink RX0 43 yX0_amountAt : Cond) ∈ lw_all := in_all 259 (by decide +kernel) (by decide +kernel)
set_option maxRecDepth 20000 in
theorem wd_260 : (.instanceMethod yX0_amountAt : Cond) ∈ lw_all := in_all 260 (by decide +kernel) (by decide +kernel)
set_option maxRecDepth 20000 in
theorem wd_261 : (.selects RX0 yX0_amountAt yX0_amountAt : Cond) ∈ lw_all := in_all 261 (by decide +kernel) (by decide +kernel)
set_option maxRecDepth 20000 in
theorem wd_262 : (.code yX0_amountAt cX0_amountAt 2 (some .int) : Cond) ∈ lw_all := in_all 262 (by decide +kernel) (by decide +kernel)
set_option maxRecDepth 20000 in
theorem wd_263 : (.methodLink RX0 64 yX0_firstBlankOf : Cond) ∈ lw_all := in_all 263 (by decide +kernel) (by decide +kernel)
set_option maxRecDepth 20000 in
theorem wd_265 : (.instanceMethod yX0_firstBlankOf : Cond) ∈ lw_all := in_all 265 (by decide +kernel) (by decide +kernel)
set_option maxRecDepth 20000 in
theorem wd_266 : (.code yX0_firstBlankOf cX0_firstBlankOf 4 (some .int) : Cond) ∈ lw_all := in_all 266 (by decide +kernel) (by decide +kernel)
set_option maxRecDepth 20000 in
theorem wd_267 : (.methodLink RX0 67 yX0_chequesOf : Cond) ∈ lw_all := in_all 267 (by decide +kernel) (by decide +kernel)
set_option maxRecDepth 20000 in
theorem wd_269 : (.instanceMethod yX0_chequesOf : Cond) ∈ lw_all := in_all 269 (by decide +kernel) (by decide +kernel)
set_option maxRecDepth 20000 in
theorem wd_270 : (.code yX0_chequesOf cX0_chequesOf 6 (some .int) : Cond) ∈ lw_all := in_all 270 (by decide +kernel) (by decide +kernel)
set_option maxRecDepth 20000 in
theorem wd_271 : (.methodLink RL 90 yL_weight : Cond) ∈ lw_all := in_all 271 (by decide +kernel) (by decide +kernel)
set_option maxRecDepth 20000 in
theorem wd_272 : (.static yL_weight : Cond) ∈ lw_all := in_all 272 (by decide +kernel) (by decide +kernel)
set_option maxRecDepth 20000 in
theorem wd_274 : (.classLink RL 13 "java/lang/IndexOutOfBoundsException" : Cond) ∈ lw_all := in_all 274 (by decide +kernel) (by decide +kernel)
set_option maxRecDepth 20000 in
theorem wd_275 : (.classLink RL 15 "java/lang/IllegalArgumentException" : Cond) ∈ lw_all := in_all 275 (by decide +kernel) (by decide +kernel)
set_option maxRecDepth 20000 in
theorem wd_276 : (.methodLink RL 7 yX5_weight : Cond) ∈ lw_all := in_all 276 (by decide +kernel) (by decide +kernel)
set_option maxRecDepth 20000 in
theorem wd_277 : (.instanceMethod yX5_weight : Cond) ∈ lw_all := in_all 277 (by decide +kernel) (by decide +kernel)
set_option maxRecDepth 20000 in
theorem wd_278 : (.selects RX5 yX5_weight yX5_weight : Cond) ∈ lw_all := in_all 278 (by decide +kernel) (by decide +kernel)
set_option maxRecDepth 20000 in
theorem wd_279 : (.code yX5_weight cX5_weight 4 (some .int) : Cond) ∈ lw_all := in_all 279 (by decide +kernel) (by decide +kernel)
set_option maxRecDepth 20000 in
theorem wd_280 : (.methodLink RX5 30 yX5_throwIfNoPosition : Cond) ∈ lw_all := in_all 280 (by decide +kernel) (by decide +kernel)
set_option maxRecDepth 20000 in
theorem wd_281 : (.static yX5_throwIfNoPosition : Cond) ∈ lw_all := in_all 281 (by decide +kernel) (by decide +kernel)
set_option maxRecDepth 20000 in
theorem wd_282 : (.code yX5_throwIfNoPosition cX5_throwIfNoPosition 1 none : Cond) ∈ lw_all := in_all 282 (by decide +kernel) (by decide +kernel)
set_option maxRecDepth 20000 in
theorem wd_283 : (.classLink RX5 163 "java/lang/IndexOutOfBoundsException" : Cond) ∈ lw_all := in_all 283 (by decide +kernel) (by decide +kernel)
set_option maxRecDepth 20000 in
theorem wd_284 : (.instantiable "java/lang/IndexOutOfBoundsException" 6 : Cond) ∈ lw_all := in_all 284 (by decide +kernel) (by decide +kernel)
set_option maxRecDepth 20000 in
theorem wd_292 : (.selects "java/lang/IndexOutOfBoundsException" ⟨"java/lang/Throwable", "fillInStackTrace", "(I)Ljava/lang/Throwable;"⟩ ⟨"java/lang/Throwable", "fillInStackTrace", "(I)Ljava/lang/Throwable;"⟩ : Cond) ∈ lw_all := in_all 292 (by decide +kernel) (by decide +kernel)
set_option maxRecDepth 20000 in
theorem wd_293 : (.selects "java/lang/IndexOutOfBoundsException" ⟨"java/lang/Throwable", "fillInStackTrace", "()Ljava/lang/Throwable;"⟩ ⟨"java/lang/Throwable", "fillInStackTrace", "()Ljava/lang/Throwable;"⟩ : Cond) ∈ lw_all := in_all 293 (by decide +kernel) (by decide +kernel)
set_option maxRecDepth 20000 in
theorem wd_304 : (.fieldLink "java/lang/Throwable" 198 "java/lang/Throwable" "backtrace" "Ljava/lang/Object;" : Cond) ∈ lw_all := in_all 304 (by decide +kernel) (by decide +kernel)
set_option maxRecDepth 20000 in
theorem wd_306 : (.instanceMethod ⟨"java/lang/Throwable", "<init>", "()V"⟩ : Cond) ∈ lw_all := in_all 306 (by decide +kernel) (by decide +kernel)
set_option maxRecDepth 20000 in
theorem wd_307 : (.code ⟨"java/lang/Throwable", "<init>", "()V"⟩ prog_16_method_1_code 1 none : Cond) ∈ lw_all := in_all 307 (by decide +kernel) (by decide +kernel)
set_option maxRecDepth 20000 in
theorem wd_308 : (.methodLink "java/lang/Throwable" 1 objectInit : Cond) ∈ lw_all := in_all 308 (by decide +kernel) (by decide +kernel)
set_option maxRecDepth 20000 in
theorem wd_309 : (.fieldLink "java/lang/Throwable" 13 "java/lang/Throwable" "UNASSIGNED_STACK" "[Ljava/lang/StackTraceElement;" : Cond) ∈ lw_all := in_all 309 (by decide +kernel) (by decide +kernel)
set_option maxRecDepth 20000 in
theorem wd_311 : (.fieldLink "java/lang/Throwable" 20 "java/lang/Throwable" "SUPPRESSED_SENTINEL" "Ljava/util/List;" : Cond) ∈ lw_all := in_all 311 (by decide +kernel) (by decide +kernel)
set_option maxRecDepth 20000 in
theorem wd_313 : (.methodLink "java/lang/Throwable" 27 ⟨"java/lang/Throwable", "fillInStackTrace", "()Ljava/lang/Throwable;"⟩ : Cond) ∈ lw_all := in_all 313 (by decide +kernel) (by decide +kernel)
set_option maxRecDepth 20000 in
theorem wd_314 : (.instanceMethod ⟨"java/lang/Throwable", "fillInStackTrace", "()Ljava/lang/Throwable;"⟩ : Cond) ∈ lw_all := in_all 314 (by decide +kernel) (by decide +kernel)
set_option maxRecDepth 20000 in
theorem wd_316 : (.selects "java/lang/IllegalArgumentException" ⟨"java/lang/Throwable", "fillInStackTrace", "()Ljava/lang/Throwable;"⟩ ⟨"java/lang/Throwable", "fillInStackTrace", "()Ljava/lang/Throwable;"⟩ : Cond) ∈ lw_all := in_all 316 (by decide +kernel) (by decide +kernel)
set_option maxRecDepth 20000 in
theorem wd_317 : (.selects "java/lang/IllegalStateException" ⟨"java/lang/Throwable", "fillInStackTrace", "()Ljava/lang/Throwable;"⟩ ⟨"java/lang/Throwable", "fillInStackTrace", "()Ljava/lang/Throwable;"⟩ : Cond) ∈ lw_all := in_all 317 (by decide +kernel) (by decide +kernel)
set_option maxRecDepth 20000 in
theorem wd_319 : (.methodLink "java/lang/Throwable" 202 ⟨"java/lang/Throwable", "fillInStackTrace", "(I)Ljava/lang/Throwable;"⟩ : Cond) ∈ lw_all := in_all 319 (by decide +kernel) (by decide +kernel)
set_option maxRecDepth 20000 in
theorem wd_321 : (.instanceMethod ⟨"java/lang/Throwable", "fillInStackTrace", "(I)Ljava/lang/Throwable;"⟩ : Cond) ∈ lw_all := in_all 321 (by decide +kernel) (by decide +kernel)
set_option maxRecDepth 20000 in
theorem wd_322 : (.instantiable "java/lang/Throwable" 6 : Cond) ∈ lw_all := in_all 322 (by decide +kernel) (by decide +kernel)
set_option maxRecDepth 20000 in
theorem wd_325 : (.methodLink RX5 167 ⟨"java/lang/IndexOutOfBoundsException", "<init>", "(Ljava/lang/String;)V"⟩ : Cond) ∈ lw_all := in_all 325 (by decide +kernel) (by decide +kernel)
set_option maxRecDepth 20000 in
theorem wd_326 : (.instanceMethod ⟨"java/lang/IndexOutOfBoundsException", "<init>", "(Ljava/lang/String;)V"⟩ : Cond) ∈ lw_all := in_all 326 (by decide +kernel) (by decide +kernel)
set_option maxRecDepth 20000 in
theorem wd_327 : (.code ⟨"java/lang/IndexOutOfBoundsException", "<init>", "(Ljava/lang/String;)V"⟩ prog_12_method_2_code 2 none : Cond) ∈ lw_all := in_all 327 (by decide +kernel) (by decide +kernel)
set_option maxRecDepth 20000 in
theorem wd_328 : (.methodLink "java/lang/IndexOutOfBoundsException" 7 ⟨"java/lang/RuntimeException", "<init>", "(Ljava/lang/String;)V"⟩ : Cond) ∈ lw_all := in_all 328 (by decide +kernel) (by decide +kernel)
set_option maxRecDepth 20000 in
theorem wd_329 : (.instanceMethod ⟨"java/lang/RuntimeException", "<init>", "(Ljava/lang/String;)V"⟩ : Cond) ∈ lw_all := in_all 329 (by decide +kernel) (by decide +kernel)
set_option maxRecDepth 20000 in
theorem wd_330 : (.code ⟨"java/lang/RuntimeException", "<init>", "(Ljava/lang/String;)V"⟩ prog_14_method_2_code 2 none : Cond) ∈ lw_all := in_all 330 (by decide +kernel) (by decide +kernel)
set_option maxRecDepth 20000 in
theorem wd_331 : (.methodLink "java/lang/RuntimeException" 7 ⟨"java/lang/Exception", "<init>", "(Ljava/lang/String;)V"⟩ : Cond) ∈ lw_all := in_all 331 (by decide +kernel) (by decide +kernel)
set_option maxRecDepth 20000 in
theorem wd_332 : (.instanceMethod ⟨"java/lang/Exception", "<init>", "(Ljava/lang/String;)V"⟩ : Cond) ∈ lw_all := in_all 332 (by decide +kernel) (by decide +kernel)
set_option maxRecDepth 20000 in
theorem wd_333 : (.code ⟨"java/lang/Exception", "<init>", "(Ljava/lang/String;)V"⟩ prog_9_method_2_code 2 none : Cond) ∈ lw_all := in_all 333 (by decide +kernel) (by decide +kernel)
set_option maxRecDepth 20000 in
theorem wd_334 : (.methodLink "java/lang/Exception" 7 ⟨"java/lang/Throwable", "<init>", "(Ljava/lang/String;)V"⟩ : Cond) ∈ lw_all := in_all 334 (by decide +kernel) (by decide +kernel)
set_option maxRecDepth 20000 in
theorem wd_335 : (.instanceMethod ⟨"java/lang/Throwable", "<init>", "(Ljava/lang/String;)V"⟩ : Cond) ∈ lw_all := in_all 335 (by decide +kernel) (by decide +kernel)
set_option maxRecDepth 20000 in
theorem wd_336 : (.code ⟨"java/lang/Throwable", "<init>", "(Ljava/lang/String;)V"⟩ prog_16_method_2_code 2 none : Cond) ∈ lw_all := in_all 336 (by decide +kernel) (by decide +kernel)
set_option maxRecDepth 20000 in
theorem wd_338 : (.fieldLink "java/lang/Throwable" 31 "java/lang/Throwable" "detailMessage" "Ljava/lang/String;" : Cond) ∈ lw_all := in_all 338 (by decide +kernel) (by decide +kernel)
set_option maxRecDepth 20000 in
theorem wd_339 : (.fieldLink "java/lang/Throwable" 7 "java/lang/Throwable" "cause" "Ljava/lang/Throwable;" : Cond) ∈ lw_all := in_all 339 (by decide +kernel) (by decide +kernel)
set_option maxRecDepth 20000 in
theorem wd_340 : (.fieldLink "java/lang/Throwable" 17 "java/lang/Throwable" "stackTrace" "[Ljava/lang/StackTraceElement;" : Cond) ∈ lw_all := in_all 340 (by decide +kernel) (by decide +kernel)
set_option maxRecDepth 20000 in
theorem wd_341 : (.fieldLink "java/lang/Throwable" 24 "java/lang/Throwable" "suppressedExceptions" "Ljava/util/List;" : Cond) ∈ lw_all := in_all 341 (by decide +kernel) (by decide +kernel)
set_option maxRecDepth 20000 in
theorem wd_350 : (.arrayClass .byte : Cond) ∈ lw_all := in_all 350 (by decide +kernel) (by decide +kernel)
set_option maxRecDepth 20000 in
theorem wd_351 : (.classLink RX5 34 "java/lang/IllegalArgumentException" : Cond) ∈ lw_all := in_all 351 (by decide +kernel) (by decide +kernel)
set_option maxRecDepth 20000 in
theorem wd_352 : (.instantiable "java/lang/IllegalArgumentException" 6 : Cond) ∈ lw_all := in_all 352 (by decide +kernel) (by decide +kernel)
set_option maxRecDepth 20000 in
theorem wd_354 : (.selects "java/lang/IllegalArgumentException" ⟨"java/lang/Throwable", "fillInStackTrace", "(I)Ljava/lang/Throwable;"⟩ ⟨"java/lang/Throwable", "fillInStackTrace", "(I)Ljava/lang/Throwable;"⟩ : Cond) ∈ lw_all := in_all 354 (by decide +kernel) (by decide +kernel)
set_option maxRecDepth 20000 in
theorem wd_361 : (.methodLink RX5 38 ⟨"java/lang/IllegalArgumentException", "<init>", "(Ljava/lang/String;)V"⟩ : Cond) ∈ lw_all := in_all 361 (by decide +kernel) (by decide +kernel)
set_option maxRecDepth 20000 in
theorem wd_362 : (.instanceMethod ⟨"java/lang/IllegalArgumentException", "<init>", "(Ljava/lang/String;)V"⟩ : Cond) ∈ lw_all := in_all 362 (by decide +kernel) (by decide +kernel)
set_option maxRecDepth 20000 in
theorem wd_363 : (.code ⟨"java/lang/IllegalArgumentException", "<init>", "(Ljava/lang/String;)V"⟩ prog_10_method_2_code 2 none : Cond) ∈ lw_all := in_all 363 (by decide +kernel) (by decide +kernel)
set_option maxRecDepth 20000 in
theorem wd_364 : (.methodLink "java/lang/IllegalArgumentException" 7 ⟨"java/lang/RuntimeException", "<init>", "(Ljava/lang/String;)V"⟩ : Cond) ∈ lw_all := in_all 364 (by decide +kernel) (by decide +kernel)
set_option maxRecDepth 20000 in
theorem wd_367 : (.methodLink RX5 41 yX1_save : Cond) ∈ lw_all := in_all 367 (by decide +kernel) (by decide +kernel)
set_option maxRecDepth 20000 in
theorem wd_368 : (.instanceMethod yX1_save : Cond) ∈ lw_all := in_all 368 (by decide +kernel) (by decide +kernel)
set_option maxRecDepth 20000 in
theorem wd_369 : (.selects RX1 yX1_save yX1_save : Cond) ∈ lw_all := in_all 369 (by decide +kernel) (by decide +kernel)
set_option maxRecDepth 20000 in
theorem wd_370 : (.code yX1_save cX1_save 2 none : Cond) ∈ lw_all := in_all 370 (by decide +kernel) (by decide +kernel)
set_option maxRecDepth 20000 in
theorem wd_371 : (.methodLink RX1 29 yX1_dropOldest : Cond) ∈ lw_all := in_all 371 (by decide +kernel) (by decide +kernel)
set_option maxRecDepth 20000 in
theorem wd_373 : (.instanceMethod yX1_dropOldest : Cond) ∈ lw_all := in_all 373 (by decide +kernel) (by decide +kernel)
set_option maxRecDepth 20000 in
theorem wd_374 : (.code yX1_dropOldest cX1_dropOldest 3 none : Cond) ∈ lw_all := in_all 374 (by decide +kernel) (by decide +kernel)
set_option maxRecDepth 20000 in
theorem wd_375 : (.methodLink RX1 32 yX1_copyState : Cond) ∈ lw_all := in_all 375 (by decide +kernel) (by decide +kernel)
set_option maxRecDepth 20000 in
theorem wd_376 : (.static yX1_copyState : Cond) ∈ lw_all := in_all 376 (by decide +kernel) (by decide +kernel)
set_option maxRecDepth 20000 in
theorem wd_377 : (.code yX1_copyState cX1_copyState 2 none : Cond) ∈ lw_all := in_all 377 (by decide +kernel) (by decide +kernel)
set_option maxRecDepth 20000 in
theorem wd_378 : (.methodLink RX1 36 yX4_copyFrom : Cond) ∈ lw_all := in_all 378 (by decide +kernel) (by decide +kernel)
set_option maxRecDepth 20000 in
theorem wd_379 : (.instanceMethod yX4_copyFrom : Cond) ∈ lw_all := in_all 379 (by decide +kernel) (by decide +kernel)
set_option maxRecDepth 20000 in
theorem wd_380 : (.selects RX4 yX4_copyFrom yX4_copyFrom : Cond) ∈ lw_all := in_all 380 (by decide +kernel) (by decide +kernel)
set_option maxRecDepth 20000 in
theorem wd_381 : (.code yX4_copyFrom cX4_copyFrom 2 none : Cond) ∈ lw_all := in_all 381 (by decide +kernel) (by decide +kernel)
set_option maxRecDepth 20000 in
theorem wd_382 : (.methodLink RX4 25 yX2_copyFrom : Cond) ∈ lw_all := in_all 382 (by decide +kernel) (by decide +kernel)
set_option maxRecDepth 20000 in
theorem wd_383 : (.instanceMethod yX2_copyFrom : Cond) ∈ lw_all := in_all 383 (by decide +kernel) (by decide +kernel)
set_option maxRecDepth 20000 in
theorem wd_384 : (.selects RX2 yX2_copyFrom yX2_copyFrom : Cond) ∈ lw_all := in_all 384 (by decide +kernel) (by decide +kernel)
set_option maxRecDepth 20000 in
theorem wd_385 : (.code yX2_copyFrom cX2_copyFrom 2 none : Cond) ∈ lw_all := in_all 385 (by decide +kernel) (by decide +kernel)
set_option maxRecDepth 20000 in
theorem wd_387 : (.static yX5_copyRow : Cond) ∈ lw_all := in_all 387 (by decide +kernel) (by decide +kernel)
set_option maxRecDepth 20000 in
theorem wd_388 : (.code yX5_copyRow cX5_copyRow 3 none : Cond) ∈ lw_all := in_all 388 (by decide +kernel) (by decide +kernel)
set_option maxRecDepth 20000 in
theorem wd_389 : (.methodLink RX4 29 yX0_copyFrom : Cond) ∈ lw_all := in_all 389 (by decide +kernel) (by decide +kernel)
set_option maxRecDepth 20000 in
theorem wd_390 : (.instanceMethod yX0_copyFrom : Cond) ∈ lw_all := in_all 390 (by decide +kernel) (by decide +kernel)
set_option maxRecDepth 20000 in
theorem wd_391 : (.selects RX0 yX0_copyFrom yX0_copyFrom : Cond) ∈ lw_all := in_all 391 (by decide +kernel) (by decide +kernel)
set_option maxRecDepth 20000 in
theorem wd_392 : (.code yX0_copyFrom cX0_copyFrom 2 none : Cond) ∈ lw_all := in_all 392 (by decide +kernel) (by decide +kernel)
set_option maxRecDepth 20000 in
theorem wd_394 : (.methodLink RX5 49 yX2_weightAt : Cond) ∈ lw_all := in_all 394 (by decide +kernel) (by decide +kernel)
set_option maxRecDepth 20000 in
theorem wd_395 : (.instanceMethod yX2_weightAt : Cond) ∈ lw_all := in_all 395 (by decide +kernel) (by decide +kernel)
set_option maxRecDepth 20000 in
theorem wd_396 : (.selects RX2 yX2_weightAt yX2_weightAt : Cond) ∈ lw_all := in_all 396 (by decide +kernel) (by decide +kernel)
set_option maxRecDepth 20000 in
theorem wd_397 : (.code yX2_weightAt cX2_weightAt 2 (some .int) : Cond) ∈ lw_all := in_all 397 (by decide +kernel) (by decide +kernel)
set_option maxRecDepth 20000 in
theorem wd_398 : (.methodLink RX5 55 yX2_setWeight : Cond) ∈ lw_all := in_all 398 (by decide +kernel) (by decide +kernel)
set_option maxRecDepth 20000 in
theorem wd_399 : (.instanceMethod yX2_setWeight : Cond) ∈ lw_all := in_all 399 (by decide +kernel) (by decide +kernel)
set_option maxRecDepth 20000 in
theorem wd_400 : (.selects RX2 yX2_setWeight yX2_setWeight : Cond) ∈ lw_all := in_all 400 (by decide +kernel) (by decide +kernel)
set_option maxRecDepth 20000 in
theorem wd_401 : (.code yX2_setWeight cX2_setWeight 3 none : Cond) ∈ lw_all := in_all 401 (by decide +kernel) (by decide +kernel)
set_option maxRecDepth 20000 in
theorem wd_402 : (.methodLink RL 99 yL_modulus : Cond) ∈ lw_all := in_all 402 (by decide +kernel) (by decide +kernel)
set_option maxRecDepth 20000 in
theorem wd_403 : (.static yL_modulus : Cond) ∈ lw_all := in_all 403 (by decide +kernel) (by decide +kernel)
set_option maxRecDepth 20000 in
theorem wd_405 : (.methodLink RL 17 yX5_modulus : Cond) ∈ lw_all := in_all 405 (by decide +kernel) (by decide +kernel)
set_option maxRecDepth 20000 in
theorem wd_406 : (.instanceMethod yX5_modulus : Cond) ∈ lw_all := in_all 406 (by decide +kernel) (by decide +kernel)
set_option maxRecDepth 20000 in
theorem wd_407 : (.selects RX5 yX5_modulus yX5_modulus : Cond) ∈ lw_all := in_all 407 (by decide +kernel) (by decide +kernel)
set_option maxRecDepth 20000 in
theorem wd_408 : (.code yX5_modulus cX5_modulus 3 (some .int) : Cond) ∈ lw_all := in_all 408 (by decide +kernel) (by decide +kernel)
set_option maxRecDepth 20000 in
theorem wd_410 : (.methodLink RL 103 yL_book : Cond) ∈ lw_all := in_all 410 (by decide +kernel) (by decide +kernel)
set_option maxRecDepth 20000 in
theorem wd_411 : (.static yL_book : Cond) ∈ lw_all := in_all 411 (by decide +kernel) (by decide +kernel)
set_option maxRecDepth 20000 in
theorem wd_413 : (.classLink RL 24 "java/lang/IllegalStateException" : Cond) ∈ lw_all := in_all 413 (by decide +kernel) (by decide +kernel)
set_option maxRecDepth 20000 in
theorem wd_414 : (.methodLink RL 21 yX5_book : Cond) ∈ lw_all := in_all 414 (by decide +kernel) (by decide +kernel)
set_option maxRecDepth 20000 in
theorem wd_415 : (.instanceMethod yX5_book : Cond) ∈ lw_all := in_all 415 (by decide +kernel) (by decide +kernel)
set_option maxRecDepth 20000 in
theorem wd_416 : (.selects RX5 yX5_book yX5_book : Cond) ∈ lw_all := in_all 416 (by decide +kernel) (by decide +kernel)
set_option maxRecDepth 20000 in
theorem wd_417 : (.code yX5_book cX5_book 3 (some .int) : Cond) ∈ lw_all := in_all 417 (by decide +kernel) (by decide +kernel)
set_option maxRecDepth 20000 in
theorem wd_418 : (.methodLink RX5 65 yX5_faultOfBook : Cond) ∈ lw_all := in_all 418 (by decide +kernel) (by decide +kernel)
set_option maxRecDepth 20000 in
theorem wd_420 : (.instanceMethod yX5_faultOfBook : Cond) ∈ lw_all := in_all 420 (by decide +kernel) (by decide +kernel)
set_option maxRecDepth 20000 in
theorem wd_421 : (.code yX5_faultOfBook cX5_faultOfBook 3 (some .int) : Cond) ∈ lw_all := in_all 421 (by decide +kernel) (by decide +kernel)
set_option maxRecDepth 20000 in
theorem wd_422 : (.methodLink RX5 242 yX5_isSerial : Cond) ∈ lw_all := in_all 422 (by decide +kernel) (by decide +kernel)
set_option maxRecDepth 20000 in
theorem wd_423 : (.static yX5_isSerial : Cond) ∈ lw_all := in_all 423 (by decide +kernel) (by decide +kernel)
set_option maxRecDepth 20000 in
theorem wd_424 : (.code yX5_isSerial cX5_isSerial 1 (some .boolean) : Cond) ∈ lw_all := in_all 424 (by decide +kernel) (by decide +kernel)
set_option maxRecDepth 20000 in
theorem wd_425 : (.constant RX5 259 (1000000) : Cond) ∈ lw_all := in_all 425 (by decide +kernel) (by decide +kernel)
set_option maxRecDepth 20000 in
theorem wd_426 : (.methodLink RX5 260 yX0_canTake : Cond) ∈ lw_all := in_all 426 (by decide +kernel) (by decide +kernel)
set_option maxRecDepth 20000 in
theorem wd_427 : (.instanceMethod yX0_canTake : Cond) ∈ lw_all := in_all 427 (by decide +kernel) (by decide +kernel)
set_option maxRecDepth 20000 in
theorem wd_428 : (.selects RX0 yX0_canTake yX0_canTake : Cond) ∈ lw_all := in_all 428 (by decide +kernel) (by decide +kernel)
set_option maxRecDepth 20000 in
theorem wd_429 : (.code yX0_canTake cX0_canTake 5 (some .boolean) : Cond) ∈ lw_all := in_all 429 (by decide +kernel) (by decide +kernel)
set_option maxRecDepth 20000 in
theorem wd_430 : (.methodLink RX5 69 yX5_throwIfFaulty : Cond) ∈ lw_all := in_all 430 (by decide +kernel) (by decide +kernel)
set_option maxRecDepth 20000 in
theorem wd_431 : (.static yX5_throwIfFaulty : Cond) ∈ lw_all := in_all 431 (by decide +kernel) (by decide +kernel)
set_option maxRecDepth 20000 in
theorem wd_432 : (.code yX5_throwIfFaulty cX5_throwIfFaulty 1 none : Cond) ∈ lw_all := in_all 432 (by decide +kernel) (by decide +kernel)
set_option maxRecDepth 20000 in
theorem wd_435 : (.classLink RX5 114 "java/lang/IllegalStateException" : Cond) ∈ lw_all := in_all 435 (by decide +kernel) (by decide +kernel)
set_option maxRecDepth 20000 in
theorem wd_436 : (.instantiable "java/lang/IllegalStateException" 6 : Cond) ∈ lw_all := in_all 436 (by decide +kernel) (by decide +kernel)
set_option maxRecDepth 20000 in
theorem wd_438 : (.selects "java/lang/IllegalStateException" ⟨"java/lang/Throwable", "fillInStackTrace", "(I)Ljava/lang/Throwable;"⟩ ⟨"java/lang/Throwable", "fillInStackTrace", "(I)Ljava/lang/Throwable;"⟩ : Cond) ∈ lw_all := in_all 438 (by decide +kernel) (by decide +kernel)
set_option maxRecDepth 20000 in
theorem wd_445 : (.methodLink RX5 118 ⟨"java/lang/IllegalStateException", "<init>", "(Ljava/lang/String;)V"⟩ : Cond) ∈ lw_all := in_all 445 (by decide +kernel) (by decide +kernel)
set_option maxRecDepth 20000 in
theorem wd_446 : (.instanceMethod ⟨"java/lang/IllegalStateException", "<init>", "(Ljava/lang/String;)V"⟩ : Cond) ∈ lw_all := in_all 446 (by decide +kernel) (by decide +kernel)
set_option maxRecDepth 20000 in
theorem wd_447 : (.code ⟨"java/lang/IllegalStateException", "<init>", "(Ljava/lang/String;)V"⟩ prog_11_method_2_code 2 none : Cond) ∈ lw_all := in_all 447 (by decide +kernel) (by decide +kernel)
set_option maxRecDepth 20000 in
theorem wd_448 : (.methodLink "java/lang/IllegalStateException" 7 ⟨"java/lang/RuntimeException", "<init>", "(Ljava/lang/String;)V"⟩ : Cond) ∈ lw_all := in_all 448 (by decide +kernel) (by decide +kernel)
set_option maxRecDepth 20000 in
theorem wd_451 : (.methodLink RX5 76 yX0_add : Cond) ∈ lw_all := in_all 451 (by decide +kernel) (by decide +kernel)
set_option maxRecDepth 20000 in
theorem wd_452 : (.instanceMethod yX0_add : Cond) ∈ lw_all := in_all 452 (by decide +kernel) (by decide +kernel)
set_option maxRecDepth 20000 in
theorem wd_453 : (.selects RX0 yX0_add yX0_add : Cond) ∈ lw_all := in_all 453 (by decide +kernel) (by decide +kernel)
set_option maxRecDepth 20000 in
theorem wd_454 : (.code yX0_add cX0_add 5 (some .int) : Cond) ∈ lw_all := in_all 454 (by decide +kernel) (by decide +kernel)
set_option maxRecDepth 20000 in
theorem wd_455 : (.methodLink RX0 39 yX0_setCell : Cond) ∈ lw_all := in_all 455 (by decide +kernel) (by decide +kernel)
set_option maxRecDepth 20000 in
theorem wd_457 : (.instanceMethod yX0_setCell : Cond) ∈ lw_all := in_all 457 (by decide +kernel) (by decide +kernel)
set_option maxRecDepth 20000 in
theorem wd_458 : (.code yX0_setCell cX0_setCell 4 none : Cond) ∈ lw_all := in_all 458 (by decide +kernel) (by decide +kernel)
set_option maxRecDepth 20000 in
theorem wd_459 : (.methodLink RL 106 yL_write : Cond) ∈ lw_all := in_all 459 (by decide +kernel) (by decide +kernel)
set_option maxRecDepth 20000 in
theorem wd_460 : (.static yL_write : Cond) ∈ lw_all := in_all 460 (by decide +kernel) (by decide +kernel)
set_option maxRecDepth 20000 in
theorem wd_462 : (.methodLink RL 26 yX5_write : Cond) ∈ lw_all := in_all 462 (by decide +kernel) (by decide +kernel)
set_option maxRecDepth 20000 in
theorem wd_463 : (.instanceMethod yX5_write : Cond) ∈ lw_all := in_all 463 (by decide +kernel) (by decide +kernel)
set_option maxRecDepth 20000 in
theorem wd_464 : (.selects RX5 yX5_write yX5_write : Cond) ∈ lw_all := in_all 464 (by decide +kernel) (by decide +kernel)
set_option maxRecDepth 20000 in
theorem wd_465 : (.code yX5_write cX5_write 3 (some .int) : Cond) ∈ lw_all := in_all 465 (by decide +kernel) (by decide +kernel)
set_option maxRecDepth 20000 in
theorem wd_466 : (.methodLink RX5 81 yX5_faultOfWriting : Cond) ∈ lw_all := in_all 466 (by decide +kernel) (by decide +kernel)
set_option maxRecDepth 20000 in
theorem wd_468 : (.instanceMethod yX5_faultOfWriting : Cond) ∈ lw_all := in_all 468 (by decide +kernel) (by decide +kernel)
set_option maxRecDepth 20000 in
theorem wd_469 : (.code yX5_faultOfWriting cX5_faultOfWriting 4 (some .int) : Cond) ∈ lw_all := in_all 469 (by decide +kernel) (by decide +kernel)
set_option maxRecDepth 20000 in
theorem wd_470 : (.methodLink RX5 84 yX0_cellOf : Cond) ∈ lw_all := in_all 470 (by decide +kernel) (by decide +kernel)
set_option maxRecDepth 20000 in
theorem wd_471 : (.instanceMethod yX0_cellOf : Cond) ∈ lw_all := in_all 471 (by decide +kernel) (by decide +kernel)
set_option maxRecDepth 20000 in
theorem wd_472 : (.selects RX0 yX0_cellOf yX0_cellOf : Cond) ∈ lw_all := in_all 472 (by decide +kernel) (by decide +kernel)
set_option maxRecDepth 20000 in
theorem wd_473 : (.code yX0_cellOf cX0_cellOf 4 (some .int) : Cond) ∈ lw_all := in_all 473 (by decide +kernel) (by decide +kernel)
set_option maxRecDepth 20000 in
theorem wd_474 : (.methodLink RX5 168 yX0_kindAt : Cond) ∈ lw_all := in_all 474 (by decide +kernel) (by decide +kernel)
set_option maxRecDepth 20000 in
theorem wd_475 : (.methodLink RX5 87 yX0_makeWritten : Cond) ∈ lw_all := in_all 475 (by decide +kernel) (by decide +kernel)
set_option maxRecDepth 20000 in
theorem wd_476 : (.instanceMethod yX0_makeWritten : Cond) ∈ lw_all := in_all 476 (by decide +kernel) (by decide +kernel)
set_option maxRecDepth 20000 in
theorem wd_477 : (.selects RX0 yX0_makeWritten yX0_makeWritten : Cond) ∈ lw_all := in_all 477 (by decide +kernel) (by decide +kernel)
set_option maxRecDepth 20000 in
theorem wd_478 : (.code yX0_makeWritten cX0_makeWritten 3 none : Cond) ∈ lw_all := in_all 478 (by decide +kernel) (by decide +kernel)
set_option maxRecDepth 20000 in
theorem wd_479 : (.methodLink RX5 90 yX2_letterOf : Cond) ∈ lw_all := in_all 479 (by decide +kernel) (by decide +kernel)
set_option maxRecDepth 20000 in
theorem wd_480 : (.instanceMethod yX2_letterOf : Cond) ∈ lw_all := in_all 480 (by decide +kernel) (by decide +kernel)
set_option maxRecDepth 20000 in
theorem wd_481 : (.selects RX2 yX2_letterOf yX2_letterOf : Cond) ∈ lw_all := in_all 481 (by decide +kernel) (by decide +kernel)
set_option maxRecDepth 20000 in
theorem wd_482 : (.code yX2_letterOf cX2_letterOf 5 (some .int) : Cond) ∈ lw_all := in_all 482 (by decide +kernel) (by decide +kernel)
set_option maxRecDepth 20000 in
theorem wd_483 : (.methodLink RX2 23 yX2_weightAt : Cond) ∈ lw_all := in_all 483 (by decide +kernel) (by decide +kernel)
set_option maxRecDepth 20000 in
theorem wd_484 : (.methodLink RX2 27 yX2_restOf : Cond) ∈ lw_all := in_all 484 (by decide +kernel) (by decide +kernel)
set_option maxRecDepth 20000 in
theorem wd_486 : (.instanceMethod yX2_restOf : Cond) ∈ lw_all := in_all 486 (by decide +kernel) (by decide +kernel)
set_option maxRecDepth 20000 in
theorem wd_487 : (.code yX2_restOf cX2_restOf 3 (some .int) : Cond) ∈ lw_all := in_all 487 (by decide +kernel) (by decide +kernel)
set_option maxRecDepth 20000 in
theorem wd_488 : (.methodLink RL 109 yL_cash : Cond) ∈ lw_all := in_all 488 (by decide +kernel) (by decide +kernel)
set_option maxRecDepth 20000 in
theorem wd_489 : (.static yL_cash : Cond) ∈ lw_all := in_all 489 (by decide +kernel) (by decide +kernel)
set_option maxRecDepth 20000 in
theorem wd_491 : (.methodLink RL 29 yX5_cash : Cond) ∈ lw_all := in_all 491 (by decide +kernel) (by decide +kernel)
set_option maxRecDepth 20000 in
theorem wd_492 : (.instanceMethod yX5_cash : Cond) ∈ lw_all := in_all 492 (by decide +kernel) (by decide +kernel)
set_option maxRecDepth 20000 in
theorem wd_493 : (.selects RX5 yX5_cash yX5_cash : Cond) ∈ lw_all := in_all 493 (by decide +kernel) (by decide +kernel)
set_option maxRecDepth 20000 in
theorem wd_494 : (.code yX5_cash cX5_cash 3 (some .int) : Cond) ∈ lw_all := in_all 494 (by decide +kernel) (by decide +kernel)
set_option maxRecDepth 20000 in
theorem wd_495 : (.methodLink RX5 93 yX5_throwIfNoSerial : Cond) ∈ lw_all := in_all 495 (by decide +kernel) (by decide +kernel)
set_option maxRecDepth 20000 in
theorem wd_496 : (.static yX5_throwIfNoSerial : Cond) ∈ lw_all := in_all 496 (by decide +kernel) (by decide +kernel)
set_option maxRecDepth 20000 in
theorem wd_497 : (.code yX5_throwIfNoSerial cX5_throwIfNoSerial 1 none : Cond) ∈ lw_all := in_all 497 (by decide +kernel) (by decide +kernel)
set_option maxRecDepth 20000 in
theorem wd_499 : (.methodLink RX5 96 yX5_throwIfNoLetter : Cond) ∈ lw_all := in_all 499 (by decide +kernel) (by decide +kernel)
set_option maxRecDepth 20000 in
theorem wd_500 : (.static yX5_throwIfNoLetter : Cond) ∈ lw_all := in_all 500 (by decide +kernel) (by decide +kernel)
set_option maxRecDepth 20000 in
theorem wd_501 : (.code yX5_throwIfNoLetter cX5_throwIfNoLetter 1 none : Cond) ∈ lw_all := in_all 501 (by decide +kernel) (by decide +kernel)
set_option maxRecDepth 20000 in
theorem wd_503 : (.methodLink RX5 99 yX4_cashByReading : Cond) ∈ lw_all := in_all 503 (by decide +kernel) (by decide +kernel)
set_option maxRecDepth 20000 in
theorem wd_504 : (.instanceMethod yX4_cashByReading : Cond) ∈ lw_all := in_all 504 (by decide +kernel) (by decide +kernel)
set_option maxRecDepth 20000 in
theorem wd_505 : (.selects RX4 yX4_cashByReading yX4_cashByReading : Cond) ∈ lw_all := in_all 505 (by decide +kernel) (by decide +kernel)
set_option maxRecDepth 20000 in
theorem wd_506 : (.code yX4_cashByReading cX4_cashByReading 5 (some .int) : Cond) ∈ lw_all := in_all 506 (by decide +kernel) (by decide +kernel)
set_option maxRecDepth 20000 in
theorem wd_507 : (.methodLink RX4 36 yX4_reasonAgainstCashing : Cond) ∈ lw_all := in_all 507 (by decide +kernel) (by decide +kernel)
set_option maxRecDepth 20000 in
theorem wd_509 : (.instanceMethod yX4_reasonAgainstCashing : Cond) ∈ lw_all := in_all 509 (by decide +kernel) (by decide +kernel)
set_option maxRecDepth 20000 in
theorem wd_510 : (.code yX4_reasonAgainstCashing cX4_reasonAgainstCashing 4 (some .int) : Cond) ∈ lw_all := in_all 510 (by decide +kernel) (by decide +kernel)
set_option maxRecDepth 20000 in
theorem wd_511 : (.methodLink RX4 51 yX2_letterOf : Cond) ∈ lw_all := in_all 511 (by decide +kernel) (by decide +kernel)
set_option maxRecDepth 20000 in
theorem wd_512 : (.methodLink RX4 40 yX0_cellOf : Cond) ∈ lw_all := in_all 512 (by decide +kernel) (by decide +kernel)
set_option maxRecDepth 20000 in
theorem wd_513 : (.methodLink RX4 54 yX0_kindAt : Cond) ∈ lw_all := in_all 513 (by decide +kernel) (by decide +kernel)
set_option maxRecDepth 20000 in
theorem wd_514 : (.methodLink RX4 44 yX0_makeCashed : Cond) ∈ lw_all := in_all 514 (by decide +kernel) (by decide +kernel)
set_option maxRecDepth 20000 in
theorem wd_515 : (.instanceMethod yX0_makeCashed : Cond) ∈ lw_all := in_all 515 (by decide +kernel) (by decide +kernel)
set_option maxRecDepth 20000 in
theorem wd_516 : (.selects RX0 yX0_makeCashed yX0_makeCashed : Cond) ∈ lw_all := in_all 516 (by decide +kernel) (by decide +kernel)
set_option maxRecDepth 20000 in
theorem wd_517 : (.code yX0_makeCashed cX0_makeCashed 2 none : Cond) ∈ lw_all := in_all 517 (by decide +kernel) (by decide +kernel)
set_option maxRecDepth 20000 in
theorem wd_518 : (.methodLink RX4 48 yX0_amountAt : Cond) ∈ lw_all := in_all 518 (by decide +kernel) (by decide +kernel)
set_option maxRecDepth 20000 in
theorem wd_519 : (.methodLink RL 112 yL_voidRun : Cond) ∈ lw_all := in_all 519 (by decide +kernel) (by decide +kernel)
set_option maxRecDepth 20000 in
theorem wd_520 : (.static yL_voidRun : Cond) ∈ lw_all := in_all 520 (by decide +kernel) (by decide +kernel)
set_option maxRecDepth 20000 in
theorem wd_522 : (.methodLink RL 32 yX5_voidRun : Cond) ∈ lw_all := in_all 522 (by decide +kernel) (by decide +kernel)
set_option maxRecDepth 20000 in
theorem wd_523 : (.instanceMethod yX5_voidRun : Cond) ∈ lw_all := in_all 523 (by decide +kernel) (by decide +kernel)
set_option maxRecDepth 20000 in
theorem wd_524 : (.selects RX5 yX5_voidRun yX5_voidRun : Cond) ∈ lw_all := in_all 524 (by decide +kernel) (by decide +kernel)
set_option maxRecDepth 20000 in
theorem wd_525 : (.code yX5_voidRun cX5_voidRun 3 (some .int) : Cond) ∈ lw_all := in_all 525 (by decide +kernel) (by decide +kernel)
set_option maxRecDepth 20000 in
theorem wd_526 : (.methodLink RX5 102 yX5_faultOfRun : Cond) ∈ lw_all := in_all 526 (by decide +kernel) (by decide +kernel)
set_option maxRecDepth 20000 in
theorem wd_527 : (.static yX5_faultOfRun : Cond) ∈ lw_all := in_all 527 (by decide +kernel) (by decide +kernel)
set_option maxRecDepth 20000 in
theorem wd_528 : (.code yX5_faultOfRun cX5_faultOfRun 2 (some .int) : Cond) ∈ lw_all := in_all 528 (by decide +kernel) (by decide +kernel)
set_option maxRecDepth 20000 in
theorem wd_529 : (.methodLink RX5 105 yX0_makeRunVoid : Cond) ∈ lw_all := in_all 529 (by decide +kernel) (by decide +kernel)
set_option maxRecDepth 20000 in
theorem wd_530 : (.instanceMethod yX0_makeRunVoid : Cond) ∈ lw_all := in_all 530 (by decide +kernel) (by decide +kernel)
set_option maxRecDepth 20000 in
theorem wd_531 : (.selects RX0 yX0_makeRunVoid yX0_makeRunVoid : Cond) ∈ lw_all := in_all 531 (by decide +kernel) (by decide +kernel)
set_option maxRecDepth 20000 in
theorem wd_532 : (.code yX0_makeRunVoid cX0_makeRunVoid 8 (some .int) : Cond) ∈ lw_all := in_all 532 (by decide +kernel) (by decide +kernel)
set_option maxRecDepth 20000 in
theorem wd_533 : (.methodLink RX0 46 Lib.Math.min.name : Cond) ∈ lw_all := in_all 533 (by decide +kernel) (by decide +kernel)
set_option maxRecDepth 20000 in
theorem wd_534 : (.static Lib.Math.min.name : Cond) ∈ lw_all := in_all 534 (by decide +kernel) (by decide +kernel)
set_option maxRecDepth 20000 in
theorem wd_535 : (.code Lib.Math.min.name Lib.Math.min.code 2 (some .int) : Cond) ∈ lw_all := in_all 535 (by decide +kernel) (by decide +kernel)
set_option maxRecDepth 20000 in
theorem wd_536 : (.methodLink RX0 52 Lib.Math.max.name : Cond) ∈ lw_all := in_all 536 (by decide +kernel) (by decide +kernel)
set_option maxRecDepth 20000 in
theorem wd_537 : (.static Lib.Math.max.name : Cond) ∈ lw_all := in_all 537 (by decide +kernel) (by decide +kernel)
set_option maxRecDepth 20000 in
theorem wd_538 : (.code Lib.Math.max.name Lib.Math.max.code 2 (some .int) : Cond) ∈ lw_all := in_all 538 (by decide +kernel) (by decide +kernel)
set_option maxRecDepth 20000 in
theorem wd_539 : (.methodLink RX0 55 yX0_makeVoid : Cond) ∈ lw_all := in_all 539 (by decide +kernel) (by decide +kernel)
set_option maxRecDepth 20000 in
theorem wd_541 : (.instanceMethod yX0_makeVoid : Cond) ∈ lw_all := in_all 541 (by decide +kernel) (by decide +kernel)
set_option maxRecDepth 20000 in
theorem wd_542 : (.code yX0_makeVoid cX0_makeVoid 3 (some .int) : Cond) ∈ lw_all := in_all 542 (by decide +kernel) (by decide +kernel)
set_option maxRecDepth 20000 in
theorem wd_543 : (.methodLink RL 115 yL_append : Cond) ∈ lw_all := in_all 543 (by decide +kernel) (by decide +kernel)
set_option maxRecDepth 20000 in
theorem wd_544 : (.static yL_append : Cond) ∈ lw_all := in_all 544 (by decide +kernel) (by decide +kernel)
set_option maxRecDepth 20000 in
theorem wd_546 : (.methodLink RL 35 yX5_append : Cond) ∈ lw_all := in_all 546 (by decide +kernel) (by decide +kernel)
set_option maxRecDepth 20000 in
theorem wd_547 : (.instanceMethod yX5_append : Cond) ∈ lw_all := in_all 547 (by decide +kernel) (by decide +kernel)
set_option maxRecDepth 20000 in
theorem wd_548 : (.selects RX5 yX5_append yX5_append : Cond) ∈ lw_all := in_all 548 (by decide +kernel) (by decide +kernel)
set_option maxRecDepth 20000 in
theorem wd_549 : (.code yX5_append cX5_append 2 (some .int) : Cond) ∈ lw_all := in_all 549 (by decide +kernel) (by decide +kernel)
set_option maxRecDepth 20000 in
theorem wd_551 : (.methodLink RX5 110 yX3_isFull : Cond) ∈ lw_all := in_all 551 (by decide +kernel) (by decide +kernel)
set_option maxRecDepth 20000 in
theorem wd_552 : (.instanceMethod yX3_isFull : Cond) ∈ lw_all := in_all 552 (by decide +kernel) (by decide +kernel)
set_option maxRecDepth 20000 in
theorem wd_553 : (.selects RX3 yX3_isFull yX3_isFull : Cond) ∈ lw_all := in_all 553 (by decide +kernel) (by decide +kernel)
set_option maxRecDepth 20000 in
theorem wd_554 : (.code yX3_isFull cX3_isFull 1 (some .boolean) : Cond) ∈ lw_all := in_all 554 (by decide +kernel) (by decide +kernel)
set_option maxRecDepth 20000 in
theorem wd_556 : (.methodLink RX5 119 yX3_add : Cond) ∈ lw_all := in_all 556 (by decide +kernel) (by decide +kernel)
set_option maxRecDepth 20000 in
theorem wd_557 : (.instanceMethod yX3_add : Cond) ∈ lw_all := in_all 557 (by decide +kernel) (by decide +kernel)
set_option maxRecDepth 20000 in
theorem wd_558 : (.selects RX3 yX3_add yX3_add : Cond) ∈ lw_all := in_all 558 (by decide +kernel) (by decide +kernel)
set_option maxRecDepth 20000 in
theorem wd_559 : (.code yX3_add cX3_add 2 (some .int) : Cond) ∈ lw_all := in_all 559 (by decide +kernel) (by decide +kernel)
set_option maxRecDepth 20000 in
theorem wd_560 : (.methodLink RL 126 yL_execute : Cond) ∈ lw_all := in_all 560 (by decide +kernel) (by decide +kernel)
set_option maxRecDepth 20000 in
theorem wd_561 : (.static yL_execute : Cond) ∈ lw_all := in_all 561 (by decide +kernel) (by decide +kernel)
set_option maxRecDepth 20000 in
theorem wd_563 : (.methodLink RL 38 yX5_execute : Cond) ∈ lw_all := in_all 563 (by decide +kernel) (by decide +kernel)
set_option maxRecDepth 20000 in
theorem wd_564 : (.instanceMethod yX5_execute : Cond) ∈ lw_all := in_all 564 (by decide +kernel) (by decide +kernel)
set_option maxRecDepth 20000 in
theorem wd_565 : (.selects RX5 yX5_execute yX5_execute : Cond) ∈ lw_all := in_all 565 (by decide +kernel) (by decide +kernel)
set_option maxRecDepth 20000 in
theorem wd_566 : (.code yX5_execute cX5_execute 2 (some .int) : Cond) ∈ lw_all := in_all 566 (by decide +kernel) (by decide +kernel)
set_option maxRecDepth 20000 in
theorem wd_567 : (.methodLink RX5 128 yX3_isComplete : Cond) ∈ lw_all := in_all 567 (by decide +kernel) (by decide +kernel)
set_option maxRecDepth 20000 in
theorem wd_568 : (.instanceMethod yX3_isComplete : Cond) ∈ lw_all := in_all 568 (by decide +kernel) (by decide +kernel)
set_option maxRecDepth 20000 in
theorem wd_569 : (.selects RX3 yX3_isComplete yX3_isComplete : Cond) ∈ lw_all := in_all 569 (by decide +kernel) (by decide +kernel)
set_option maxRecDepth 20000 in
theorem wd_570 : (.code yX3_isComplete cX3_isComplete 3 (some .boolean) : Cond) ∈ lw_all := in_all 570 (by decide +kernel) (by decide +kernel)
set_option maxRecDepth 20000 in
theorem wd_571 : (.methodLink RX3 27 yX3_errorIndex : Cond) ∈ lw_all := in_all 571 (by decide +kernel) (by decide +kernel)
set_option maxRecDepth 20000 in
theorem wd_573 : (.methodLink RX5 133 yX5_runOrders : Cond) ∈ lw_all := in_all 573 (by decide +kernel) (by decide +kernel)
set_option maxRecDepth 20000 in
theorem wd_575 : (.instanceMethod yX5_runOrders : Cond) ∈ lw_all := in_all 575 (by decide +kernel) (by decide +kernel)
set_option maxRecDepth 20000 in
theorem wd_576 : (.code yX5_runOrders cX5_runOrders 5 (some .int) : Cond) ∈ lw_all := in_all 576 (by decide +kernel) (by decide +kernel)
set_option maxRecDepth 20000 in
theorem wd_577 : (.methodLink RX5 264 yX3_signAt : Cond) ∈ lw_all := in_all 577 (by decide +kernel) (by decide +kernel)
set_option maxRecDepth 20000 in
theorem wd_578 : (.methodLink RX5 267 yX5_runOrder : Cond) ∈ lw_all := in_all 578 (by decide +kernel) (by decide +kernel)
set_option maxRecDepth 20000 in
theorem wd_580 : (.instanceMethod yX5_runOrder : Cond) ∈ lw_all := in_all 580 (by decide +kernel) (by decide +kernel)
set_option maxRecDepth 20000 in
theorem wd_581 : (.code yX5_runOrder cX5_runOrder 5 (some .boolean) : Cond) ∈ lw_all := in_all 581 (by decide +kernel) (by decide +kernel)
set_option maxRecDepth 20000 in
theorem wd_582 : (.methodLink RX5 270 yX3_numberIn : Cond) ∈ lw_all := in_all 582 (by decide +kernel) (by decide +kernel)
set_option maxRecDepth 20000 in
theorem wd_583 : (.methodLink RX5 273 yX5_runBook : Cond) ∈ lw_all := in_all 583 (by decide +kernel) (by decide +kernel)
set_option maxRecDepth 20000 in
theorem wd_585 : (.instanceMethod yX5_runBook : Cond) ∈ lw_all := in_all 585 (by decide +kernel) (by decide +kernel)
set_option maxRecDepth 20000 in
theorem wd_586 : (.code yX5_runBook cX5_runBook 3 (some .boolean) : Cond) ∈ lw_all := in_all 586 (by decide +kernel) (by decide +kernel)
set_option maxRecDepth 20000 in
theorem wd_587 : (.methodLink RX5 276 yX5_runWriting : Cond) ∈ lw_all := in_all 587 (by decide +kernel) (by decide +kernel)
set_option maxRecDepth 20000 in
theorem wd_589 : (.instanceMethod yX5_runWriting : Cond) ∈ lw_all := in_all 589 (by decide +kernel) (by decide +kernel)
set_option maxRecDepth 20000 in
theorem wd_590 : (.code yX5_runWriting cX5_runWriting 3 (some .boolean) : Cond) ∈ lw_all := in_all 590 (by decide +kernel) (by decide +kernel)
set_option maxRecDepth 20000 in
theorem wd_591 : (.methodLink RX5 279 yX5_runVoiding : Cond) ∈ lw_all := in_all 591 (by decide +kernel) (by decide +kernel)
set_option maxRecDepth 20000 in
theorem wd_593 : (.instanceMethod yX5_runVoiding : Cond) ∈ lw_all := in_all 593 (by decide +kernel) (by decide +kernel)
set_option maxRecDepth 20000 in
theorem wd_594 : (.code yX5_runVoiding cX5_runVoiding 3 (some .boolean) : Cond) ∈ lw_all := in_all 594 (by decide +kernel) (by decide +kernel)
set_option maxRecDepth 20000 in
theorem wd_595 : (.methodLink RL 130 yL_undo : Cond) ∈ lw_all := in_all 595 (by decide +kernel) (by decide +kernel)
set_option maxRecDepth 20000 in
theorem wd_596 : (.static yL_undo : Cond) ∈ lw_all := in_all 596 (by decide +kernel) (by decide +kernel)
set_option maxRecDepth 20000 in
theorem wd_598 : (.methodLink RL 42 yX5_undo : Cond) ∈ lw_all := in_all 598 (by decide +kernel) (by decide +kernel)
set_option maxRecDepth 20000 in
theorem wd_599 : (.instanceMethod yX5_undo : Cond) ∈ lw_all := in_all 599 (by decide +kernel) (by decide +kernel)
set_option maxRecDepth 20000 in
theorem wd_600 : (.selects RX5 yX5_undo yX5_undo : Cond) ∈ lw_all := in_all 600 (by decide +kernel) (by decide +kernel)
set_option maxRecDepth 20000 in
theorem wd_601 : (.code yX5_undo cX5_undo 1 (some .int) : Cond) ∈ lw_all := in_all 601 (by decide +kernel) (by decide +kernel)
set_option maxRecDepth 20000 in
theorem wd_603 : (.methodLink RX5 141 yX1_restoreLast : Cond) ∈ lw_all := in_all 603 (by decide +kernel) (by decide +kernel)
set_option maxRecDepth 20000 in
theorem wd_604 : (.instanceMethod yX1_restoreLast : Cond) ∈ lw_all := in_all 604 (by decide +kernel) (by decide +kernel)
set_option maxRecDepth 20000 in
theorem wd_605 : (.selects RX1 yX1_restoreLast yX1_restoreLast : Cond) ∈ lw_all := in_all 605 (by decide +kernel) (by decide +kernel)
set_option maxRecDepth 20000 in
theorem wd_606 : (.code yX1_restoreLast cX1_restoreLast 3 none : Cond) ∈ lw_all := in_all 606 (by decide +kernel) (by decide +kernel)
set_option maxRecDepth 20000 in
theorem wd_607 : (.methodLink RL 133 yL_keep : Cond) ∈ lw_all := in_all 607 (by decide +kernel) (by decide +kernel)
set_option maxRecDepth 20000 in
theorem wd_608 : (.static yL_keep : Cond) ∈ lw_all := in_all 608 (by decide +kernel) (by decide +kernel)
set_option maxRecDepth 20000 in
theorem wd_610 : (.methodLink RL 45 yX5_keep : Cond) ∈ lw_all := in_all 610 (by decide +kernel) (by decide +kernel)
set_option maxRecDepth 20000 in
theorem wd_611 : (.instanceMethod yX5_keep : Cond) ∈ lw_all := in_all 611 (by decide +kernel) (by decide +kernel)
set_option maxRecDepth 20000 in
theorem wd_612 : (.selects RX5 yX5_keep yX5_keep : Cond) ∈ lw_all := in_all 612 (by decide +kernel) (by decide +kernel)
set_option maxRecDepth 20000 in
theorem wd_613 : (.code yX5_keep cX5_keep 2 (some .int) : Cond) ∈ lw_all := in_all 613 (by decide +kernel) (by decide +kernel)
set_option maxRecDepth 20000 in
theorem wd_614 : (.methodLink RX5 144 yX5_throwIfNoSlot : Cond) ∈ lw_all := in_all 614 (by decide +kernel) (by decide +kernel)
set_option maxRecDepth 20000 in
theorem wd_615 : (.static yX5_throwIfNoSlot : Cond) ∈ lw_all := in_all 615 (by decide +kernel) (by decide +kernel)
set_option maxRecDepth 20000 in
theorem wd_616 : (.code yX5_throwIfNoSlot cX5_throwIfNoSlot 1 none : Cond) ∈ lw_all := in_all 616 (by decide +kernel) (by decide +kernel)
set_option maxRecDepth 20000 in
theorem wd_618 : (.methodLink RX5 147 yX1_putIntoSlot : Cond) ∈ lw_all := in_all 618 (by decide +kernel) (by decide +kernel)
set_option maxRecDepth 20000 in
theorem wd_619 : (.instanceMethod yX1_putIntoSlot : Cond) ∈ lw_all := in_all 619 (by decide +kernel) (by decide +kernel)
set_option maxRecDepth 20000 in
theorem wd_620 : (.selects RX1 yX1_putIntoSlot yX1_putIntoSlot : Cond) ∈ lw_all := in_all 620 (by decide +kernel) (by decide +kernel)
set_option maxRecDepth 20000 in
theorem wd_621 : (.code yX1_putIntoSlot cX1_putIntoSlot 3 none : Cond) ∈ lw_all := in_all 621 (by decide +kernel) (by decide +kernel)
set_option maxRecDepth 20000 in
theorem wd_622 : (.methodLink RL 136 yL_goBack : Cond) ∈ lw_all := in_all 622 (by decide +kernel) (by decide +kernel)
set_option maxRecDepth 20000 in
theorem wd_623 : (.static yL_goBack : Cond) ∈ lw_all := in_all 623 (by decide +kernel) (by decide +kernel)
set_option maxRecDepth 20000 in
theorem wd_625 : (.methodLink RL 48 yX5_goBack : Cond) ∈ lw_all := in_all 625 (by decide +kernel) (by decide +kernel)
set_option maxRecDepth 20000 in
theorem wd_626 : (.instanceMethod yX5_goBack : Cond) ∈ lw_all := in_all 626 (by decide +kernel) (by decide +kernel)
set_option maxRecDepth 20000 in
theorem wd_627 : (.selects RX5 yX5_goBack yX5_goBack : Cond) ∈ lw_all := in_all 627 (by decide +kernel) (by decide +kernel)
set_option maxRecDepth 20000 in
theorem wd_628 : (.code yX5_goBack cX5_goBack 2 (some .int) : Cond) ∈ lw_all := in_all 628 (by decide +kernel) (by decide +kernel)
set_option maxRecDepth 20000 in
theorem wd_629 : (.methodLink RX5 154 yX1_isSlotFilled : Cond) ∈ lw_all := in_all 629 (by decide +kernel) (by decide +kernel)
set_option maxRecDepth 20000 in
theorem wd_630 : (.instanceMethod yX1_isSlotFilled : Cond) ∈ lw_all := in_all 630 (by decide +kernel) (by decide +kernel)
set_option maxRecDepth 20000 in
theorem wd_631 : (.selects RX1 yX1_isSlotFilled yX1_isSlotFilled : Cond) ∈ lw_all := in_all 631 (by decide +kernel) (by decide +kernel)
set_option maxRecDepth 20000 in
theorem wd_632 : (.code yX1_isSlotFilled cX1_isSlotFilled 2 (some .boolean) : Cond) ∈ lw_all := in_all 632 (by decide +kernel) (by decide +kernel)
set_option maxRecDepth 20000 in
theorem wd_634 : (.methodLink RX5 160 yX1_restoreSlot : Cond) ∈ lw_all := in_all 634 (by decide +kernel) (by decide +kernel)
set_option maxRecDepth 20000 in
theorem wd_635 : (.instanceMethod yX1_restoreSlot : Cond) ∈ lw_all := in_all 635 (by decide +kernel) (by decide +kernel)
set_option maxRecDepth 20000 in
theorem wd_636 : (.selects RX1 yX1_restoreSlot yX1_restoreSlot : Cond) ∈ lw_all := in_all 636 (by decide +kernel) (by decide +kernel)
set_option maxRecDepth 20000 in
theorem wd_637 : (.code yX1_restoreSlot cX1_restoreSlot 3 none : Cond) ∈ lw_all := in_all 637 (by decide +kernel) (by decide +kernel)
set_option maxRecDepth 20000 in
theorem wd_638 : (.methodLink RL 139 yL_letter : Cond) ∈ lw_all := in_all 638 (by decide +kernel) (by decide +kernel)
set_option maxRecDepth 20000 in
theorem wd_639 : (.static yL_letter : Cond) ∈ lw_all := in_all 639 (by decide +kernel) (by decide +kernel)
set_option maxRecDepth 20000 in
theorem wd_641 : (.methodLink RL 51 yX5_letter : Cond) ∈ lw_all := in_all 641 (by decide +kernel) (by decide +kernel)
set_option maxRecDepth 20000 in
theorem wd_642 : (.instanceMethod yX5_letter : Cond) ∈ lw_all := in_all 642 (by decide +kernel) (by decide +kernel)
set_option maxRecDepth 20000 in
theorem wd_643 : (.selects RX5 yX5_letter yX5_letter : Cond) ∈ lw_all := in_all 643 (by decide +kernel) (by decide +kernel)
set_option maxRecDepth 20000 in
theorem wd_644 : (.code yX5_letter cX5_letter 2 (some .int) : Cond) ∈ lw_all := in_all 644 (by decide +kernel) (by decide +kernel)
set_option maxRecDepth 20000 in
theorem wd_645 : (.methodLink RL 142 yL_cheque : Cond) ∈ lw_all := in_all 645 (by decide +kernel) (by decide +kernel)
set_option maxRecDepth 20000 in
theorem wd_646 : (.static yL_cheque : Cond) ∈ lw_all := in_all 646 (by decide +kernel) (by decide +kernel)
set_option maxRecDepth 20000 in
theorem wd_648 : (.methodLink RL 54 yX5_cheque : Cond) ∈ lw_all := in_all 648 (by decide +kernel) (by decide +kernel)
set_option maxRecDepth 20000 in
theorem wd_649 : (.instanceMethod yX5_cheque : Cond) ∈ lw_all := in_all 649 (by decide +kernel) (by decide +kernel)
set_option maxRecDepth 20000 in
theorem wd_650 : (.selects RX5 yX5_cheque yX5_cheque : Cond) ∈ lw_all := in_all 650 (by decide +kernel) (by decide +kernel)
set_option maxRecDepth 20000 in
theorem wd_651 : (.code yX5_cheque cX5_cheque 4 (some .int) : Cond) ∈ lw_all := in_all 651 (by decide +kernel) (by decide +kernel)
set_option maxRecDepth 20000 in
theorem wd_653 : (.methodLink RX5 171 yX0_amountAt : Cond) ∈ lw_all := in_all 653 (by decide +kernel) (by decide +kernel)
set_option maxRecDepth 20000 in
theorem wd_654 : (.methodLink RX5 174 yX0_sameKindFrom : Cond) ∈ lw_all := in_all 654 (by decide +kernel) (by decide +kernel)
set_option maxRecDepth 20000 in
theorem wd_655 : (.instanceMethod yX0_sameKindFrom : Cond) ∈ lw_all := in_all 655 (by decide +kernel) (by decide +kernel)
set_option maxRecDepth 20000 in
theorem wd_656 : (.selects RX0 yX0_sameKindFrom yX0_sameKindFrom : Cond) ∈ lw_all := in_all 656 (by decide +kernel) (by decide +kernel)
set_option maxRecDepth 20000 in
theorem wd_657 : (.code yX0_sameKindFrom cX0_sameKindFrom 7 (some .int) : Cond) ∈ lw_all := in_all 657 (by decide +kernel) (by decide +kernel)
set_option maxRecDepth 20000 in
theorem wd_659 : (.methodLink RL 145 yL_bookOf : Cond) ∈ lw_all := in_all 659 (by decide +kernel) (by decide +kernel)
set_option maxRecDepth 20000 in
theorem wd_660 : (.static yL_bookOf : Cond) ∈ lw_all := in_all 660 (by decide +kernel) (by decide +kernel)
set_option maxRecDepth 20000 in
theorem wd_662 : (.methodLink RL 57 yX5_bookOf : Cond) ∈ lw_all := in_all 662 (by decide +kernel) (by decide +kernel)
set_option maxRecDepth 20000 in
theorem wd_663 : (.instanceMethod yX5_bookOf : Cond) ∈ lw_all := in_all 663 (by decide +kernel) (by decide +kernel)
set_option maxRecDepth 20000 in
theorem wd_664 : (.selects RX5 yX5_bookOf yX5_bookOf : Cond) ∈ lw_all := in_all 664 (by decide +kernel) (by decide +kernel)
set_option maxRecDepth 20000 in
theorem wd_665 : (.code yX5_bookOf cX5_bookOf 3 (some .int) : Cond) ∈ lw_all := in_all 665 (by decide +kernel) (by decide +kernel)
set_option maxRecDepth 20000 in
theorem wd_668 : (.methodLink RX5 183 yX0_numberOf : Cond) ∈ lw_all := in_all 668 (by decide +kernel) (by decide +kernel)
set_option maxRecDepth 20000 in
theorem wd_669 : (.methodLink RL 148 yL_count : Cond) ∈ lw_all := in_all 669 (by decide +kernel) (by decide +kernel)
set_option maxRecDepth 20000 in
theorem wd_670 : (.static yL_count : Cond) ∈ lw_all := in_all 670 (by decide +kernel) (by decide +kernel)
set_option maxRecDepth 20000 in
theorem wd_672 : (.methodLink RL 60 yX5_count : Cond) ∈ lw_all := in_all 672 (by decide +kernel) (by decide +kernel)
set_option maxRecDepth 20000 in
theorem wd_673 : (.instanceMethod yX5_count : Cond) ∈ lw_all := in_all 673 (by decide +kernel) (by decide +kernel)
set_option maxRecDepth 20000 in
theorem wd_674 : (.selects RX5 yX5_count yX5_count : Cond) ∈ lw_all := in_all 674 (by decide +kernel) (by decide +kernel)
set_option maxRecDepth 20000 in
theorem wd_675 : (.code yX5_count cX5_count 2 (some .int) : Cond) ∈ lw_all := in_all 675 (by decide +kernel) (by decide +kernel)
set_option maxRecDepth 20000 in
theorem wd_677 : (.methodLink RL 151 yL_ranked : Cond) ∈ lw_all := in_all 677 (by decide +kernel) (by decide +kernel)
set_option maxRecDepth 20000 in
theorem wd_678 : (.static yL_ranked : Cond) ∈ lw_all := in_all 678 (by decide +kernel) (by decide +kernel)
set_option maxRecDepth 20000 in
theorem wd_680 : (.methodLink RL 63 yX5_ranked : Cond) ∈ lw_all := in_all 680 (by decide +kernel) (by decide +kernel)
set_option maxRecDepth 20000 in
theorem wd_681 : (.instanceMethod yX5_ranked : Cond) ∈ lw_all := in_all 681 (by decide +kernel) (by decide +kernel)
set_option maxRecDepth 20000 in
theorem wd_682 : (.selects RX5 yX5_ranked yX5_ranked : Cond) ∈ lw_all := in_all 682 (by decide +kernel) (by decide +kernel)
set_option maxRecDepth 20000 in
theorem wd_683 : (.code yX5_ranked cX5_ranked 2 (some .int) : Cond) ∈ lw_all := in_all 683 (by decide +kernel) (by decide +kernel)
set_option maxRecDepth 20000 in
theorem wd_685 : (.methodLink RX5 199 yX0_serialOfRank : Cond) ∈ lw_all := in_all 685 (by decide +kernel) (by decide +kernel)
set_option maxRecDepth 20000 in
theorem wd_686 : (.instanceMethod yX0_serialOfRank : Cond) ∈ lw_all := in_all 686 (by decide +kernel) (by decide +kernel)
set_option maxRecDepth 20000 in
theorem wd_687 : (.selects RX0 yX0_serialOfRank yX0_serialOfRank : Cond) ∈ lw_all := in_all 687 (by decide +kernel) (by decide +kernel)
set_option maxRecDepth 20000 in
theorem wd_688 : (.code yX0_serialOfRank cX0_serialOfRank 6 (some .int) : Cond) ∈ lw_all := in_all 688 (by decide +kernel) (by decide +kernel)
set_option maxRecDepth 20000 in
theorem wd_689 : (.methodLink RX0 76 yX0_bookOfRank : Cond) ∈ lw_all := in_all 689 (by decide +kernel) (by decide +kernel)
set_option maxRecDepth 20000 in
theorem wd_690 : (.instanceMethod yX0_bookOfRank : Cond) ∈ lw_all := in_all 690 (by decide +kernel) (by decide +kernel)
set_option maxRecDepth 20000 in
theorem wd_691 : (.selects RX0 yX0_bookOfRank yX0_bookOfRank : Cond) ∈ lw_all := in_all 691 (by decide +kernel) (by decide +kernel)
set_option maxRecDepth 20000 in
theorem wd_692 : (.code yX0_bookOfRank cX0_bookOfRank 3 (some .int) : Cond) ∈ lw_all := in_all 692 (by decide +kernel) (by decide +kernel)
set_option maxRecDepth 20000 in
theorem wd_693 : (.methodLink RX0 73 yX0_booksBefore : Cond) ∈ lw_all := in_all 693 (by decide +kernel) (by decide +kernel)
set_option maxRecDepth 20000 in
theorem wd_695 : (.instanceMethod yX0_booksBefore : Cond) ∈ lw_all := in_all 695 (by decide +kernel) (by decide +kernel)
set_option maxRecDepth 20000 in
theorem wd_696 : (.code yX0_booksBefore cX0_booksBefore 4 (some .int) : Cond) ∈ lw_all := in_all 696 (by decide +kernel) (by decide +kernel)
set_option maxRecDepth 20000 in
theorem wd_697 : (.methodLink RL 154 yL_missed : Cond) ∈ lw_all := in_all 697 (by decide +kernel) (by decide +kernel)
set_option maxRecDepth 20000 in
theorem wd_698 : (.static yL_missed : Cond) ∈ lw_all := in_all 698 (by decide +kernel) (by decide +kernel)
set_option maxRecDepth 20000 in
theorem wd_700 : (.methodLink RL 66 yX5_missed : Cond) ∈ lw_all := in_all 700 (by decide +kernel) (by decide +kernel)
set_option maxRecDepth 20000 in
theorem wd_701 : (.instanceMethod yX5_missed : Cond) ∈ lw_all := in_all 701 (by decide +kernel) (by decide +kernel)
set_option maxRecDepth 20000 in
theorem wd_702 : (.selects RX5 yX5_missed yX5_missed : Cond) ∈ lw_all := in_all 702 (by decide +kernel) (by decide +kernel)
set_option maxRecDepth 20000 in
theorem wd_703 : (.code yX5_missed cX5_missed 3 (some .int) : Cond) ∈ lw_all := in_all 703 (by decide +kernel) (by decide +kernel)
set_option maxRecDepth 20000 in
theorem wd_704 : (.methodLink RX5 202 yX5_throwIfNoSlipKind : Cond) ∈ lw_all := in_all 704 (by decide +kernel) (by decide +kernel)
set_option maxRecDepth 20000 in
theorem wd_705 : (.static yX5_throwIfNoSlipKind : Cond) ∈ lw_all := in_all 705 (by decide +kernel) (by decide +kernel)
set_option maxRecDepth 20000 in
theorem wd_706 : (.code yX5_throwIfNoSlipKind cX5_throwIfNoSlipKind 1 none : Cond) ∈ lw_all := in_all 706 (by decide +kernel) (by decide +kernel)
set_option maxRecDepth 20000 in
theorem wd_708 : (.methodLink RX5 205 yX2_hiddenMisreadings : Cond) ∈ lw_all := in_all 708 (by decide +kernel) (by decide +kernel)
set_option maxRecDepth 20000 in
theorem wd_709 : (.instanceMethod yX2_hiddenMisreadings : Cond) ∈ lw_all := in_all 709 (by decide +kernel) (by decide +kernel)
set_option maxRecDepth 20000 in
theorem wd_710 : (.selects RX2 yX2_hiddenMisreadings yX2_hiddenMisreadings : Cond) ∈ lw_all := in_all 710 (by decide +kernel) (by decide +kernel)
set_option maxRecDepth 20000 in
theorem wd_711 : (.code yX2_hiddenMisreadings cX2_hiddenMisreadings 7 (some .int) : Cond) ∈ lw_all := in_all 711 (by decide +kernel) (by decide +kernel)
set_option maxRecDepth 20000 in
theorem wd_712 : (.methodLink RX2 44 yX2_digitAt : Cond) ∈ lw_all := in_all 712 (by decide +kernel) (by decide +kernel)
set_option maxRecDepth 20000 in
theorem wd_713 : (.static yX2_digitAt : Cond) ∈ lw_all := in_all 713 (by decide +kernel) (by decide +kernel)
set_option maxRecDepth 20000 in
theorem wd_714 : (.code yX2_digitAt cX2_digitAt 4 (some .int) : Cond) ∈ lw_all := in_all 714 (by decide +kernel) (by decide +kernel)
set_option maxRecDepth 20000 in
theorem wd_715 : (.methodLink RX2 40 yX2_factorAt : Cond) ∈ lw_all := in_all 715 (by decide +kernel) (by decide +kernel)
set_option maxRecDepth 20000 in
theorem wd_716 : (.instanceMethod yX2_factorAt : Cond) ∈ lw_all := in_all 716 (by decide +kernel) (by decide +kernel)
set_option maxRecDepth 20000 in
theorem wd_717 : (.selects RX2 yX2_factorAt yX2_factorAt : Cond) ∈ lw_all := in_all 717 (by decide +kernel) (by decide +kernel)
set_option maxRecDepth 20000 in
theorem wd_718 : (.code yX2_factorAt cX2_factorAt 4 (some .int) : Cond) ∈ lw_all := in_all 718 (by decide +kernel) (by decide +kernel)
set_option maxRecDepth 20000 in
theorem wd_719 : (.methodLink RX2 30 yX2_isHidden : Cond) ∈ lw_all := in_all 719 (by decide +kernel) (by decide +kernel)
set_option maxRecDepth 20000 in
theorem wd_721 : (.instanceMethod yX2_isHidden : Cond) ∈ lw_all := in_all 721 (by decide +kernel) (by decide +kernel)
set_option maxRecDepth 20000 in
theorem wd_722 : (.code yX2_isHidden cX2_isHidden 3 (some .boolean) : Cond) ∈ lw_all := in_all 722 (by decide +kernel) (by decide +kernel)
set_option maxRecDepth 20000 in
theorem wd_723 : (.methodLink RX5 208 yX2_hiddenSwaps : Cond) ∈ lw_all := in_all 723 (by decide +kernel) (by decide +kernel)
set_option maxRecDepth 20000 in
theorem wd_724 : (.instanceMethod yX2_hiddenSwaps : Cond) ∈ lw_all := in_all 724 (by decide +kernel) (by decide +kernel)
set_option maxRecDepth 20000 in
theorem wd_725 : (.selects RX2 yX2_hiddenSwaps yX2_hiddenSwaps : Cond) ∈ lw_all := in_all 725 (by decide +kernel) (by decide +kernel)
set_option maxRecDepth 20000 in
theorem wd_726 : (.code yX2_hiddenSwaps cX2_hiddenSwaps 6 (some .int) : Cond) ∈ lw_all := in_all 726 (by decide +kernel) (by decide +kernel)
set_option maxRecDepth 20000 in
theorem wd_727 : (.methodLink RL 157 yL_weak : Cond) ∈ lw_all := in_all 727 (by decide +kernel) (by decide +kernel)
set_option maxRecDepth 20000 in
theorem wd_728 : (.static yL_weak : Cond) ∈ lw_all := in_all 728 (by decide +kernel) (by decide +kernel)
set_option maxRecDepth 20000 in
theorem wd_730 : (.methodLink RL 69 yX5_weak : Cond) ∈ lw_all := in_all 730 (by decide +kernel) (by decide +kernel)
set_option maxRecDepth 20000 in
theorem wd_731 : (.instanceMethod yX5_weak : Cond) ∈ lw_all := in_all 731 (by decide +kernel) (by decide +kernel)
set_option maxRecDepth 20000 in
theorem wd_732 : (.selects RX5 yX5_weak yX5_weak : Cond) ∈ lw_all := in_all 732 (by decide +kernel) (by decide +kernel)
set_option maxRecDepth 20000 in
theorem wd_733 : (.code yX5_weak cX5_weak 5 (some .int) : Cond) ∈ lw_all := in_all 733 (by decide +kernel) (by decide +kernel)
set_option maxRecDepth 20000 in
theorem wd_734 : (.methodLink RX5 211 yX5_positionsOf : Cond) ∈ lw_all := in_all 734 (by decide +kernel) (by decide +kernel)
set_option maxRecDepth 20000 in
theorem wd_735 : (.static yX5_positionsOf : Cond) ∈ lw_all := in_all 735 (by decide +kernel) (by decide +kernel)
set_option maxRecDepth 20000 in
theorem wd_736 : (.code yX5_positionsOf cX5_positionsOf 1 (some .int) : Cond) ∈ lw_all := in_all 736 (by decide +kernel) (by decide +kernel)
set_option maxRecDepth 20000 in
theorem wd_738 : (.methodLink RX5 218 yX2_factorAt : Cond) ∈ lw_all := in_all 738 (by decide +kernel) (by decide +kernel)
set_option maxRecDepth 20000 in
theorem wd_739 : (.methodLink RX5 221 yX2_hiddenPairsTried : Cond) ∈ lw_all := in_all 739 (by decide +kernel) (by decide +kernel)
set_option maxRecDepth 20000 in
theorem wd_740 : (.instanceMethod yX2_hiddenPairsTried : Cond) ∈ lw_all := in_all 740 (by decide +kernel) (by decide +kernel)
set_option maxRecDepth 20000 in
theorem wd_741 : (.selects RX2 yX2_hiddenPairsTried yX2_hiddenPairsTried : Cond) ∈ lw_all := in_all 741 (by decide +kernel) (by decide +kernel)
set_option maxRecDepth 20000 in
theorem wd_742 : (.code yX2_hiddenPairsTried cX2_hiddenPairsTried 5 (some .int) : Cond) ∈ lw_all := in_all 742 (by decide +kernel) (by decide +kernel)
set_option maxRecDepth 20000 in
theorem wd_743 : (.methodLink RX5 224 yX2_hiddenPairs : Cond) ∈ lw_all := in_all 743 (by decide +kernel) (by decide +kernel)
set_option maxRecDepth 20000 in
theorem wd_744 : (.instanceMethod yX2_hiddenPairs : Cond) ∈ lw_all := in_all 744 (by decide +kernel) (by decide +kernel)
set_option maxRecDepth 20000 in
theorem wd_745 : (.selects RX2 yX2_hiddenPairs yX2_hiddenPairs : Cond) ∈ lw_all := in_all 745 (by decide +kernel) (by decide +kernel)
set_option maxRecDepth 20000 in
theorem wd_746 : (.code yX2_hiddenPairs cX2_hiddenPairs 4 (some .int) : Cond) ∈ lw_all := in_all 746 (by decide +kernel) (by decide +kernel)
set_option maxRecDepth 20000 in
theorem wd_747 : (.methodLink RL 161 yL_finds : Cond) ∈ lw_all := in_all 747 (by decide +kernel) (by decide +kernel)
set_option maxRecDepth 20000 in
theorem wd_748 : (.static yL_finds : Cond) ∈ lw_all := in_all 748 (by decide +kernel) (by decide +kernel)
set_option maxRecDepth 20000 in
theorem wd_750 : (.methodLink RL 73 yX5_finds : Cond) ∈ lw_all := in_all 750 (by decide +kernel) (by decide +kernel)
set_option maxRecDepth 20000 in
theorem wd_751 : (.instanceMethod yX5_finds : Cond) ∈ lw_all := in_all 751 (by decide +kernel) (by decide +kernel)
set_option maxRecDepth 20000 in
theorem wd_752 : (.selects RX5 yX5_finds yX5_finds : Cond) ∈ lw_all := in_all 752 (by decide +kernel) (by decide +kernel)
set_option maxRecDepth 20000 in
theorem wd_753 : (.code yX5_finds cX5_finds 2 (some .boolean) : Cond) ∈ lw_all := in_all 753 (by decide +kernel) (by decide +kernel)
set_option maxRecDepth 20000 in
theorem wd_754 : (.methodLink RX5 227 yX2_hidesNothing : Cond) ∈ lw_all := in_all 754 (by decide +kernel) (by decide +kernel)
set_option maxRecDepth 20000 in
theorem wd_755 : (.instanceMethod yX2_hidesNothing : Cond) ∈ lw_all := in_all 755 (by decide +kernel) (by decide +kernel)
set_option maxRecDepth 20000 in
theorem wd_756 : (.selects RX2 yX2_hidesNothing yX2_hidesNothing : Cond) ∈ lw_all := in_all 756 (by decide +kernel) (by decide +kernel)
set_option maxRecDepth 20000 in
theorem wd_757 : (.code yX2_hidesNothing cX2_hidesNothing 3 (some .boolean) : Cond) ∈ lw_all := in_all 757 (by decide +kernel) (by decide +kernel)
set_option maxRecDepth 20000 in
theorem wd_759 : (.methodLink RX2 34 yX2_hiddenPairs : Cond) ∈ lw_all := in_all 759 (by decide +kernel) (by decide +kernel)
set_option maxRecDepth 20000 in
theorem wd_760 : (.methodLink RL 164 yL_bestWeight : Cond) ∈ lw_all := in_all 760 (by decide +kernel) (by decide +kernel)
set_option maxRecDepth 20000 in
theorem wd_761 : (.static yL_bestWeight : Cond) ∈ lw_all := in_all 761 (by decide +kernel) (by decide +kernel)
set_option maxRecDepth 20000 in
theorem wd_763 : (.methodLink RL 77 yX5_bestWeight : Cond) ∈ lw_all := in_all 763 (by decide +kernel) (by decide +kernel)
set_option maxRecDepth 20000 in
theorem wd_764 : (.instanceMethod yX5_bestWeight : Cond) ∈ lw_all := in_all 764 (by decide +kernel) (by decide +kernel)
set_option maxRecDepth 20000 in
theorem wd_765 : (.selects RX5 yX5_bestWeight yX5_bestWeight : Cond) ∈ lw_all := in_all 765 (by decide +kernel) (by decide +kernel)
set_option maxRecDepth 20000 in
theorem wd_766 : (.code yX5_bestWeight cX5_bestWeight 6 (some .int) : Cond) ∈ lw_all := in_all 766 (by decide +kernel) (by decide +kernel)
set_option maxRecDepth 20000 in
theorem wd_767 : (.methodLink RX5 230 yX2_hiddenPairsWith : Cond) ∈ lw_all := in_all 767 (by decide +kernel) (by decide +kernel)
set_option maxRecDepth 20000 in
theorem wd_768 : (.instanceMethod yX2_hiddenPairsWith : Cond) ∈ lw_all := in_all 768 (by decide +kernel) (by decide +kernel)
set_option maxRecDepth 20000 in
theorem wd_769 : (.selects RX2 yX2_hiddenPairsWith yX2_hiddenPairsWith : Cond) ∈ lw_all := in_all 769 (by decide +kernel) (by decide +kernel)
set_option maxRecDepth 20000 in
theorem wd_770 : (.code yX2_hiddenPairsWith cX2_hiddenPairsWith 7 (some .int) : Cond) ∈ lw_all := in_all 770 (by decide +kernel) (by decide +kernel)
set_option maxRecDepth 20000 in
theorem wd_771 : (.methodLink RL 167 yL_meant : Cond) ∈ lw_all := in_all 771 (by decide +kernel) (by decide +kernel)
set_option maxRecDepth 20000 in
theorem wd_772 : (.static yL_meant : Cond) ∈ lw_all := in_all 772 (by decide +kernel) (by decide +kernel)
set_option maxRecDepth 20000 in
theorem wd_774 : (.methodLink RL 80 yX5_meant : Cond) ∈ lw_all := in_all 774 (by decide +kernel) (by decide +kernel)
set_option maxRecDepth 20000 in
theorem wd_775 : (.instanceMethod yX5_meant : Cond) ∈ lw_all := in_all 775 (by decide +kernel) (by decide +kernel)
set_option maxRecDepth 20000 in
theorem wd_776 : (.selects RX5 yX5_meant yX5_meant : Cond) ∈ lw_all := in_all 776 (by decide +kernel) (by decide +kernel)
set_option maxRecDepth 20000 in
theorem wd_777 : (.code yX5_meant cX5_meant 4 (some .int) : Cond) ∈ lw_all := in_all 777 (by decide +kernel) (by decide +kernel)
set_option maxRecDepth 20000 in
theorem wd_779 : (.methodLink RX5 235 yX4_meantCheques : Cond) ∈ lw_all := in_all 779 (by decide +kernel) (by decide +kernel)
set_option maxRecDepth 20000 in
theorem wd_780 : (.instanceMethod yX4_meantCheques : Cond) ∈ lw_all := in_all 780 (by decide +kernel) (by decide +kernel)
set_option maxRecDepth 20000 in
theorem wd_781 : (.selects RX4 yX4_meantCheques yX4_meantCheques : Cond) ∈ lw_all := in_all 781 (by decide +kernel) (by decide +kernel)
set_option maxRecDepth 20000 in
theorem wd_782 : (.code yX4_meantCheques cX4_meantCheques 9 (some .int) : Cond) ∈ lw_all := in_all 782 (by decide +kernel) (by decide +kernel)
set_option maxRecDepth 20000 in
theorem wd_783 : (.methodLink RX4 60 yX0_bookOfRank : Cond) ∈ lw_all := in_all 783 (by decide +kernel) (by decide +kernel)
set_option maxRecDepth 20000 in
theorem wd_784 : (.methodLink RX4 63 yX0_firstOf : Cond) ∈ lw_all := in_all 784 (by decide +kernel) (by decide +kernel)
set_option maxRecDepth 20000 in
theorem wd_785 : (.methodLink RX4 66 yX0_sizeOf : Cond) ∈ lw_all := in_all 785 (by decide +kernel) (by decide +kernel)
set_option maxRecDepth 20000 in
theorem wd_786 : (.methodLink RX4 69 yX2_slipKind : Cond) ∈ lw_all := in_all 786 (by decide +kernel) (by decide +kernel)
set_option maxRecDepth 20000 in
theorem wd_787 : (.instanceMethod yX2_slipKind : Cond) ∈ lw_all := in_all 787 (by decide +kernel) (by decide +kernel)
set_option maxRecDepth 20000 in
theorem wd_788 : (.selects RX2 yX2_slipKind yX2_slipKind : Cond) ∈ lw_all := in_all 788 (by decide +kernel) (by decide +kernel)
set_option maxRecDepth 20000 in
theorem wd_789 : (.code yX2_slipKind cX2_slipKind 5 (some .int) : Cond) ∈ lw_all := in_all 789 (by decide +kernel) (by decide +kernel)
set_option maxRecDepth 20000 in
theorem wd_790 : (.methodLink RX2 47 yX2_letterOf : Cond) ∈ lw_all := in_all 790 (by decide +kernel) (by decide +kernel)
set_option maxRecDepth 20000 in
theorem wd_791 : (.methodLink RX2 50 yX2_digitSlip : Cond) ∈ lw_all := in_all 791 (by decide +kernel) (by decide +kernel)
set_option maxRecDepth 20000 in
theorem wd_792 : (.static yX2_digitSlip : Cond) ∈ lw_all := in_all 792 (by decide +kernel) (by decide +kernel)
set_option maxRecDepth 20000 in
theorem wd_793 : (.code yX2_digitSlip cX2_digitSlip 5 (some .int) : Cond) ∈ lw_all := in_all 793 (by decide +kernel) (by decide +kernel)
set_option maxRecDepth 20000 in
theorem wd_794 : (.methodLink RX2 53 yX2_isSwapped : Cond) ∈ lw_all := in_all 794 (by decide +kernel) (by decide +kernel)
set_option maxRecDepth 20000 in
theorem wd_795 : (.static yX2_isSwapped : Cond) ∈ lw_all := in_all 795 (by decide +kernel) (by decide +kernel)
set_option maxRecDepth 20000 in
theorem wd_796 : (.code yX2_isSwapped cX2_isSwapped 3 (some .boolean) : Cond) ∈ lw_all := in_all 796 (by decide +kernel) (by decide +kernel)
set_option maxRecDepth 20000 in
theorem wd_797 : (.methodLink RL 170 yL_slip : Cond) ∈ lw_all := in_all 797 (by decide +kernel) (by decide +kernel)
set_option maxRecDepth 20000 in
theorem wd_798 : (.static yL_slip : Cond) ∈ lw_all := in_all 798 (by decide +kernel) (by decide +kernel)
set_option maxRecDepth 20000 in
theorem wd_800 : (.methodLink RL 83 yX5_slip : Cond) ∈ lw_all := in_all 800 (by decide +kernel) (by decide +kernel)
set_option maxRecDepth 20000 in
theorem wd_801 : (.instanceMethod yX5_slip : Cond) ∈ lw_all := in_all 801 (by decide +kernel) (by decide +kernel)
set_option maxRecDepth 20000 in
theorem wd_802 : (.selects RX5 yX5_slip yX5_slip : Cond) ∈ lw_all := in_all 802 (by decide +kernel) (by decide +kernel)
set_option maxRecDepth 20000 in
theorem wd_803 : (.code yX5_slip cX5_slip 4 (some .int) : Cond) ∈ lw_all := in_all 803 (by decide +kernel) (by decide +kernel)
set_option maxRecDepth 20000 in
theorem wd_804 : (.methodLink RX5 239 yX2_slipKind : Cond) ∈ lw_all := in_all 804 (by decide +kernel) (by decide +kernel)
set_option maxRecDepth 20000 in
theorem wd_805 : (.classLink RL 87 RX6 : Cond) ∈ lw_all := in_all 805 (by decide +kernel) (by decide +kernel)
set_option maxRecDepth 20000 in
theorem wd_806 : (.instantiable RX6 11 : Cond) ∈ lw_all := in_all 806 (by decide +kernel) (by decide +kernel)
set_option maxRecDepth 20000 in
theorem wd_807 : (.methodLink RL 89 yX6_init : Cond) ∈ lw_all := in_all 807 (by decide +kernel) (by decide +kernel)
set_option maxRecDepth 20000 in
theorem wd_808 : (.instanceMethod yX6_init : Cond) ∈ lw_all := in_all 808 (by decide +kernel) (by decide +kernel)
set_option maxRecDepth 20000 in
theorem wd_809 : (.code yX6_init cX6_init 2 none : Cond) ∈ lw_all := in_all 809 (by decide +kernel) (by decide +kernel)
set_option maxRecDepth 20000 in
theorem wd_810 : (.methodLink RX6 1 objectInit : Cond) ∈ lw_all := in_all 810 (by decide +kernel) (by decide +kernel)
set_option maxRecDepth 20000 in
theorem wd_811 : (.fieldLink RX6 7 "ChequeSerialsModel" "now" "[I" : Cond) ∈ lw_all := in_all 811 (by decide +kernel) (by decide +kernel)
set_option maxRecDepth 20000 in
theorem wd_812 : (.fieldLink RX6 13 "ChequeSerialsModel" "past" "[I" : Cond) ∈ lw_all := in_all 812 (by decide +kernel) (by decide +kernel)
set_option maxRecDepth 20000 in
theorem wd_813 : (.fieldLink RX6 37 "ChequeSerialsModel" "states" "I" : Cond) ∈ lw_all := in_all 813 (by decide +kernel) (by decide +kernel)
set_option maxRecDepth 20000 in
theorem wd_814 : (.fieldLink RX6 16 "ChequeSerialsModel" "kept" "[I" : Cond) ∈ lw_all := in_all 814 (by decide +kernel) (by decide +kernel)
set_option maxRecDepth 20000 in
theorem wd_815 : (.fieldLink RX6 19 "ChequeSerialsModel" "isKept" "[I" : Cond) ∈ lw_all := in_all 815 (by decide +kernel) (by decide +kernel)
set_option maxRecDepth 20000 in
theorem wd_816 : (.fieldLink RX6 22 "ChequeSerialsModel" "text" "[I" : Cond) ∈ lw_all := in_all 816 (by decide +kernel) (by decide +kernel)
set_option maxRecDepth 20000 in
theorem wd_817 : (.fieldLink RX6 100 "ChequeSerialsModel" "length" "I" : Cond) ∈ lw_all := in_all 817 (by decide +kernel) (by decide +kernel)
set_option maxRecDepth 20000 in
theorem wd_818 : (.fieldLink RX6 28 "ChequeSerialsModel" "thrown" "I" : Cond) ∈ lw_all := in_all 818 (by decide +kernel) (by decide +kernel)
set_option maxRecDepth 20000 in
theorem wd_819 : (.fieldLink RX6 103 "ChequeSerialsModel" "spot" "I" : Cond) ∈ lw_all := in_all 819 (by decide +kernel) (by decide +kernel)
set_option maxRecDepth 20000 in
theorem wd_820 : (.fieldLink RX6 25 "ChequeSerialsModel" "told" "[I" : Cond) ∈ lw_all := in_all 820 (by decide +kernel) (by decide +kernel)
set_option maxRecDepth 20000 in
theorem wd_821 : (.fieldLink RX6 109 "ChequeSerialsModel" "toldMany" "I" : Cond) ∈ lw_all := in_all 821 (by decide +kernel) (by decide +kernel)
set_option maxRecDepth 20000 in
theorem wd_845 : (.methodLink RL 96 yX6_thrown : Cond) ∈ lw_all := in_all 845 (by decide +kernel) (by decide +kernel)
set_option maxRecDepth 20000 in
theorem wd_846 : (.instanceMethod yX6_thrown : Cond) ∈ lw_all := in_all 846 (by decide +kernel) (by decide +kernel)
set_option maxRecDepth 20000 in
theorem wd_847 : (.selects RX6 yX6_thrown yX6_thrown : Cond) ∈ lw_all := in_all 847 (by decide +kernel) (by decide +kernel)
set_option maxRecDepth 20000 in
theorem wd_848 : (.code yX6_thrown cX6_thrown 1 (some .int) : Cond) ∈ lw_all := in_all 848 (by decide +kernel) (by decide +kernel)
set_option maxRecDepth 20000 in
theorem wd_849 : (.methodLink RL 95 yX6_weight : Cond) ∈ lw_all := in_all 849 (by decide +kernel) (by decide +kernel)
set_option maxRecDepth 20000 in
theorem wd_850 : (.instanceMethod yX6_weight : Cond) ∈ lw_all := in_all 850 (by decide +kernel) (by decide +kernel)
set_option maxRecDepth 20000 in
theorem wd_851 : (.selects RX6 yX6_weight yX6_weight : Cond) ∈ lw_all := in_all 851 (by decide +kernel) (by decide +kernel)
set_option maxRecDepth 20000 in
theorem wd_852 : (.code yX6_weight cX6_weight 4 (some .int) : Cond) ∈ lw_all := in_all 852 (by decide +kernel) (by decide +kernel)
set_option maxRecDepth 20000 in
theorem wd_853 : (.methodLink RX6 33 yX6_in : Cond) ∈ lw_all := in_all 853 (by decide +kernel) (by decide +kernel)
set_option maxRecDepth 20000 in
theorem wd_854 : (.static yX6_in : Cond) ∈ lw_all := in_all 854 (by decide +kernel) (by decide +kernel)
set_option maxRecDepth 20000 in
theorem wd_855 : (.code yX6_in cX6_in 3 (some .boolean) : Cond) ∈ lw_all := in_all 855 (by decide +kernel) (by decide +kernel)
set_option maxRecDepth 20000 in
theorem wd_856 : (.methodLink RX6 72 yX6_refuses : Cond) ∈ lw_all := in_all 856 (by decide +kernel) (by decide +kernel)
set_option maxRecDepth 20000 in
theorem wd_858 : (.instanceMethod yX6_refuses : Cond) ∈ lw_all := in_all 858 (by decide +kernel) (by decide +kernel)
set_option maxRecDepth 20000 in
theorem wd_859 : (.code yX6_refuses cX6_refuses 2 (some .int) : Cond) ∈ lw_all := in_all 859 (by decide +kernel) (by decide +kernel)
set_option maxRecDepth 20000 in
theorem wd_860 : (.methodLink RX6 75 yX6_saves : Cond) ∈ lw_all := in_all 860 (by decide +kernel) (by decide +kernel)
set_option maxRecDepth 20000 in
theorem wd_862 : (.instanceMethod yX6_saves : Cond) ∈ lw_all := in_all 862 (by decide +kernel) (by decide +kernel)
set_option maxRecDepth 20000 in
theorem wd_863 : (.code yX6_saves cX6_saves 2 none : Cond) ∈ lw_all := in_all 863 (by decide +kernel) (by decide +kernel)
set_option maxRecDepth 20000 in
theorem wd_864 : (.methodLink RX6 40 yX6_lays : Cond) ∈ lw_all := in_all 864 (by decide +kernel) (by decide +kernel)
set_option maxRecDepth 20000 in
theorem wd_865 : (.static yX6_lays : Cond) ∈ lw_all := in_all 865 (by decide +kernel) (by decide +kernel)
set_option maxRecDepth 20000 in
theorem wd_866 : (.code yX6_lays cX6_lays 5 none : Cond) ∈ lw_all := in_all 866 (by decide +kernel) (by decide +kernel)
set_option maxRecDepth 20000 in
theorem wd_867 : (.methodLink RL 102 yX6_modulus : Cond) ∈ lw_all := in_all 867 (by decide +kernel) (by decide +kernel)
set_option maxRecDepth 20000 in
theorem wd_868 : (.instanceMethod yX6_modulus : Cond) ∈ lw_all := in_all 868 (by decide +kernel) (by decide +kernel)
set_option maxRecDepth 20000 in
theorem wd_869 : (.selects RX6 yX6_modulus yX6_modulus : Cond) ∈ lw_all := in_all 869 (by decide +kernel) (by decide +kernel)
set_option maxRecDepth 20000 in
theorem wd_870 : (.code yX6_modulus cX6_modulus 3 (some .int) : Cond) ∈ lw_all := in_all 870 (by decide +kernel) (by decide +kernel)
set_option maxRecDepth 20000 in
theorem wd_871 : (.methodLink RL 105 yX6_book : Cond) ∈ lw_all := in_all 871 (by decide +kernel) (by decide +kernel)
set_option maxRecDepth 20000 in
theorem wd_872 : (.instanceMethod yX6_book : Cond) ∈ lw_all := in_all 872 (by decide +kernel) (by decide +kernel)
set_option maxRecDepth 20000 in
theorem wd_873 : (.selects RX6 yX6_book yX6_book : Cond) ∈ lw_all := in_all 873 (by decide +kernel) (by decide +kernel)
set_option maxRecDepth 20000 in
theorem wd_874 : (.code yX6_book cX6_book 3 (some .int) : Cond) ∈ lw_all := in_all 874 (by decide +kernel) (by decide +kernel)
set_option maxRecDepth 20000 in
theorem wd_875 : (.methodLink RX6 78 yX6_isSerial : Cond) ∈ lw_all := in_all 875 (by decide +kernel) (by decide +kernel)
set_option maxRecDepth 20000 in
theorem wd_876 : (.static yX6_isSerial : Cond) ∈ lw_all := in_all 876 (by decide +kernel) (by decide +kernel)
set_option maxRecDepth 20000 in
theorem wd_877 : (.code yX6_isSerial cX6_isSerial 1 (some .boolean) : Cond) ∈ lw_all := in_all 877 (by decide +kernel) (by decide +kernel)
set_option maxRecDepth 20000 in
theorem wd_878 : (.constant RX6 32 (999999) : Cond) ∈ lw_all := in_all 878 (by decide +kernel) (by decide +kernel)
set_option maxRecDepth 20000 in
theorem wd_879 : (.methodLink RX6 81 yX6_canBook : Cond) ∈ lw_all := in_all 879 (by decide +kernel) (by decide +kernel)
set_option maxRecDepth 20000 in
theorem wd_881 : (.instanceMethod yX6_canBook : Cond) ∈ lw_all := in_all 881 (by decide +kernel) (by decide +kernel)
set_option maxRecDepth 20000 in
theorem wd_882 : (.code yX6_canBook cX6_canBook 3 (some .boolean) : Cond) ∈ lw_all := in_all 882 (by decide +kernel) (by decide +kernel)
set_option maxRecDepth 20000 in
theorem wd_883 : (.methodLink RX6 55 yX6_isTaken : Cond) ∈ lw_all := in_all 883 (by decide +kernel) (by decide +kernel)
set_option maxRecDepth 20000 in
theorem wd_885 : (.instanceMethod yX6_isTaken : Cond) ∈ lw_all := in_all 885 (by decide +kernel) (by decide +kernel)
set_option maxRecDepth 20000 in
theorem wd_886 : (.code yX6_isTaken cX6_isTaken 5 (some .boolean) : Cond) ∈ lw_all := in_all 886 (by decide +kernel) (by decide +kernel)
set_option maxRecDepth 20000 in
theorem wd_887 : (.methodLink RX6 48 yX6_firstOf : Cond) ∈ lw_all := in_all 887 (by decide +kernel) (by decide +kernel)
set_option maxRecDepth 20000 in
theorem wd_889 : (.instanceMethod yX6_firstOf : Cond) ∈ lw_all := in_all 889 (by decide +kernel) (by decide +kernel)
set_option maxRecDepth 20000 in
theorem wd_890 : (.code yX6_firstOf cX6_firstOf 2 (some .int) : Cond) ∈ lw_all := in_all 890 (by decide +kernel) (by decide +kernel)
set_option maxRecDepth 20000 in
theorem wd_891 : (.methodLink RX6 52 yX6_countOf : Cond) ∈ lw_all := in_all 891 (by decide +kernel) (by decide +kernel)
set_option maxRecDepth 20000 in
theorem wd_893 : (.instanceMethod yX6_countOf : Cond) ∈ lw_all := in_all 893 (by decide +kernel) (by decide +kernel)
set_option maxRecDepth 20000 in
theorem wd_894 : (.code yX6_countOf cX6_countOf 2 (some .int) : Cond) ∈ lw_all := in_all 894 (by decide +kernel) (by decide +kernel)
set_option maxRecDepth 20000 in
theorem wd_895 : (.methodLink RX6 84 yX6_books : Cond) ∈ lw_all := in_all 895 (by decide +kernel) (by decide +kernel)
set_option maxRecDepth 20000 in
theorem wd_897 : (.instanceMethod yX6_books : Cond) ∈ lw_all := in_all 897 (by decide +kernel) (by decide +kernel)
set_option maxRecDepth 20000 in
theorem wd_898 : (.code yX6_books cX6_books 5 (some .int) : Cond) ∈ lw_all := in_all 898 (by decide +kernel) (by decide +kernel)
set_option maxRecDepth 20000 in
theorem wd_899 : (.methodLink RL 108 yX6_write : Cond) ∈ lw_all := in_all 899 (by decide +kernel) (by decide +kernel)
set_option maxRecDepth 20000 in
theorem wd_900 : (.instanceMethod yX6_write : Cond) ∈ lw_all := in_all 900 (by decide +kernel) (by decide +kernel)
set_option maxRecDepth 20000 in
theorem wd_901 : (.selects RX6 yX6_write yX6_write : Cond) ∈ lw_all := in_all 901 (by decide +kernel) (by decide +kernel)
set_option maxRecDepth 20000 in
theorem wd_902 : (.code yX6_write cX6_write 4 (some .int) : Cond) ∈ lw_all := in_all 902 (by decide +kernel) (by decide +kernel)
set_option maxRecDepth 20000 in
theorem wd_903 : (.methodLink RX6 59 yX6_spotOf : Cond) ∈ lw_all := in_all 903 (by decide +kernel) (by decide +kernel)
set_option maxRecDepth 20000 in
theorem wd_905 : (.instanceMethod yX6_spotOf : Cond) ∈ lw_all := in_all 905 (by decide +kernel) (by decide +kernel)
set_option maxRecDepth 20000 in
theorem wd_906 : (.code yX6_spotOf cX6_spotOf 5 (some .int) : Cond) ∈ lw_all := in_all 906 (by decide +kernel) (by decide +kernel)
set_option maxRecDepth 20000 in
theorem wd_907 : (.methodLink RX6 87 yX6_writes : Cond) ∈ lw_all := in_all 907 (by decide +kernel) (by decide +kernel)
set_option maxRecDepth 20000 in
theorem wd_909 : (.instanceMethod yX6_writes : Cond) ∈ lw_all := in_all 909 (by decide +kernel) (by decide +kernel)
set_option maxRecDepth 20000 in
theorem wd_910 : (.code yX6_writes cX6_writes 3 none : Cond) ∈ lw_all := in_all 910 (by decide +kernel) (by decide +kernel)
set_option maxRecDepth 20000 in
theorem wd_911 : (.methodLink RX6 62 yX6_letterOf : Cond) ∈ lw_all := in_all 911 (by decide +kernel) (by decide +kernel)
set_option maxRecDepth 20000 in
theorem wd_913 : (.instanceMethod yX6_letterOf : Cond) ∈ lw_all := in_all 913 (by decide +kernel) (by decide +kernel)
set_option maxRecDepth 20000 in
theorem wd_914 : (.code yX6_letterOf cX6_letterOf 4 (some .int) : Cond) ∈ lw_all := in_all 914 (by decide +kernel) (by decide +kernel)
set_option maxRecDepth 20000 in
theorem wd_915 : (.methodLink RX6 44 yX6_digit : Cond) ∈ lw_all := in_all 915 (by decide +kernel) (by decide +kernel)
set_option maxRecDepth 20000 in
theorem wd_916 : (.static yX6_digit : Cond) ∈ lw_all := in_all 916 (by decide +kernel) (by decide +kernel)
set_option maxRecDepth 20000 in
theorem wd_917 : (.code yX6_digit cX6_digit 4 (some .int) : Cond) ∈ lw_all := in_all 917 (by decide +kernel) (by decide +kernel)
set_option maxRecDepth 20000 in
theorem wd_918 : (.methodLink RL 111 yX6_cash : Cond) ∈ lw_all := in_all 918 (by decide +kernel) (by decide +kernel)
set_option maxRecDepth 20000 in
theorem wd_919 : (.instanceMethod yX6_cash : Cond) ∈ lw_all := in_all 919 (by decide +kernel) (by decide +kernel)
set_option maxRecDepth 20000 in
theorem wd_920 : (.selects RX6 yX6_cash yX6_cash : Cond) ∈ lw_all := in_all 920 (by decide +kernel) (by decide +kernel)
set_option maxRecDepth 20000 in
theorem wd_921 : (.code yX6_cash cX6_cash 3 (some .int) : Cond) ∈ lw_all := in_all 921 (by decide +kernel) (by decide +kernel)
set_option maxRecDepth 20000 in
theorem wd_922 : (.methodLink RX6 91 yX6_isLetter : Cond) ∈ lw_all := in_all 922 (by decide +kernel) (by decide +kernel)
set_option maxRecDepth 20000 in
theorem wd_923 : (.static yX6_isLetter : Cond) ∈ lw_all := in_all 923 (by decide +kernel) (by decide +kernel)
set_option maxRecDepth 20000 in
theorem wd_924 : (.code yX6_isLetter cX6_isLetter 1 (some .boolean) : Cond) ∈ lw_all := in_all 924 (by decide +kernel) (by decide +kernel)
set_option maxRecDepth 20000 in
theorem wd_925 : (.methodLink RX6 94 yX6_cashes : Cond) ∈ lw_all := in_all 925 (by decide +kernel) (by decide +kernel)
set_option maxRecDepth 20000 in
theorem wd_927 : (.instanceMethod yX6_cashes : Cond) ∈ lw_all := in_all 927 (by decide +kernel) (by decide +kernel)
set_option maxRecDepth 20000 in
theorem wd_928 : (.code yX6_cashes cX6_cashes 5 (some .int) : Cond) ∈ lw_all := in_all 928 (by decide +kernel) (by decide +kernel)
set_option maxRecDepth 20000 in
theorem wd_929 : (.methodLink RL 114 yX6_voidRun : Cond) ∈ lw_all := in_all 929 (by decide +kernel) (by decide +kernel)
set_option maxRecDepth 20000 in
theorem wd_930 : (.instanceMethod yX6_voidRun : Cond) ∈ lw_all := in_all 930 (by decide +kernel) (by decide +kernel)
set_option maxRecDepth 20000 in
theorem wd_931 : (.selects RX6 yX6_voidRun yX6_voidRun : Cond) ∈ lw_all := in_all 931 (by decide +kernel) (by decide +kernel)
set_option maxRecDepth 20000 in
theorem wd_932 : (.code yX6_voidRun cX6_voidRun 3 (some .int) : Cond) ∈ lw_all := in_all 932 (by decide +kernel) (by decide +kernel)
set_option maxRecDepth 20000 in
theorem wd_933 : (.methodLink RX6 97 yX6_voids : Cond) ∈ lw_all := in_all 933 (by decide +kernel) (by decide +kernel)
set_option maxRecDepth 20000 in
theorem wd_935 : (.instanceMethod yX6_voids : Cond) ∈ lw_all := in_all 935 (by decide +kernel) (by decide +kernel)
set_option maxRecDepth 20000 in
theorem wd_936 : (.code yX6_voids cX6_voids 6 (some .int) : Cond) ∈ lw_all := in_all 936 (by decide +kernel) (by decide +kernel)
set_option maxRecDepth 20000 in
theorem wd_937 : (.methodLink RX6 65 yX6_isCheque : Cond) ∈ lw_all := in_all 937 (by decide +kernel) (by decide +kernel)
set_option maxRecDepth 20000 in
theorem wd_939 : (.instanceMethod yX6_isCheque : Cond) ∈ lw_all := in_all 939 (by decide +kernel) (by decide +kernel)
set_option maxRecDepth 20000 in
theorem wd_940 : (.code yX6_isCheque cX6_isCheque 2 (some .boolean) : Cond) ∈ lw_all := in_all 940 (by decide +kernel) (by decide +kernel)
set_option maxRecDepth 20000 in
theorem wd_941 : (.methodLink RX6 69 yX6_serialAt : Cond) ∈ lw_all := in_all 941 (by decide +kernel) (by decide +kernel)
set_option maxRecDepth 20000 in
theorem wd_943 : (.instanceMethod yX6_serialAt : Cond) ∈ lw_all := in_all 943 (by decide +kernel) (by decide +kernel)
set_option maxRecDepth 20000 in
theorem wd_944 : (.code yX6_serialAt cX6_serialAt 2 (some .int) : Cond) ∈ lw_all := in_all 944 (by decide +kernel) (by decide +kernel)
set_option maxRecDepth 20000 in
theorem wd_945 : (.methodLink RL 117 yX6_append : Cond) ∈ lw_all := in_all 945 (by decide +kernel) (by decide +kernel)
set_option maxRecDepth 20000 in
theorem wd_946 : (.instanceMethod yX6_append : Cond) ∈ lw_all := in_all 946 (by decide +kernel) (by decide +kernel)
set_option maxRecDepth 20000 in
theorem wd_947 : (.selects RX6 yX6_append yX6_append : Cond) ∈ lw_all := in_all 947 (by decide +kernel) (by decide +kernel)
set_option maxRecDepth 20000 in
theorem wd_948 : (.code yX6_append cX6_append 2 (some .int) : Cond) ∈ lw_all := in_all 948 (by decide +kernel) (by decide +kernel)
set_option maxRecDepth 20000 in
theorem wd_949 : (.methodLink RL 121 yX6_clearBuffer : Cond) ∈ lw_all := in_all 949 (by decide +kernel) (by decide +kernel)
set_option maxRecDepth 20000 in
theorem wd_950 : (.instanceMethod yX6_clearBuffer : Cond) ∈ lw_all := in_all 950 (by decide +kernel) (by decide +kernel)
set_option maxRecDepth 20000 in
theorem wd_951 : (.selects RX6 yX6_clearBuffer yX6_clearBuffer : Cond) ∈ lw_all := in_all 951 (by decide +kernel) (by decide +kernel)
set_option maxRecDepth 20000 in
theorem wd_952 : (.code yX6_clearBuffer cX6_clearBuffer 2 (some .int) : Cond) ∈ lw_all := in_all 952 (by decide +kernel) (by decide +kernel)
set_option maxRecDepth 20000 in
theorem wd_953 : (.methodLink RL 125 yX6_firstError : Cond) ∈ lw_all := in_all 953 (by decide +kernel) (by decide +kernel)
set_option maxRecDepth 20000 in
theorem wd_954 : (.instanceMethod yX6_firstError : Cond) ∈ lw_all := in_all 954 (by decide +kernel) (by decide +kernel)
set_option maxRecDepth 20000 in
theorem wd_955 : (.selects RX6 yX6_firstError yX6_firstError : Cond) ∈ lw_all := in_all 955 (by decide +kernel) (by decide +kernel)
set_option maxRecDepth 20000 in
theorem wd_956 : (.code yX6_firstError cX6_firstError 1 (some .int) : Cond) ∈ lw_all := in_all 956 (by decide +kernel) (by decide +kernel)
set_option maxRecDepth 20000 in
theorem wd_957 : (.methodLink RX6 128 yX6_isWhole : Cond) ∈ lw_all := in_all 957 (by decide +kernel) (by decide +kernel)
set_option maxRecDepth 20000 in
theorem wd_959 : (.instanceMethod yX6_isWhole : Cond) ∈ lw_all := in_all 959 (by decide +kernel) (by decide +kernel)
set_option maxRecDepth 20000 in
theorem wd_960 : (.code yX6_isWhole cX6_isWhole 2 (some .boolean) : Cond) ∈ lw_all := in_all 960 (by decide +kernel) (by decide +kernel)
set_option maxRecDepth 20000 in
theorem wd_961 : (.methodLink RX6 125 yX6_isOrder : Cond) ∈ lw_all := in_all 961 (by decide +kernel) (by decide +kernel)
set_option maxRecDepth 20000 in
theorem wd_963 : (.instanceMethod yX6_isOrder : Cond) ∈ lw_all := in_all 963 (by decide +kernel) (by decide +kernel)
set_option maxRecDepth 20000 in
theorem wd_964 : (.code yX6_isOrder cX6_isOrder 2 (some .boolean) : Cond) ∈ lw_all := in_all 964 (by decide +kernel) (by decide +kernel)
set_option maxRecDepth 20000 in
theorem wd_965 : (.methodLink RX6 106 yX6_sees : Cond) ∈ lw_all := in_all 965 (by decide +kernel) (by decide +kernel)
set_option maxRecDepth 20000 in
theorem wd_967 : (.instanceMethod yX6_sees : Cond) ∈ lw_all := in_all 967 (by decide +kernel) (by decide +kernel)
set_option maxRecDepth 20000 in
theorem wd_968 : (.code yX6_sees cX6_sees 3 (some .boolean) : Cond) ∈ lw_all := in_all 968 (by decide +kernel) (by decide +kernel)
set_option maxRecDepth 20000 in
theorem wd_969 : (.methodLink RX6 112 yX6_isSix : Cond) ∈ lw_all := in_all 969 (by decide +kernel) (by decide +kernel)
set_option maxRecDepth 20000 in
theorem wd_971 : (.instanceMethod yX6_isSix : Cond) ∈ lw_all := in_all 971 (by decide +kernel) (by decide +kernel)
set_option maxRecDepth 20000 in
theorem wd_972 : (.code yX6_isSix cX6_isSix 4 (some .boolean) : Cond) ∈ lw_all := in_all 972 (by decide +kernel) (by decide +kernel)
set_option maxRecDepth 20000 in
theorem wd_973 : (.methodLink RX6 115 yX6_takes : Cond) ∈ lw_all := in_all 973 (by decide +kernel) (by decide +kernel)
set_option maxRecDepth 20000 in
theorem wd_975 : (.instanceMethod yX6_takes : Cond) ∈ lw_all := in_all 975 (by decide +kernel) (by decide +kernel)
set_option maxRecDepth 20000 in
theorem wd_976 : (.code yX6_takes cX6_takes 3 (some .boolean) : Cond) ∈ lw_all := in_all 976 (by decide +kernel) (by decide +kernel)
set_option maxRecDepth 20000 in
theorem wd_977 : (.methodLink RX6 118 yX6_isNumber : Cond) ∈ lw_all := in_all 977 (by decide +kernel) (by decide +kernel)
set_option maxRecDepth 20000 in
theorem wd_979 : (.instanceMethod yX6_isNumber : Cond) ∈ lw_all := in_all 979 (by decide +kernel) (by decide +kernel)
set_option maxRecDepth 20000 in
theorem wd_980 : (.code yX6_isNumber cX6_isNumber 3 (some .boolean) : Cond) ∈ lw_all := in_all 980 (by decide +kernel) (by decide +kernel)
set_option maxRecDepth 20000 in
theorem wd_981 : (.methodLink RX6 121 yX6_isSign : Cond) ∈ lw_all := in_all 981 (by decide +kernel) (by decide +kernel)
set_option maxRecDepth 20000 in
theorem wd_983 : (.instanceMethod yX6_isSign : Cond) ∈ lw_all := in_all 983 (by decide +kernel) (by decide +kernel)
set_option maxRecDepth 20000 in
theorem wd_984 : (.code yX6_isSign cX6_isSign 1 (some .boolean) : Cond) ∈ lw_all := in_all 984 (by decide +kernel) (by decide +kernel)
set_option maxRecDepth 20000 in
theorem wd_985 : (.methodLink RL 129 yX6_execute : Cond) ∈ lw_all := in_all 985 (by decide +kernel) (by decide +kernel)
set_option maxRecDepth 20000 in
theorem wd_986 : (.instanceMethod yX6_execute : Cond) ∈ lw_all := in_all 986 (by decide +kernel) (by decide +kernel)
set_option maxRecDepth 20000 in
theorem wd_987 : (.selects RX6 yX6_execute yX6_execute : Cond) ∈ lw_all := in_all 987 (by decide +kernel) (by decide +kernel)
set_option maxRecDepth 20000 in
theorem wd_988 : (.code yX6_execute cX6_execute 2 (some .int) : Cond) ∈ lw_all := in_all 988 (by decide +kernel) (by decide +kernel)
set_option maxRecDepth 20000 in
theorem wd_989 : (.methodLink RX6 131 yX6_isDone : Cond) ∈ lw_all := in_all 989 (by decide +kernel) (by decide +kernel)
set_option maxRecDepth 20000 in
theorem wd_991 : (.instanceMethod yX6_isDone : Cond) ∈ lw_all := in_all 991 (by decide +kernel) (by decide +kernel)
set_option maxRecDepth 20000 in
theorem wd_992 : (.code yX6_isDone cX6_isDone 6 (some .boolean) : Cond) ∈ lw_all := in_all 992 (by decide +kernel) (by decide +kernel)
set_option maxRecDepth 20000 in
theorem wd_993 : (.methodLink RL 132 yX6_undo : Cond) ∈ lw_all := in_all 993 (by decide +kernel) (by decide +kernel)
set_option maxRecDepth 20000 in
theorem wd_994 : (.instanceMethod yX6_undo : Cond) ∈ lw_all := in_all 994 (by decide +kernel) (by decide +kernel)
set_option maxRecDepth 20000 in
theorem wd_995 : (.selects RX6 yX6_undo yX6_undo : Cond) ∈ lw_all := in_all 995 (by decide +kernel) (by decide +kernel)
set_option maxRecDepth 20000 in
theorem wd_996 : (.code yX6_undo cX6_undo 1 (some .int) : Cond) ∈ lw_all := in_all 996 (by decide +kernel) (by decide +kernel)
set_option maxRecDepth 20000 in
theorem wd_997 : (.methodLink RL 135 yX6_keep : Cond) ∈ lw_all := in_all 997 (by decide +kernel) (by decide +kernel)
set_option maxRecDepth 20000 in
theorem wd_998 : (.instanceMethod yX6_keep : Cond) ∈ lw_all := in_all 998 (by decide +kernel) (by decide +kernel)
set_option maxRecDepth 20000 in
theorem wd_999 : (.selects RX6 yX6_keep yX6_keep : Cond) ∈ lw_all := in_all 999 (by decide +kernel) (by decide +kernel)
set_option maxRecDepth 20000 in
theorem wd_1000 : (.code yX6_keep cX6_keep 2 (some .int) : Cond) ∈ lw_all := in_all 1000 (by decide +kernel) (by decide +kernel)
set_option maxRecDepth 20000 in
theorem wd_1001 : (.methodLink RL 138 yX6_goBack : Cond) ∈ lw_all := in_all 1001 (by decide +kernel) (by decide +kernel)
set_option maxRecDepth 20000 in
theorem wd_1002 : (.instanceMethod yX6_goBack : Cond) ∈ lw_all := in_all 1002 (by decide +kernel) (by decide +kernel)
set_option maxRecDepth 20000 in
theorem wd_1003 : (.selects RX6 yX6_goBack yX6_goBack : Cond) ∈ lw_all := in_all 1003 (by decide +kernel) (by decide +kernel)
set_option maxRecDepth 20000 in
theorem wd_1004 : (.code yX6_goBack cX6_goBack 2 (some .int) : Cond) ∈ lw_all := in_all 1004 (by decide +kernel) (by decide +kernel)
set_option maxRecDepth 20000 in
theorem wd_1005 : (.methodLink RL 141 yX6_letter : Cond) ∈ lw_all := in_all 1005 (by decide +kernel) (by decide +kernel)
set_option maxRecDepth 20000 in
theorem wd_1006 : (.instanceMethod yX6_letter : Cond) ∈ lw_all := in_all 1006 (by decide +kernel) (by decide +kernel)
set_option maxRecDepth 20000 in
theorem wd_1007 : (.selects RX6 yX6_letter yX6_letter : Cond) ∈ lw_all := in_all 1007 (by decide +kernel) (by decide +kernel)
set_option maxRecDepth 20000 in
theorem wd_1008 : (.code yX6_letter cX6_letter 2 (some .int) : Cond) ∈ lw_all := in_all 1008 (by decide +kernel) (by decide +kernel)
set_option maxRecDepth 20000 in
theorem wd_1009 : (.methodLink RL 144 yX6_cheque : Cond) ∈ lw_all := in_all 1009 (by decide +kernel) (by decide +kernel)
set_option maxRecDepth 20000 in
theorem wd_1010 : (.instanceMethod yX6_cheque : Cond) ∈ lw_all := in_all 1010 (by decide +kernel) (by decide +kernel)
set_option maxRecDepth 20000 in
theorem wd_1011 : (.selects RX6 yX6_cheque yX6_cheque : Cond) ∈ lw_all := in_all 1011 (by decide +kernel) (by decide +kernel)
set_option maxRecDepth 20000 in
theorem wd_1012 : (.code yX6_cheque cX6_cheque 4 (some .int) : Cond) ∈ lw_all := in_all 1012 (by decide +kernel) (by decide +kernel)
set_option maxRecDepth 20000 in
theorem wd_1013 : (.methodLink RX6 137 yX6_aboutCheque : Cond) ∈ lw_all := in_all 1013 (by decide +kernel) (by decide +kernel)
set_option maxRecDepth 20000 in
theorem wd_1015 : (.instanceMethod yX6_aboutCheque : Cond) ∈ lw_all := in_all 1015 (by decide +kernel) (by decide +kernel)
set_option maxRecDepth 20000 in
theorem wd_1016 : (.code yX6_aboutCheque cX6_aboutCheque 3 (some .int) : Cond) ∈ lw_all := in_all 1016 (by decide +kernel) (by decide +kernel)
set_option maxRecDepth 20000 in
theorem wd_1017 : (.methodLink RX6 134 yX6_runFrom : Cond) ∈ lw_all := in_all 1017 (by decide +kernel) (by decide +kernel)
set_option maxRecDepth 20000 in
theorem wd_1019 : (.instanceMethod yX6_runFrom : Cond) ∈ lw_all := in_all 1019 (by decide +kernel) (by decide +kernel)
set_option maxRecDepth 20000 in
theorem wd_1020 : (.code yX6_runFrom cX6_runFrom 3 (some .int) : Cond) ∈ lw_all := in_all 1020 (by decide +kernel) (by decide +kernel)
set_option maxRecDepth 20000 in
theorem wd_1021 : (.methodLink RL 147 yX6_bookOf : Cond) ∈ lw_all := in_all 1021 (by decide +kernel) (by decide +kernel)
set_option maxRecDepth 20000 in
theorem wd_1022 : (.instanceMethod yX6_bookOf : Cond) ∈ lw_all := in_all 1022 (by decide +kernel) (by decide +kernel)
set_option maxRecDepth 20000 in
theorem wd_1023 : (.selects RX6 yX6_bookOf yX6_bookOf : Cond) ∈ lw_all := in_all 1023 (by decide +kernel) (by decide +kernel)
set_option maxRecDepth 20000 in
theorem wd_1024 : (.code yX6_bookOf cX6_bookOf 3 (some .int) : Cond) ∈ lw_all := in_all 1024 (by decide +kernel) (by decide +kernel)
set_option maxRecDepth 20000 in
theorem wd_1025 : (.methodLink RX6 150 yX6_aboutBook : Cond) ∈ lw_all := in_all 1025 (by decide +kernel) (by decide +kernel)
set_option maxRecDepth 20000 in
theorem wd_1027 : (.instanceMethod yX6_aboutBook : Cond) ∈ lw_all := in_all 1027 (by decide +kernel) (by decide +kernel)
set_option maxRecDepth 20000 in
theorem wd_1028 : (.code yX6_aboutBook cX6_aboutBook 4 (some .int) : Cond) ∈ lw_all := in_all 1028 (by decide +kernel) (by decide +kernel)
set_option maxRecDepth 20000 in
theorem wd_1029 : (.methodLink RX6 140 yX6_amounts : Cond) ∈ lw_all := in_all 1029 (by decide +kernel) (by decide +kernel)
set_option maxRecDepth 20000 in
theorem wd_1031 : (.instanceMethod yX6_amounts : Cond) ∈ lw_all := in_all 1031 (by decide +kernel) (by decide +kernel)
set_option maxRecDepth 20000 in
theorem wd_1032 : (.code yX6_amounts cX6_amounts 6 (some .int) : Cond) ∈ lw_all := in_all 1032 (by decide +kernel) (by decide +kernel)
set_option maxRecDepth 20000 in
theorem wd_1033 : (.methodLink RX6 144 yX6_firstBlank : Cond) ∈ lw_all := in_all 1033 (by decide +kernel) (by decide +kernel)
set_option maxRecDepth 20000 in
theorem wd_1035 : (.instanceMethod yX6_firstBlank : Cond) ∈ lw_all := in_all 1035 (by decide +kernel) (by decide +kernel)
set_option maxRecDepth 20000 in
theorem wd_1036 : (.code yX6_firstBlank cX6_firstBlank 3 (some .int) : Cond) ∈ lw_all := in_all 1036 (by decide +kernel) (by decide +kernel)
set_option maxRecDepth 20000 in
theorem wd_1037 : (.methodLink RX6 147 yX6_ofKind : Cond) ∈ lw_all := in_all 1037 (by decide +kernel) (by decide +kernel)
set_option maxRecDepth 20000 in
theorem wd_1039 : (.instanceMethod yX6_ofKind : Cond) ∈ lw_all := in_all 1039 (by decide +kernel) (by decide +kernel)
set_option maxRecDepth 20000 in
theorem wd_1040 : (.code yX6_ofKind cX6_ofKind 6 (some .int) : Cond) ∈ lw_all := in_all 1040 (by decide +kernel) (by decide +kernel)
set_option maxRecDepth 20000 in
theorem wd_1041 : (.methodLink RL 150 yX6_count : Cond) ∈ lw_all := in_all 1041 (by decide +kernel) (by decide +kernel)
set_option maxRecDepth 20000 in
theorem wd_1042 : (.instanceMethod yX6_count : Cond) ∈ lw_all := in_all 1042 (by decide +kernel) (by decide +kernel)
set_option maxRecDepth 20000 in
theorem wd_1043 : (.selects RX6 yX6_count yX6_count : Cond) ∈ lw_all := in_all 1043 (by decide +kernel) (by decide +kernel)
set_option maxRecDepth 20000 in
theorem wd_1044 : (.code yX6_count cX6_count 2 (some .int) : Cond) ∈ lw_all := in_all 1044 (by decide +kernel) (by decide +kernel)
set_option maxRecDepth 20000 in
theorem wd_1045 : (.methodLink RX6 157 yX6_counted : Cond) ∈ lw_all := in_all 1045 (by decide +kernel) (by decide +kernel)
set_option maxRecDepth 20000 in
theorem wd_1047 : (.instanceMethod yX6_counted : Cond) ∈ lw_all := in_all 1047 (by decide +kernel) (by decide +kernel)
set_option maxRecDepth 20000 in
theorem wd_1048 : (.code yX6_counted cX6_counted 3 (some .int) : Cond) ∈ lw_all := in_all 1048 (by decide +kernel) (by decide +kernel)
set_option maxRecDepth 20000 in
theorem wd_1049 : (.methodLink RX6 153 yX6_cheques : Cond) ∈ lw_all := in_all 1049 (by decide +kernel) (by decide +kernel)
set_option maxRecDepth 20000 in
theorem wd_1051 : (.instanceMethod yX6_cheques : Cond) ∈ lw_all := in_all 1051 (by decide +kernel) (by decide +kernel)
set_option maxRecDepth 20000 in
theorem wd_1052 : (.code yX6_cheques cX6_cheques 3 (some .int) : Cond) ∈ lw_all := in_all 1052 (by decide +kernel) (by decide +kernel)
set_option maxRecDepth 20000 in
theorem wd_1053 : (.methodLink RL 153 yX6_ranked : Cond) ∈ lw_all := in_all 1053 (by decide +kernel) (by decide +kernel)
set_option maxRecDepth 20000 in
theorem wd_1054 : (.instanceMethod yX6_ranked : Cond) ∈ lw_all := in_all 1054 (by decide +kernel) (by decide +kernel)
set_option maxRecDepth 20000 in
theorem wd_1055 : (.selects RX6 yX6_ranked yX6_ranked : Cond) ∈ lw_all := in_all 1055 (by decide +kernel) (by decide +kernel)
set_option maxRecDepth 20000 in
theorem wd_1056 : (.code yX6_ranked cX6_ranked 4 (some .int) : Cond) ∈ lw_all := in_all 1056 (by decide +kernel) (by decide +kernel)
set_option maxRecDepth 20000 in
theorem wd_1057 : (.methodLink RX6 160 yX6_next : Cond) ∈ lw_all := in_all 1057 (by decide +kernel) (by decide +kernel)
set_option maxRecDepth 20000 in
theorem wd_1059 : (.instanceMethod yX6_next : Cond) ∈ lw_all := in_all 1059 (by decide +kernel) (by decide +kernel)
set_option maxRecDepth 20000 in
theorem wd_1060 : (.code yX6_next cX6_next 5 (some .int) : Cond) ∈ lw_all := in_all 1060 (by decide +kernel) (by decide +kernel)
set_option maxRecDepth 20000 in
theorem wd_1061 : (.methodLink RL 156 yX6_missed : Cond) ∈ lw_all := in_all 1061 (by decide +kernel) (by decide +kernel)
set_option maxRecDepth 20000 in
theorem wd_1062 : (.instanceMethod yX6_missed : Cond) ∈ lw_all := in_all 1062 (by decide +kernel) (by decide +kernel)
set_option maxRecDepth 20000 in
theorem wd_1063 : (.selects RX6 yX6_missed yX6_missed : Cond) ∈ lw_all := in_all 1063 (by decide +kernel) (by decide +kernel)
set_option maxRecDepth 20000 in
theorem wd_1064 : (.code yX6_missed cX6_missed 3 (some .int) : Cond) ∈ lw_all := in_all 1064 (by decide +kernel) (by decide +kernel)
set_option maxRecDepth 20000 in
theorem wd_1065 : (.methodLink RX6 166 yX6_missedDigits : Cond) ∈ lw_all := in_all 1065 (by decide +kernel) (by decide +kernel)
set_option maxRecDepth 20000 in
theorem wd_1067 : (.instanceMethod yX6_missedDigits : Cond) ∈ lw_all := in_all 1067 (by decide +kernel) (by decide +kernel)
set_option maxRecDepth 20000 in
theorem wd_1068 : (.code yX6_missedDigits cX6_missedDigits 5 (some .int) : Cond) ∈ lw_all := in_all 1068 (by decide +kernel) (by decide +kernel)
set_option maxRecDepth 20000 in
theorem wd_1069 : (.methodLink RX6 163 yX6_isLeft : Cond) ∈ lw_all := in_all 1069 (by decide +kernel) (by decide +kernel)
set_option maxRecDepth 20000 in
theorem wd_1071 : (.instanceMethod yX6_isLeft : Cond) ∈ lw_all := in_all 1071 (by decide +kernel) (by decide +kernel)
set_option maxRecDepth 20000 in
theorem wd_1072 : (.code yX6_isLeft cX6_isLeft 3 (some .boolean) : Cond) ∈ lw_all := in_all 1072 (by decide +kernel) (by decide +kernel)
set_option maxRecDepth 20000 in
theorem wd_1073 : (.methodLink RX6 169 yX6_missedSwaps : Cond) ∈ lw_all := in_all 1073 (by decide +kernel) (by decide +kernel)
set_option maxRecDepth 20000 in
theorem wd_1075 : (.instanceMethod yX6_missedSwaps : Cond) ∈ lw_all := in_all 1075 (by decide +kernel) (by decide +kernel)
set_option maxRecDepth 20000 in
theorem wd_1076 : (.code yX6_missedSwaps cX6_missedSwaps 5 (some .int) : Cond) ∈ lw_all := in_all 1076 (by decide +kernel) (by decide +kernel)
set_option maxRecDepth 20000 in
theorem wd_1077 : (.methodLink RL 160 yX6_weak : Cond) ∈ lw_all := in_all 1077 (by decide +kernel) (by decide +kernel)
set_option maxRecDepth 20000 in
theorem wd_1078 : (.instanceMethod yX6_weak : Cond) ∈ lw_all := in_all 1078 (by decide +kernel) (by decide +kernel)
set_option maxRecDepth 20000 in
theorem wd_1079 : (.selects RX6 yX6_weak yX6_weak : Cond) ∈ lw_all := in_all 1079 (by decide +kernel) (by decide +kernel)
set_option maxRecDepth 20000 in
theorem wd_1080 : (.code yX6_weak cX6_weak 4 (some .int) : Cond) ∈ lw_all := in_all 1080 (by decide +kernel) (by decide +kernel)
set_option maxRecDepth 20000 in
theorem wd_1081 : (.methodLink RX6 175 yX6_weakAt : Cond) ∈ lw_all := in_all 1081 (by decide +kernel) (by decide +kernel)
set_option maxRecDepth 20000 in
theorem wd_1083 : (.instanceMethod yX6_weakAt : Cond) ∈ lw_all := in_all 1083 (by decide +kernel) (by decide +kernel)
set_option maxRecDepth 20000 in
theorem wd_1084 : (.code yX6_weakAt cX6_weakAt 3 (some .int) : Cond) ∈ lw_all := in_all 1084 (by decide +kernel) (by decide +kernel)
set_option maxRecDepth 20000 in
theorem wd_1085 : (.methodLink RX6 172 yX6_pairs : Cond) ∈ lw_all := in_all 1085 (by decide +kernel) (by decide +kernel)
set_option maxRecDepth 20000 in
theorem wd_1087 : (.instanceMethod yX6_pairs : Cond) ∈ lw_all := in_all 1087 (by decide +kernel) (by decide +kernel)
set_option maxRecDepth 20000 in
theorem wd_1088 : (.code yX6_pairs cX6_pairs 4 (some .int) : Cond) ∈ lw_all := in_all 1088 (by decide +kernel) (by decide +kernel)
set_option maxRecDepth 20000 in
theorem wd_1089 : (.methodLink RL 163 yX6_finds : Cond) ∈ lw_all := in_all 1089 (by decide +kernel) (by decide +kernel)
set_option maxRecDepth 20000 in
theorem wd_1090 : (.instanceMethod yX6_finds : Cond) ∈ lw_all := in_all 1090 (by decide +kernel) (by decide +kernel)
set_option maxRecDepth 20000 in
theorem wd_1091 : (.selects RX6 yX6_finds yX6_finds : Cond) ∈ lw_all := in_all 1091 (by decide +kernel) (by decide +kernel)
set_option maxRecDepth 20000 in
theorem wd_1092 : (.code yX6_finds cX6_finds 2 (some .boolean) : Cond) ∈ lw_all := in_all 1092 (by decide +kernel) (by decide +kernel)
set_option maxRecDepth 20000 in
theorem wd_1093 : (.methodLink RX6 178 yX6_weakOf : Cond) ∈ lw_all := in_all 1093 (by decide +kernel) (by decide +kernel)
set_option maxRecDepth 20000 in
theorem wd_1095 : (.instanceMethod yX6_weakOf : Cond) ∈ lw_all := in_all 1095 (by decide +kernel) (by decide +kernel)
set_option maxRecDepth 20000 in
theorem wd_1096 : (.code yX6_weakOf cX6_weakOf 4 (some .int) : Cond) ∈ lw_all := in_all 1096 (by decide +kernel) (by decide +kernel)
set_option maxRecDepth 20000 in
theorem wd_1097 : (.methodLink RL 166 yX6_bestWeight : Cond) ∈ lw_all := in_all 1097 (by decide +kernel) (by decide +kernel)
set_option maxRecDepth 20000 in
theorem wd_1098 : (.instanceMethod yX6_bestWeight : Cond) ∈ lw_all := in_all 1098 (by decide +kernel) (by decide +kernel)
set_option maxRecDepth 20000 in
theorem wd_1099 : (.selects RX6 yX6_bestWeight yX6_bestWeight : Cond) ∈ lw_all := in_all 1099 (by decide +kernel) (by decide +kernel)
set_option maxRecDepth 20000 in
theorem wd_1100 : (.code yX6_bestWeight cX6_bestWeight 8 (some .int) : Cond) ∈ lw_all := in_all 1100 (by decide +kernel) (by decide +kernel)
set_option maxRecDepth 20000 in
theorem wd_1101 : (.methodLink RL 169 yX6_meant : Cond) ∈ lw_all := in_all 1101 (by decide +kernel) (by decide +kernel)
set_option maxRecDepth 20000 in
theorem wd_1102 : (.instanceMethod yX6_meant : Cond) ∈ lw_all := in_all 1102 (by decide +kernel) (by decide +kernel)
set_option maxRecDepth 20000 in
theorem wd_1103 : (.selects RX6 yX6_meant yX6_meant : Cond) ∈ lw_all := in_all 1103 (by decide +kernel) (by decide +kernel)
set_option maxRecDepth 20000 in
theorem wd_1104 : (.code yX6_meant cX6_meant 4 (some .int) : Cond) ∈ lw_all := in_all 1104 (by decide +kernel) (by decide +kernel)
set_option maxRecDepth 20000 in
theorem wd_1105 : (.methodLink RX6 187 yX6_meantBy : Cond) ∈ lw_all := in_all 1105 (by decide +kernel) (by decide +kernel)
set_option maxRecDepth 20000 in
theorem wd_1107 : (.instanceMethod yX6_meantBy : Cond) ∈ lw_all := in_all 1107 (by decide +kernel) (by decide +kernel)
set_option maxRecDepth 20000 in
theorem wd_1108 : (.code yX6_meantBy cX6_meantBy 7 (some .int) : Cond) ∈ lw_all := in_all 1108 (by decide +kernel) (by decide +kernel)
set_option maxRecDepth 20000 in
theorem wd_1109 : (.methodLink RX6 184 yX6_slipOf : Cond) ∈ lw_all := in_all 1109 (by decide +kernel) (by decide +kernel)
set_option maxRecDepth 20000 in
theorem wd_1111 : (.instanceMethod yX6_slipOf : Cond) ∈ lw_all := in_all 1111 (by decide +kernel) (by decide +kernel)
set_option maxRecDepth 20000 in
theorem wd_1112 : (.code yX6_slipOf cX6_slipOf 5 (some .int) : Cond) ∈ lw_all := in_all 1112 (by decide +kernel) (by decide +kernel)
set_option maxRecDepth 20000 in
theorem wd_1113 : (.methodLink RX6 181 yX6_way : Cond) ∈ lw_all := in_all 1113 (by decide +kernel) (by decide +kernel)
set_option maxRecDepth 20000 in
theorem wd_1114 : (.static yX6_way : Cond) ∈ lw_all := in_all 1114 (by decide +kernel) (by decide +kernel)
set_option maxRecDepth 20000 in
theorem wd_1115 : (.code yX6_way cX6_way 6 (some .int) : Cond) ∈ lw_all := in_all 1115 (by decide +kernel) (by decide +kernel)
set_option maxRecDepth 20000 in
theorem wd_1116 : (.methodLink RL 172 yX6_slip : Cond) ∈ lw_all := in_all 1116 (by decide +kernel) (by decide +kernel)
set_option maxRecDepth 20000 in
theorem wd_1117 : (.instanceMethod yX6_slip : Cond) ∈ lw_all := in_all 1117 (by decide +kernel) (by decide +kernel)
set_option maxRecDepth 20000 in
theorem wd_1118 : (.selects RX6 yX6_slip yX6_slip : Cond) ∈ lw_all := in_all 1118 (by decide +kernel) (by decide +kernel)
set_option maxRecDepth 20000 in
theorem wd_1119 : (.code yX6_slip cX6_slip 4 (some .int) : Cond) ∈ lw_all := in_all 1119 (by decide +kernel) (by decide +kernel)
set_option maxRecDepth 20000 in
theorem wd_1120 : (.methodLink RL 177 yX6_cashed : Cond) ∈ lw_all := in_all 1120 (by decide +kernel) (by decide +kernel)
set_option maxRecDepth 20000 in
theorem wd_1121 : (.instanceMethod yX6_cashed : Cond) ∈ lw_all := in_all 1121 (by decide +kernel) (by decide +kernel)
set_option maxRecDepth 20000 in
theorem wd_1122 : (.selects RX6 yX6_cashed yX6_cashed : Cond) ∈ lw_all := in_all 1122 (by decide +kernel) (by decide +kernel)
set_option maxRecDepth 20000 in
theorem wd_1123 : (.code yX6_cashed cX6_cashed 4 (some .double) : Cond) ∈ lw_all := in_all 1123 (by decide +kernel) (by decide +kernel)
set_option maxRecDepth 20000 in
theorem wd_1124 : (.arrayClass .long : Cond) ∈ lw_all := in_all 1124 (by decide +kernel) (by decide +kernel)
abbrev wsX0_init : List Cond := .code yX0_init cX0_init 1 none :: lw_all
abbrev wsX0_copyFrom : List Cond := .code yX0_copyFrom cX0_copyFrom 2 none :: lw_all
abbrev wsX0_firstOf : List Cond := .code yX0_firstOf cX0_firstOf 2 (some .int) :: lw_all
abbrev wsX0_sizeOf : List Cond := .code yX0_sizeOf cX0_sizeOf 2 (some .int) :: lw_all
abbrev wsX0_canTake : List Cond := .code yX0_canTake cX0_canTake 5 (some .boolean) :: lw_all
abbrev wsX0_add : List Cond := .code yX0_add cX0_add 5 (some .int) :: lw_all
abbrev wsX0_cellOf : List Cond := .code yX0_cellOf cX0_cellOf 4 (some .int) :: lw_all
abbrev wsX0_kindAt : List Cond := .code yX0_kindAt cX0_kindAt 2 (some .int) :: lw_all
abbrev wsX0_amountAt : List Cond := .code yX0_amountAt cX0_amountAt 2 (some .int) :: lw_all
abbrev wsX0_setCell : List Cond := .code yX0_setCell cX0_setCell 4 none :: lw_all
abbrev wsX0_makeWritten : List Cond := .code yX0_makeWritten cX0_makeWritten 3 none :: lw_all
abbrev wsX0_makeCashed : List Cond := .code yX0_makeCashed cX0_makeCashed 2 none :: lw_all
abbrev wsX0_makeRunVoid : List Cond := .code yX0_makeRunVoid cX0_makeRunVoid 8 (some .int) :: lw_all
abbrev wsX0_makeVoid : List Cond := .code yX0_makeVoid cX0_makeVoid 3 (some .int) :: lw_all
abbrev wsX0_sameKindFrom : List Cond := .code yX0_sameKindFrom cX0_sameKindFrom 7 (some .int) :: lw_all
abbrev wsX0_numberOf : List Cond := .code yX0_numberOf cX0_numberOf 3 (some .int) :: lw_all
abbrev wsX0_numberOfAll : List Cond := .code yX0_numberOfAll cX0_numberOfAll 4 (some .int) :: lw_all
abbrev wsX0_chequesOf : List Cond := .code yX0_chequesOf cX0_chequesOf 6 (some .int) :: lw_all
abbrev wsX0_amountsOf : List Cond := .code yX0_amountsOf cX0_amountsOf 7 (some .int) :: lw_all
abbrev wsX0_firstBlankOf : List Cond := .code yX0_firstBlankOf cX0_firstBlankOf 4 (some .int) :: lw_all
abbrev wsX0_bookOfRank : List Cond := .code yX0_bookOfRank cX0_bookOfRank 3 (some .int) :: lw_all
abbrev wsX0_booksBefore : List Cond := .code yX0_booksBefore cX0_booksBefore 4 (some .int) :: lw_all
abbrev wsX0_serialOfRank : List Cond := .code yX0_serialOfRank cX0_serialOfRank 6 (some .int) :: lw_all
abbrev wsX1_init : List Cond := .code yX1_init cX1_init 2 none :: lw_all
abbrev wsX1_save : List Cond := .code yX1_save cX1_save 2 none :: lw_all
abbrev wsX1_dropOldest : List Cond := .code yX1_dropOldest cX1_dropOldest 3 none :: lw_all
abbrev wsX1_restoreLast : List Cond := .code yX1_restoreLast cX1_restoreLast 3 none :: lw_all
abbrev wsX1_isSlotFilled : List Cond := .code yX1_isSlotFilled cX1_isSlotFilled 2 (some .boolean) :: lw_all
abbrev wsX1_putIntoSlot : List Cond := .code yX1_putIntoSlot cX1_putIntoSlot 3 none :: lw_all
abbrev wsX1_restoreSlot : List Cond := .code yX1_restoreSlot cX1_restoreSlot 3 none :: lw_all
abbrev wsX1_copyState : List Cond := .code yX1_copyState cX1_copyState 2 none :: lw_all
abbrev wsX2_init : List Cond := .code yX2_init cX2_init 2 none :: lw_all
abbrev wsX2_copyFrom : List Cond := .code yX2_copyFrom cX2_copyFrom 2 none :: lw_all
abbrev wsX2_weightAt : List Cond := .code yX2_weightAt cX2_weightAt 2 (some .int) :: lw_all
abbrev wsX2_setWeight : List Cond := .code yX2_setWeight cX2_setWeight 3 none :: lw_all
abbrev wsX2_letterOf : List Cond := .code yX2_letterOf cX2_letterOf 5 (some .int) :: lw_all
abbrev wsX2_restOf : List Cond := .code yX2_restOf cX2_restOf 3 (some .int) :: lw_all
abbrev wsX2_digitAt : List Cond := .code yX2_digitAt cX2_digitAt 4 (some .int) :: lw_all
abbrev wsX2_factorAt : List Cond := .code yX2_factorAt cX2_factorAt 4 (some .int) :: lw_all
abbrev wsX2_isHidden : List Cond := .code yX2_isHidden cX2_isHidden 3 (some .boolean) :: lw_all
abbrev wsX2_hiddenPairsTried : List Cond := .code yX2_hiddenPairsTried cX2_hiddenPairsTried 5 (some .int) :: lw_all
abbrev wsX2_hiddenPairs : List Cond := .code yX2_hiddenPairs cX2_hiddenPairs 4 (some .int) :: lw_all
abbrev wsX2_hiddenPairsWith : List Cond := .code yX2_hiddenPairsWith cX2_hiddenPairsWith 7 (some .int) :: lw_all
abbrev wsX2_hidesNothing : List Cond := .code yX2_hidesNothing cX2_hidesNothing 3 (some .boolean) :: lw_all
abbrev wsX2_hiddenMisreadings : List Cond := .code yX2_hiddenMisreadings cX2_hiddenMisreadings 7 (some .int) :: lw_all
abbrev wsX2_hiddenSwaps : List Cond := .code yX2_hiddenSwaps cX2_hiddenSwaps 6 (some .int) :: lw_all
abbrev wsX2_slipKind : List Cond := .code yX2_slipKind cX2_slipKind 5 (some .int) :: lw_all
abbrev wsX2_digitSlip : List Cond := .code yX2_digitSlip cX2_digitSlip 5 (some .int) :: lw_all
abbrev wsX2_isSwapped : List Cond := .code yX2_isSwapped cX2_isSwapped 3 (some .boolean) :: lw_all
abbrev wsX3_init : List Cond := .code yX3_init cX3_init 1 none :: lw_all
abbrev wsX3_isFull : List Cond := .code yX3_isFull cX3_isFull 1 (some .boolean) :: lw_all
abbrev wsX3_add : List Cond := .code yX3_add cX3_add 2 (some .int) :: lw_all
abbrev wsX3_clear : List Cond := .code yX3_clear cX3_clear 2 (some .int) :: lw_all
abbrev wsX3_signAt : List Cond := .code yX3_signAt cX3_signAt 2 (some .int) :: lw_all
abbrev wsX3_numberIn : List Cond := .code yX3_numberIn cX3_numberIn 5 (some .int) :: lw_all
abbrev wsX3_errorIndex : List Cond := .code yX3_errorIndex cX3_errorIndex 3 (some .int) :: lw_all
abbrev wsX3_isComplete : List Cond := .code yX3_isComplete cX3_isComplete 3 (some .boolean) :: lw_all
abbrev wsX3_fits : List Cond := .code yX3_fits cX3_fits 5 (some .boolean) :: lw_all
abbrev wsX3_isWhole : List Cond := .code yX3_isWhole cX3_isWhole 4 (some .boolean) :: lw_all
abbrev wsX3_isDigit : List Cond := .code yX3_isDigit cX3_isDigit 1 (some .boolean) :: lw_all
abbrev wsX3_endsHead : List Cond := .code yX3_endsHead cX3_endsHead 2 (some .boolean) :: lw_all
abbrev wsX3_fitsBehindHead : List Cond := .code yX3_fitsBehindHead cX3_fitsBehindHead 4 (some .boolean) :: lw_all
abbrev wsX4_init : List Cond := .code yX4_init cX4_init 1 none :: lw_all
abbrev wsX4_copyFrom : List Cond := .code yX4_copyFrom cX4_copyFrom 2 none :: lw_all
abbrev wsX4_cashByReading : List Cond := .code yX4_cashByReading cX4_cashByReading 5 (some .int) :: lw_all
abbrev wsX4_reasonAgainstCashing : List Cond := .code yX4_reasonAgainstCashing cX4_reasonAgainstCashing 4 (some .int) :: lw_all
abbrev wsX4_meantCheques : List Cond := .code yX4_meantCheques cX4_meantCheques 9 (some .int) :: lw_all
abbrev wsX5_init : List Cond := .code yX5_init cX5_init 1 none :: lw_all
abbrev wsX5_weight : List Cond := .code yX5_weight cX5_weight 4 (some .int) :: lw_all
abbrev wsX5_modulus : List Cond := .code yX5_modulus cX5_modulus 3 (some .int) :: lw_all
abbrev wsX5_book : List Cond := .code yX5_book cX5_book 3 (some .int) :: lw_all
abbrev wsX5_write : List Cond := .code yX5_write cX5_write 3 (some .int) :: lw_all
abbrev wsX5_cash : List Cond := .code yX5_cash cX5_cash 3 (some .int) :: lw_all
abbrev wsX5_voidRun : List Cond := .code yX5_voidRun cX5_voidRun 3 (some .int) :: lw_all
abbrev wsX5_append : List Cond := .code yX5_append cX5_append 2 (some .int) :: lw_all
abbrev wsX5_clearBuffer : List Cond := .code yX5_clearBuffer cX5_clearBuffer 1 (some .int) :: lw_all
abbrev wsX5_firstError : List Cond := .code yX5_firstError cX5_firstError 1 (some .int) :: lw_all
abbrev wsX5_execute : List Cond := .code yX5_execute cX5_execute 2 (some .int) :: lw_all
abbrev wsX5_undo : List Cond := .code yX5_undo cX5_undo 1 (some .int) :: lw_all
abbrev wsX5_keep : List Cond := .code yX5_keep cX5_keep 2 (some .int) :: lw_all
abbrev wsX5_goBack : List Cond := .code yX5_goBack cX5_goBack 2 (some .int) :: lw_all
abbrev wsX5_letter : List Cond := .code yX5_letter cX5_letter 2 (some .int) :: lw_all
abbrev wsX5_cheque : List Cond := .code yX5_cheque cX5_cheque 4 (some .int) :: lw_all
abbrev wsX5_bookOf : List Cond := .code yX5_bookOf cX5_bookOf 3 (some .int) :: lw_all
abbrev wsX5_count : List Cond := .code yX5_count cX5_count 2 (some .int) :: lw_all
abbrev wsX5_ranked : List Cond := .code yX5_ranked cX5_ranked 2 (some .int) :: lw_all
abbrev wsX5_missed : List Cond := .code yX5_missed cX5_missed 3 (some .int) :: lw_all
abbrev wsX5_weak : List Cond := .code yX5_weak cX5_weak 5 (some .int) :: lw_all
abbrev wsX5_finds : List Cond := .code yX5_finds cX5_finds 2 (some .boolean) :: lw_all
abbrev wsX5_bestWeight : List Cond := .code yX5_bestWeight cX5_bestWeight 6 (some .int) :: lw_all
abbrev wsX5_meant : List Cond := .code yX5_meant cX5_meant 4 (some .int) :: lw_all
abbrev wsX5_slip : List Cond := .code yX5_slip cX5_slip 4 (some .int) :: lw_all
abbrev wsX5_cashed : List Cond := .code yX5_cashed cX5_cashed 2 (some .double) :: lw_all
abbrev wsX5_throwIfNoPosition : List Cond := .code yX5_throwIfNoPosition cX5_throwIfNoPosition 1 none :: lw_all
abbrev wsX5_throwIfNoSerial : List Cond := .code yX5_throwIfNoSerial cX5_throwIfNoSerial 1 none :: lw_all
abbrev wsX5_throwIfNoLetter : List Cond := .code yX5_throwIfNoLetter cX5_throwIfNoLetter 1 none :: lw_all
abbrev wsX5_throwIfNoSlipKind : List Cond := .code yX5_throwIfNoSlipKind cX5_throwIfNoSlipKind 1 none :: lw_all
abbrev wsX5_throwIfNoSlot : List Cond := .code yX5_throwIfNoSlot cX5_throwIfNoSlot 1 none :: lw_all
abbrev wsX5_throwIfFaulty : List Cond := .code yX5_throwIfFaulty cX5_throwIfFaulty 1 none :: lw_all
abbrev wsX5_isSerial : List Cond := .code yX5_isSerial cX5_isSerial 1 (some .boolean) :: lw_all
abbrev wsX5_positionsOf : List Cond := .code yX5_positionsOf cX5_positionsOf 1 (some .int) :: lw_all
abbrev wsX5_faultOfBook : List Cond := .code yX5_faultOfBook cX5_faultOfBook 3 (some .int) :: lw_all
abbrev wsX5_faultOfWriting : List Cond := .code yX5_faultOfWriting cX5_faultOfWriting 4 (some .int) :: lw_all
abbrev wsX5_faultOfRun : List Cond := .code yX5_faultOfRun cX5_faultOfRun 2 (some .int) :: lw_all
abbrev wsX5_runOrders : List Cond := .code yX5_runOrders cX5_runOrders 5 (some .int) :: lw_all
abbrev wsX5_runOrder : List Cond := .code yX5_runOrder cX5_runOrder 5 (some .boolean) :: lw_all
abbrev wsX5_runBook : List Cond := .code yX5_runBook cX5_runBook 3 (some .boolean) :: lw_all
abbrev wsX5_runWriting : List Cond := .code yX5_runWriting cX5_runWriting 3 (some .boolean) :: lw_all
abbrev wsX5_runVoiding : List Cond := .code yX5_runVoiding cX5_runVoiding 3 (some .boolean) :: lw_all
abbrev wsX5_copyRow : List Cond := .code yX5_copyRow cX5_copyRow 3 none :: lw_all
abbrev wsX6_init : List Cond := .code yX6_init cX6_init 2 none :: lw_all
abbrev wsX6_thrown : List Cond := .code yX6_thrown cX6_thrown 1 (some .int) :: lw_all
abbrev wsX6_refuses : List Cond := .code yX6_refuses cX6_refuses 2 (some .int) :: lw_all
abbrev wsX6_in : List Cond := .code yX6_in cX6_in 3 (some .boolean) :: lw_all
abbrev wsX6_isSerial : List Cond := .code yX6_isSerial cX6_isSerial 1 (some .boolean) :: lw_all
abbrev wsX6_isLetter : List Cond := .code yX6_isLetter cX6_isLetter 1 (some .boolean) :: lw_all
abbrev wsX6_lays : List Cond := .code yX6_lays cX6_lays 5 none :: lw_all
abbrev wsX6_saves : List Cond := .code yX6_saves cX6_saves 2 none :: lw_all
abbrev wsX6_digit : List Cond := .code yX6_digit cX6_digit 4 (some .int) :: lw_all
abbrev wsX6_letterOf : List Cond := .code yX6_letterOf cX6_letterOf 4 (some .int) :: lw_all
abbrev wsX6_firstOf : List Cond := .code yX6_firstOf cX6_firstOf 2 (some .int) :: lw_all
abbrev wsX6_countOf : List Cond := .code yX6_countOf cX6_countOf 2 (some .int) :: lw_all
abbrev wsX6_spotOf : List Cond := .code yX6_spotOf cX6_spotOf 5 (some .int) :: lw_all
abbrev wsX6_serialAt : List Cond := .code yX6_serialAt cX6_serialAt 2 (some .int) :: lw_all
abbrev wsX6_isCheque : List Cond := .code yX6_isCheque cX6_isCheque 2 (some .boolean) :: lw_all
abbrev wsX6_isTaken : List Cond := .code yX6_isTaken cX6_isTaken 5 (some .boolean) :: lw_all
abbrev wsX6_canBook : List Cond := .code yX6_canBook cX6_canBook 3 (some .boolean) :: lw_all
abbrev wsX6_books : List Cond := .code yX6_books cX6_books 5 (some .int) :: lw_all
abbrev wsX6_writes : List Cond := .code yX6_writes cX6_writes 3 none :: lw_all
abbrev wsX6_cashes : List Cond := .code yX6_cashes cX6_cashes 5 (some .int) :: lw_all
abbrev wsX6_voids : List Cond := .code yX6_voids cX6_voids 6 (some .int) :: lw_all
abbrev wsX6_weight : List Cond := .code yX6_weight cX6_weight 4 (some .int) :: lw_all
abbrev wsX6_modulus : List Cond := .code yX6_modulus cX6_modulus 3 (some .int) :: lw_all
abbrev wsX6_book : List Cond := .code yX6_book cX6_book 3 (some .int) :: lw_all
abbrev wsX6_write : List Cond := .code yX6_write cX6_write 4 (some .int) :: lw_all
abbrev wsX6_cash : List Cond := .code yX6_cash cX6_cash 3 (some .int) :: lw_all
abbrev wsX6_voidRun : List Cond := .code yX6_voidRun cX6_voidRun 3 (some .int) :: lw_all
abbrev wsX6_append : List Cond := .code yX6_append cX6_append 2 (some .int) :: lw_all
abbrev wsX6_clearBuffer : List Cond := .code yX6_clearBuffer cX6_clearBuffer 2 (some .int) :: lw_all
abbrev wsX6_sees : List Cond := .code yX6_sees cX6_sees 3 (some .boolean) :: lw_all
abbrev wsX6_takes : List Cond := .code yX6_takes cX6_takes 3 (some .boolean) :: lw_all
abbrev wsX6_isSix : List Cond := .code yX6_isSix cX6_isSix 4 (some .boolean) :: lw_all
abbrev wsX6_isNumber : List Cond := .code yX6_isNumber cX6_isNumber 3 (some .boolean) :: lw_all
abbrev wsX6_isSign : List Cond := .code yX6_isSign cX6_isSign 1 (some .boolean) :: lw_all
abbrev wsX6_isOrder : List Cond := .code yX6_isOrder cX6_isOrder 2 (some .boolean) :: lw_all
abbrev wsX6_isWhole : List Cond := .code yX6_isWhole cX6_isWhole 2 (some .boolean) :: lw_all
abbrev wsX6_firstError : List Cond := .code yX6_firstError cX6_firstError 1 (some .int) :: lw_all
abbrev wsX6_isDone : List Cond := .code yX6_isDone cX6_isDone 6 (some .boolean) :: lw_all
abbrev wsX6_execute : List Cond := .code yX6_execute cX6_execute 2 (some .int) :: lw_all
abbrev wsX6_undo : List Cond := .code yX6_undo cX6_undo 1 (some .int) :: lw_all
abbrev wsX6_keep : List Cond := .code yX6_keep cX6_keep 2 (some .int) :: lw_all
abbrev wsX6_goBack : List Cond := .code yX6_goBack cX6_goBack 2 (some .int) :: lw_all
abbrev wsX6_letter : List Cond := .code yX6_letter cX6_letter 2 (some .int) :: lw_all
abbrev wsX6_runFrom : List Cond := .code yX6_runFrom cX6_runFrom 3 (some .int) :: lw_all
abbrev wsX6_aboutCheque : List Cond := .code yX6_aboutCheque cX6_aboutCheque 3 (some .int) :: lw_all
abbrev wsX6_cheque : List Cond := .code yX6_cheque cX6_cheque 4 (some .int) :: lw_all
abbrev wsX6_ofKind : List Cond := .code yX6_ofKind cX6_ofKind 6 (some .int) :: lw_all
abbrev wsX6_amounts : List Cond := .code yX6_amounts cX6_amounts 6 (some .int) :: lw_all
abbrev wsX6_firstBlank : List Cond := .code yX6_firstBlank cX6_firstBlank 3 (some .int) :: lw_all
abbrev wsX6_aboutBook : List Cond := .code yX6_aboutBook cX6_aboutBook 4 (some .int) :: lw_all
abbrev wsX6_bookOf : List Cond := .code yX6_bookOf cX6_bookOf 3 (some .int) :: lw_all
abbrev wsX6_cheques : List Cond := .code yX6_cheques cX6_cheques 3 (some .int) :: lw_all
abbrev wsX6_counted : List Cond := .code yX6_counted cX6_counted 3 (some .int) :: lw_all
abbrev wsX6_count : List Cond := .code yX6_count cX6_count 2 (some .int) :: lw_all
abbrev wsX6_next : List Cond := .code yX6_next cX6_next 5 (some .int) :: lw_all
abbrev wsX6_ranked : List Cond := .code yX6_ranked cX6_ranked 4 (some .int) :: lw_all
abbrev wsX6_isLeft : List Cond := .code yX6_isLeft cX6_isLeft 3 (some .boolean) :: lw_all
abbrev wsX6_missedDigits : List Cond := .code yX6_missedDigits cX6_missedDigits 5 (some .int) :: lw_all
abbrev wsX6_missedSwaps : List Cond := .code yX6_missedSwaps cX6_missedSwaps 5 (some .int) :: lw_all
abbrev wsX6_missed : List Cond := .code yX6_missed cX6_missed 3 (some .int) :: lw_all
abbrev wsX6_pairs : List Cond := .code yX6_pairs cX6_pairs 4 (some .int) :: lw_all
abbrev wsX6_weakAt : List Cond := .code yX6_weakAt cX6_weakAt 3 (some .int) :: lw_all
abbrev wsX6_weak : List Cond := .code yX6_weak cX6_weak 4 (some .int) :: lw_all
abbrev wsX6_weakOf : List Cond := .code yX6_weakOf cX6_weakOf 4 (some .int) :: lw_all
abbrev wsX6_finds : List Cond := .code yX6_finds cX6_finds 2 (some .boolean) :: lw_all
abbrev wsX6_bestWeight : List Cond := .code yX6_bestWeight cX6_bestWeight 8 (some .int) :: lw_all
abbrev wsX6_way : List Cond := .code yX6_way cX6_way 6 (some .int) :: lw_all
abbrev wsX6_slipOf : List Cond := .code yX6_slipOf cX6_slipOf 5 (some .int) :: lw_all
abbrev wsX6_meantBy : List Cond := .code yX6_meantBy cX6_meantBy 7 (some .int) :: lw_all
abbrev wsX6_meant : List Cond := .code yX6_meant cX6_meant 4 (some .int) :: lw_all
abbrev wsX6_slip : List Cond := .code yX6_slip cX6_slip 4 (some .int) :: lw_all
abbrev wsX6_cashed : List Cond := .code yX6_cashed cX6_cashed 4 (some .double) :: lw_all
