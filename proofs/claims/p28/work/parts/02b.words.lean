
set_option maxRecDepth 20000 in
theorem wd_0 : (.selects RX5 yX5_faultOfBook yX5_faultOfBook : Cond) ∈ lw_all := in_all 0 (by decide +kernel) (by decide +kernel)
set_option maxRecDepth 20000 in
theorem wd_1 : (.selects "java/lang/Throwable" ⟨"java/lang/Throwable", "fillInStackTrace", "(I)Ljava/lang/Throwable;"⟩ ⟨"java/lang/Throwable", "fillInStackTrace", "(I)Ljava/lang/Throwable;"⟩ : Cond) ∈ lw_all := in_all 1 (by decide +kernel) (by decide +kernel)
set_option maxRecDepth 20000 in
theorem wd_2 : (.selects RX1 yX1_dropOldest yX1_dropOldest : Cond) ∈ lw_all := in_all 2 (by decide +kernel) (by decide +kernel)
set_option maxRecDepth 20000 in
theorem wd_3 : (.selects RX0 yX0_setCell yX0_setCell : Cond) ∈ lw_all := in_all 3 (by decide +kernel) (by decide +kernel)
set_option maxRecDepth 20000 in
theorem wd_4 : (.selects RX5 yX5_faultOfWriting yX5_faultOfWriting : Cond) ∈ lw_all := in_all 4 (by decide +kernel) (by decide +kernel)
set_option maxRecDepth 20000 in
theorem wd_5 : (.selects RX2 yX2_restOf yX2_restOf : Cond) ∈ lw_all := in_all 5 (by decide +kernel) (by decide +kernel)
set_option maxRecDepth 20000 in
theorem wd_6 : (.selects RX4 yX4_reasonAgainstCashing yX4_reasonAgainstCashing : Cond) ∈ lw_all := in_all 6 (by decide +kernel) (by decide +kernel)
set_option maxRecDepth 20000 in
theorem wd_7 : (.selects RX0 yX0_amountsOf yX0_amountsOf : Cond) ∈ lw_all := in_all 7 (by decide +kernel) (by decide +kernel)
set_option maxRecDepth 20000 in
theorem wd_8 : (.selects RX0 yX0_firstBlankOf yX0_firstBlankOf : Cond) ∈ lw_all := in_all 8 (by decide +kernel) (by decide +kernel)
set_option maxRecDepth 20000 in
theorem wd_9 : (.selects RX0 yX0_chequesOf yX0_chequesOf : Cond) ∈ lw_all := in_all 9 (by decide +kernel) (by decide +kernel)
set_option maxRecDepth 20000 in
theorem wd_10 : (.selects RX0 yX0_makeVoid yX0_makeVoid : Cond) ∈ lw_all := in_all 10 (by decide +kernel) (by decide +kernel)
set_option maxRecDepth 20000 in
theorem wd_11 : (.selects RX3 yX3_fits yX3_fits : Cond) ∈ lw_all := in_all 11 (by decide +kernel) (by decide +kernel)
set_option maxRecDepth 20000 in
theorem wd_12 : (.selects RX3 yX3_isWhole yX3_isWhole : Cond) ∈ lw_all := in_all 12 (by decide +kernel) (by decide +kernel)
set_option maxRecDepth 20000 in
theorem wd_13 : (.selects RX3 yX3_fitsBehindHead yX3_fitsBehindHead : Cond) ∈ lw_all := in_all 13 (by decide +kernel) (by decide +kernel)
set_option maxRecDepth 20000 in
theorem wd_14 : (.selects RX5 yX5_runOrders yX5_runOrders : Cond) ∈ lw_all := in_all 14 (by decide +kernel) (by decide +kernel)
set_option maxRecDepth 20000 in
theorem wd_15 : (.selects RX5 yX5_runOrder yX5_runOrder : Cond) ∈ lw_all := in_all 15 (by decide +kernel) (by decide +kernel)
set_option maxRecDepth 20000 in
theorem wd_16 : (.selects RX5 yX5_runBook yX5_runBook : Cond) ∈ lw_all := in_all 16 (by decide +kernel) (by decide +kernel)
set_option maxRecDepth 20000 in
theorem wd_17 : (.selects RX5 yX5_runWriting yX5_runWriting : Cond) ∈ lw_all := in_all 17 (by decide +kernel) (by decide +kernel)
set_option maxRecDepth 20000 in
theorem wd_18 : (.selects RX5 yX5_runVoiding yX5_runVoiding : Cond) ∈ lw_all := in_all 18 (by decide +kernel) (by decide +kernel)
set_option maxRecDepth 20000 in
theorem wd_19 : (.selects RX0 yX0_booksBefore yX0_booksBefore : Cond) ∈ lw_all := in_all 19 (by decide +kernel) (by decide +kernel)
set_option maxRecDepth 20000 in
theorem wd_20 : (.selects RX2 yX2_isHidden yX2_isHidden : Cond) ∈ lw_all := in_all 20 (by decide +kernel) (by decide +kernel)
set_option maxRecDepth 20000 in
theorem wd_21 : (.initialized RL : Cond) ∈ lw_all := in_all 21 (by decide +kernel) (by decide +kernel)
set_option maxRecDepth 20000 in
theorem wd_22 : (.initialized RX5 : Cond) ∈ lw_all := in_all 22 (by decide +kernel) (by decide +kernel)
set_option maxRecDepth 20000 in
theorem wd_23 : (.initialized RX4 : Cond) ∈ lw_all := in_all 23 (by decide +kernel) (by decide +kernel)
set_option maxRecDepth 20000 in
theorem wd_24 : (.initialized RX2 : Cond) ∈ lw_all := in_all 24 (by decide +kernel) (by decide +kernel)
set_option maxRecDepth 20000 in
theorem wd_25 : (.initialized RX0 : Cond) ∈ lw_all := in_all 25 (by decide +kernel) (by decide +kernel)
set_option maxRecDepth 20000 in
theorem wd_26 : (.initialized RX1 : Cond) ∈ lw_all := in_all 26 (by decide +kernel) (by decide +kernel)
set_option maxRecDepth 20000 in
theorem wd_27 : (.initialized RX3 : Cond) ∈ lw_all := in_all 27 (by decide +kernel) (by decide +kernel)
set_option maxRecDepth 20000 in
theorem wd_28 : (.initialized "java/lang/Throwable" : Cond) ∈ lw_all := in_all 28 (by decide +kernel) (by decide +kernel)
set_option maxRecDepth 20000 in
theorem wd_29 : (.initialized "java/lang/Exception" : Cond) ∈ lw_all := in_all 29 (by decide +kernel) (by decide +kernel)
set_option maxRecDepth 20000 in
theorem wd_30 : (.initialized "java/lang/RuntimeException" : Cond) ∈ lw_all := in_all 30 (by decide +kernel) (by decide +kernel)
set_option maxRecDepth 20000 in
theorem wd_31 : (.initialized "java/lang/IndexOutOfBoundsException" : Cond) ∈ lw_all := in_all 31 (by decide +kernel) (by decide +kernel)
set_option maxRecDepth 20000 in
theorem wd_32 : (.initialized "java/lang/IllegalArgumentException" : Cond) ∈ lw_all := in_all 32 (by decide +kernel) (by decide +kernel)
set_option maxRecDepth 20000 in
theorem wd_33 : (.initialized "java/lang/IllegalStateException" : Cond) ∈ lw_all := in_all 33 (by decide +kernel) (by decide +kernel)
set_option maxRecDepth 20000 in
theorem wd_34 : (.initialized "java/lang/Math" : Cond) ∈ lw_all := in_all 34 (by decide +kernel) (by decide +kernel)
set_option maxRecDepth 20000 in
theorem wd_35 : (.classLink RL 10 RX5 : Cond) ∈ lw_all := in_all 35 (by decide +kernel) (by decide +kernel)
set_option maxRecDepth 20000 in
theorem wd_36 : (.instantiable RX5 3 : Cond) ∈ lw_all := in_all 36 (by decide +kernel) (by decide +kernel)
set_option maxRecDepth 20000 in
theorem wd_37 : (.methodLink RL 116 yX5_init : Cond) ∈ lw_all := in_all 37 (by decide +kernel) (by decide +kernel)
set_option maxRecDepth 20000 in
theorem wd_38 : (.instanceMethod yX5_init : Cond) ∈ lw_all := in_all 38 (by decide +kernel) (by decide +kernel)
set_option maxRecDepth 20000 in
theorem wd_39 : (.code yX5_init cX5_init 1 none : Cond) ∈ lw_all := in_all 39 (by decide +kernel) (by decide +kernel)
set_option maxRecDepth 20000 in
theorem wd_40 : (.methodLink RX5 1 objectInit : Cond) ∈ lw_all := in_all 40 (by decide +kernel) (by decide +kernel)
set_option maxRecDepth 20000 in
theorem wd_41 : (.instanceMethod objectInit : Cond) ∈ lw_all := in_all 41 (by decide +kernel) (by decide +kernel)
set_option maxRecDepth 20000 in
theorem wd_42 : (.code objectInit object_method_1_code 1 none : Cond) ∈ lw_all := in_all 42 (by decide +kernel) (by decide +kernel)
set_option maxRecDepth 20000 in
theorem wd_43 : (.classLink RX5 7 RX4 : Cond) ∈ lw_all := in_all 43 (by decide +kernel) (by decide +kernel)
set_option maxRecDepth 20000 in
theorem wd_44 : (.instantiable RX4 3 : Cond) ∈ lw_all := in_all 44 (by decide +kernel) (by decide +kernel)
set_option maxRecDepth 20000 in
theorem wd_46 : (.instanceMethod yX4_init : Cond) ∈ lw_all := in_all 46 (by decide +kernel) (by decide +kernel)
set_option maxRecDepth 20000 in
theorem wd_47 : (.code yX4_init cX4_init 1 none : Cond) ∈ lw_all := in_all 47 (by decide +kernel) (by decide +kernel)
set_option maxRecDepth 20000 in
theorem wd_48 : (.methodLink RX4 3 objectInit : Cond) ∈ lw_all := in_all 48 (by decide +kernel) (by decide +kernel)
set_option maxRecDepth 20000 in
theorem wd_49 : (.classLink RX4 9 RX2 : Cond) ∈ lw_all := in_all 49 (by decide +kernel) (by decide +kernel)
set_option maxRecDepth 20000 in
theorem wd_50 : (.instantiable RX2 2 : Cond) ∈ lw_all := in_all 50 (by decide +kernel) (by decide +kernel)
set_option maxRecDepth 20000 in
theorem wd_51 : (.methodLink RX4 11 yX2_init : Cond) ∈ lw_all := in_all 51 (by decide +kernel) (by decide +kernel)
set_option maxRecDepth 20000 in
theorem wd_52 : (.instanceMethod yX2_init : Cond) ∈ lw_all := in_all 52 (by decide +kernel) (by decide +kernel)
set_option maxRecDepth 20000 in
theorem wd_53 : (.code yX2_init cX2_init 2 none : Cond) ∈ lw_all := in_all 53 (by decide +kernel) (by decide +kernel)
set_option maxRecDepth 20000 in
theorem wd_54 : (.methodLink RX2 3 objectInit : Cond) ∈ lw_all := in_all 54 (by decide +kernel) (by decide +kernel)
set_option maxRecDepth 20000 in
theorem wd_55 : (.fieldLink RX2 9 "ChequeSerials$Letters" "weights" "[I" : Cond) ∈ lw_all := in_all 55 (by decide +kernel) (by decide +kernel)
set_option maxRecDepth 20000 in
theorem wd_56 : (.fieldLink RX2 15 "ChequeSerials$Letters" "modulus" "I" : Cond) ∈ lw_all := in_all 56 (by decide +kernel) (by decide +kernel)
set_option maxRecDepth 20000 in
theorem wd_57 : (.fieldLink RX5 61 "ChequeSerials$Letters" "modulus" "I" : Cond) ∈ lw_all := in_all 57 (by decide +kernel) (by decide +kernel)
set_option maxRecDepth 20000 in
theorem wd_63 : (.arrayClass .int : Cond) ∈ lw_all := in_all 63 (by decide +kernel) (by decide +kernel)
set_option maxRecDepth 20000 in
theorem wd_64 : (.classLink RX4 18 RX0 : Cond) ∈ lw_all := in_all 64 (by decide +kernel) (by decide +kernel)
set_option maxRecDepth 20000 in
theorem wd_65 : (.instantiable RX0 5 : Cond) ∈ lw_all := in_all 65 (by decide +kernel) (by decide +kernel)
set_option maxRecDepth 20000 in
theorem wd_67 : (.instanceMethod yX0_init : Cond) ∈ lw_all := in_all 67 (by decide +kernel) (by decide +kernel)
set_option maxRecDepth 20000 in
theorem wd_68 : (.code yX0_init cX0_init 1 none : Cond) ∈ lw_all := in_all 68 (by decide +kernel) (by decide +kernel)
set_option maxRecDepth 20000 in
theorem wd_69 : (.methodLink RX0 3 objectInit : Cond) ∈ lw_all := in_all 69 (by decide +kernel) (by decide +kernel)
set_option maxRecDepth 20000 in
theorem wd_70 : (.fieldLink RX0 9 "ChequeSerials$Books" "firsts" "[I" : Cond) ∈ lw_all := in_all 70 (by decide +kernel) (by decide +kernel)
set_option maxRecDepth 20000 in
theorem wd_71 : (.fieldLink RX0 15 "ChequeSerials$Books" "sizes" "[I" : Cond) ∈ lw_all := in_all 71 (by decide +kernel) (by decide +kernel)
set_option maxRecDepth 20000 in
theorem wd_72 : (.fieldLink RX0 18 "ChequeSerials$Books" "kinds" "[I" : Cond) ∈ lw_all := in_all 72 (by decide +kernel) (by decide +kernel)
set_option maxRecDepth 20000 in
theorem wd_73 : (.fieldLink RX0 21 "ChequeSerials$Books" "amounts" "[I" : Cond) ∈ lw_all := in_all 73 (by decide +kernel) (by decide +kernel)
set_option maxRecDepth 20000 in
theorem wd_74 : (.fieldLink RX0 28 "ChequeSerials$Books" "held" "I" : Cond) ∈ lw_all := in_all 74 (by decide +kernel) (by decide +kernel)
set_option maxRecDepth 20000 in
theorem wd_75 : (.fieldLink RX4 57 "ChequeSerials$Books" "held" "I" : Cond) ∈ lw_all := in_all 75 (by decide +kernel) (by decide +kernel)
set_option maxRecDepth 20000 in
theorem wd_76 : (.fieldLink RX5 151 "ChequeSerials$Books" "held" "I" : Cond) ∈ lw_all := in_all 76 (by decide +kernel) (by decide +kernel)
set_option maxRecDepth 20000 in
theorem wd_88 : (.fieldLink RX4 12 "ChequeSerials$State" "letters" "LChequeSerials$Letters;" : Cond) ∈ lw_all := in_all 88 (by decide +kernel) (by decide +kernel)
set_option maxRecDepth 20000 in
theorem wd_89 : (.fieldLink RX5 45 "ChequeSerials$State" "letters" "LChequeSerials$Letters;" : Cond) ∈ lw_all := in_all 89 (by decide +kernel) (by decide +kernel)
set_option maxRecDepth 20000 in
theorem wd_90 : (.fieldLink RX4 21 "ChequeSerials$State" "books" "LChequeSerials$Books;" : Cond) ∈ lw_all := in_all 90 (by decide +kernel) (by decide +kernel)
set_option maxRecDepth 20000 in
theorem wd_91 : (.fieldLink RX5 72 "ChequeSerials$State" "books" "LChequeSerials$Books;" : Cond) ∈ lw_all := in_all 91 (by decide +kernel) (by decide +kernel)
set_option maxRecDepth 20000 in
theorem wd_92 : (.fieldLink RX4 32 "ChequeSerials$State" "refusals" "I" : Cond) ∈ lw_all := in_all 92 (by decide +kernel) (by decide +kernel)
set_option maxRecDepth 20000 in
theorem wd_93 : (.fieldLink RX5 188 "ChequeSerials$State" "refusals" "I" : Cond) ∈ lw_all := in_all 93 (by decide +kernel) (by decide +kernel)
set_option maxRecDepth 20000 in
theorem wd_101 : (.classLink RX5 16 RX1 : Cond) ∈ lw_all := in_all 101 (by decide +kernel) (by decide +kernel)
set_option maxRecDepth 20000 in
theorem wd_102 : (.instantiable RX1 4 : Cond) ∈ lw_all := in_all 102 (by decide +kernel) (by decide +kernel)
set_option maxRecDepth 20000 in
theorem wd_103 : (.methodLink RX5 18 yX1_init : Cond) ∈ lw_all := in_all 103 (by decide +kernel) (by decide +kernel)
set_option maxRecDepth 20000 in
theorem wd_104 : (.instanceMethod yX1_init : Cond) ∈ lw_all := in_all 104 (by decide +kernel) (by decide +kernel)
set_option maxRecDepth 20000 in
theorem wd_105 : (.code yX1_init cX1_init 2 none : Cond) ∈ lw_all := in_all 105 (by decide +kernel) (by decide +kernel)
set_option maxRecDepth 20000 in
theorem wd_106 : (.methodLink RX1 3 objectInit : Cond) ∈ lw_all := in_all 106 (by decide +kernel) (by decide +kernel)
set_option maxRecDepth 20000 in
theorem wd_107 : (.classLink RX1 9 RX4 : Cond) ∈ lw_all := in_all 107 (by decide +kernel) (by decide +kernel)
set_option maxRecDepth 20000 in
theorem wd_110 : (.fieldLink RX1 11 "ChequeSerials$History" "saved" "[LChequeSerials$State;" : Cond) ∈ lw_all := in_all 110 (by decide +kernel) (by decide +kernel)
set_option maxRecDepth 20000 in
theorem wd_111 : (.fieldLink RX1 17 "ChequeSerials$History" "slots" "[LChequeSerials$State;" : Cond) ∈ lw_all := in_all 111 (by decide +kernel) (by decide +kernel)
set_option maxRecDepth 20000 in
theorem wd_112 : (.fieldLink RX1 20 "ChequeSerials$History" "filled" "[Z" : Cond) ∈ lw_all := in_all 112 (by decide +kernel) (by decide +kernel)
set_option maxRecDepth 20000 in
theorem wd_113 : (.fieldLink RX1 25 "ChequeSerials$History" "depth" "I" : Cond) ∈ lw_all := in_all 113 (by decide +kernel) (by decide +kernel)
set_option maxRecDepth 20000 in
theorem wd_114 : (.fieldLink RX5 136 "ChequeSerials$History" "depth" "I" : Cond) ∈ lw_all := in_all 114 (by decide +kernel) (by decide +kernel)
set_option maxRecDepth 20000 in
theorem wd_124 : (.arrayClass .boolean : Cond) ∈ lw_all := in_all 124 (by decide +kernel) (by decide +kernel)
set_option maxRecDepth 20000 in
theorem wd_125 : (.classLink RX5 23 RX3 : Cond) ∈ lw_all := in_all 125 (by decide +kernel) (by decide +kernel)
set_option maxRecDepth 20000 in
theorem wd_126 : (.instantiable RX3 2 : Cond) ∈ lw_all := in_all 126 (by decide +kernel) (by decide +kernel)
set_option maxRecDepth 20000 in
theorem wd_128 : (.instanceMethod yX3_init : Cond) ∈ lw_all := in_all 128 (by decide +kernel) (by decide +kernel)
set_option maxRecDepth 20000 in
theorem wd_129 : (.code yX3_init cX3_init 1 none : Cond) ∈ lw_all := in_all 129 (by decide +kernel) (by decide +kernel)
set_option maxRecDepth 20000 in
theorem wd_130 : (.methodLink RX3 3 objectInit : Cond) ∈ lw_all := in_all 130 (by decide +kernel) (by decide +kernel)
set_option maxRecDepth 20000 in
theorem wd_131 : (.fieldLink RX3 9 "ChequeSerials$OrderText" "signs" "[I" : Cond) ∈ lw_all := in_all 131 (by decide +kernel) (by decide +kernel)
set_option maxRecDepth 20000 in
theorem wd_132 : (.fieldLink RX3 15 "ChequeSerials$OrderText" "length" "I" : Cond) ∈ lw_all := in_all 132 (by decide +kernel) (by decide +kernel)
set_option maxRecDepth 20000 in
theorem wd_133 : (.fieldLink RX5 191 "ChequeSerials$OrderText" "length" "I" : Cond) ∈ lw_all := in_all 133 (by decide +kernel) (by decide +kernel)
set_option maxRecDepth 20000 in
theorem wd_139 : (.fieldLink RX5 10 "ChequeSerials" "now" "LChequeSerials$State;" : Cond) ∈ lw_all := in_all 139 (by decide +kernel) (by decide +kernel)
set_option maxRecDepth 20000 in
theorem wd_140 : (.fieldLink RX5 19 "ChequeSerials" "history" "LChequeSerials$History;" : Cond) ∈ lw_all := in_all 140 (by decide +kernel) (by decide +kernel)
set_option maxRecDepth 20000 in
theorem wd_141 : (.fieldLink RX5 26 "ChequeSerials" "orders" "LChequeSerials$OrderText;" : Cond) ∈ lw_all := in_all 141 (by decide +kernel) (by decide +kernel)
set_option maxRecDepth 20000 in
theorem wd_149 : (.methodLink RL 19 yX5_book : Cond) ∈ lw_all := in_all 149 (by decide +kernel) (by decide +kernel)
set_option maxRecDepth 20000 in
theorem wd_150 : (.instanceMethod yX5_book : Cond) ∈ lw_all := in_all 150 (by decide +kernel) (by decide +kernel)
set_option maxRecDepth 20000 in
theorem wd_151 : (.selects RX5 yX5_book yX5_book : Cond) ∈ lw_all := in_all 151 (by decide +kernel) (by decide +kernel)
set_option maxRecDepth 20000 in
theorem wd_152 : (.code yX5_book cX5_book 3 (some .int) : Cond) ∈ lw_all := in_all 152 (by decide +kernel) (by decide +kernel)
set_option maxRecDepth 20000 in
theorem wd_153 : (.methodLink RX5 65 yX5_faultOfBook : Cond) ∈ lw_all := in_all 153 (by decide +kernel) (by decide +kernel)
set_option maxRecDepth 20000 in
theorem wd_155 : (.instanceMethod yX5_faultOfBook : Cond) ∈ lw_all := in_all 155 (by decide +kernel) (by decide +kernel)
set_option maxRecDepth 20000 in
theorem wd_156 : (.code yX5_faultOfBook cX5_faultOfBook 3 (some .int) : Cond) ∈ lw_all := in_all 156 (by decide +kernel) (by decide +kernel)
set_option maxRecDepth 20000 in
theorem wd_157 : (.methodLink RX5 242 yX5_isSerial : Cond) ∈ lw_all := in_all 157 (by decide +kernel) (by decide +kernel)
set_option maxRecDepth 20000 in
theorem wd_158 : (.static yX5_isSerial : Cond) ∈ lw_all := in_all 158 (by decide +kernel) (by decide +kernel)
set_option maxRecDepth 20000 in
theorem wd_159 : (.code yX5_isSerial cX5_isSerial 1 (some .boolean) : Cond) ∈ lw_all := in_all 159 (by decide +kernel) (by decide +kernel)
set_option maxRecDepth 20000 in
theorem wd_160 : (.constant RX5 259 (1000000) : Cond) ∈ lw_all := in_all 160 (by decide +kernel) (by decide +kernel)
set_option maxRecDepth 20000 in
theorem wd_161 : (.methodLink RX5 260 yX0_canTake : Cond) ∈ lw_all := in_all 161 (by decide +kernel) (by decide +kernel)
set_option maxRecDepth 20000 in
theorem wd_162 : (.instanceMethod yX0_canTake : Cond) ∈ lw_all := in_all 162 (by decide +kernel) (by decide +kernel)
set_option maxRecDepth 20000 in
theorem wd_163 : (.selects RX0 yX0_canTake yX0_canTake : Cond) ∈ lw_all := in_all 163 (by decide +kernel) (by decide +kernel)
set_option maxRecDepth 20000 in
theorem wd_164 : (.code yX0_canTake cX0_canTake 5 (some .boolean) : Cond) ∈ lw_all := in_all 164 (by decide +kernel) (by decide +kernel)
set_option maxRecDepth 20000 in
theorem wd_165 : (.methodLink RX0 32 yX0_firstOf : Cond) ∈ lw_all := in_all 165 (by decide +kernel) (by decide +kernel)
set_option maxRecDepth 20000 in
theorem wd_166 : (.instanceMethod yX0_firstOf : Cond) ∈ lw_all := in_all 166 (by decide +kernel) (by decide +kernel)
set_option maxRecDepth 20000 in
theorem wd_167 : (.selects RX0 yX0_firstOf yX0_firstOf : Cond) ∈ lw_all := in_all 167 (by decide +kernel) (by decide +kernel)
set_option maxRecDepth 20000 in
theorem wd_168 : (.code yX0_firstOf cX0_firstOf 2 (some .int) : Cond) ∈ lw_all := in_all 168 (by decide +kernel) (by decide +kernel)
set_option maxRecDepth 20000 in
theorem wd_169 : (.methodLink RX0 36 yX0_sizeOf : Cond) ∈ lw_all := in_all 169 (by decide +kernel) (by decide +kernel)
set_option maxRecDepth 20000 in
theorem wd_170 : (.instanceMethod yX0_sizeOf : Cond) ∈ lw_all := in_all 170 (by decide +kernel) (by decide +kernel)
set_option maxRecDepth 20000 in
theorem wd_171 : (.selects RX0 yX0_sizeOf yX0_sizeOf : Cond) ∈ lw_all := in_all 171 (by decide +kernel) (by decide +kernel)
set_option maxRecDepth 20000 in
theorem wd_172 : (.code yX0_sizeOf cX0_sizeOf 2 (some .int) : Cond) ∈ lw_all := in_all 172 (by decide +kernel) (by decide +kernel)
set_option maxRecDepth 20000 in
theorem wd_173 : (.methodLink RX5 69 yX5_throwIfFaulty : Cond) ∈ lw_all := in_all 173 (by decide +kernel) (by decide +kernel)
set_option maxRecDepth 20000 in
theorem wd_174 : (.static yX5_throwIfFaulty : Cond) ∈ lw_all := in_all 174 (by decide +kernel) (by decide +kernel)
set_option maxRecDepth 20000 in
theorem wd_175 : (.code yX5_throwIfFaulty cX5_throwIfFaulty 1 none : Cond) ∈ lw_all := in_all 175 (by decide +kernel) (by decide +kernel)
set_option maxRecDepth 20000 in
theorem wd_176 : (.classLink RX5 163 "java/lang/IndexOutOfBoundsException" : Cond) ∈ lw_all := in_all 176 (by decide +kernel) (by decide +kernel)
set_option maxRecDepth 20000 in
theorem wd_177 : (.instantiable "java/lang/IndexOutOfBoundsException" 6 : Cond) ∈ lw_all := in_all 177 (by decide +kernel) (by decide +kernel)
set_option maxRecDepth 20000 in
theorem wd_185 : (.selects "java/lang/IndexOutOfBoundsException" ⟨"java/lang/Throwable", "fillInStackTrace", "(I)Ljava/lang/Throwable;"⟩ ⟨"java/lang/Throwable", "fillInStackTrace", "(I)Ljava/lang/Throwable;"⟩ : Cond) ∈ lw_all := in_all 185 (by decide +kernel) (by decide +kernel)
set_option maxRecDepth 20000 in
theorem wd_186 : (.selects "java/lang/IndexOutOfBoundsException" ⟨"java/lang/Throwable", "fillInStackTrace", "()Ljava/lang/Throwable;"⟩ ⟨"java/lang/Throwable", "fillInStackTrace", "()Ljava/lang/Throwable;"⟩ : Cond) ∈ lw_all := in_all 186 (by decide +kernel) (by decide +kernel)
set_option maxRecDepth 20000 in
theorem wd_197 : (.fieldLink "java/lang/Throwable" 198 "java/lang/Throwable" "backtrace" "Ljava/lang/Object;" : Cond) ∈ lw_all := in_all 197 (by decide +kernel) (by decide +kernel)
set_option maxRecDepth 20000 in
theorem wd_199 : (.instanceMethod ⟨"java/lang/Throwable", "<init>", "()V"⟩ : Cond) ∈ lw_all := in_all 199 (by decide +kernel) (by decide +kernel)
set_option maxRecDepth 20000 in
theorem wd_200 : (.code ⟨"java/lang/Throwable", "<init>", "()V"⟩ prog_16_method_1_code 1 none : Cond) ∈ lw_all := in_all 200 (by decide +kernel) (by decide +kernel)
set_option maxRecDepth 20000 in
theorem wd_201 : (.methodLink "java/lang/Throwable" 1 objectInit : Cond) ∈ lw_all := in_all 201 (by decide +kernel) (by decide +kernel)
set_option maxRecDepth 20000 in
theorem wd_202 : (.fieldLink "java/lang/Throwable" 13 "java/lang/Throwable" "UNASSIGNED_STACK" "[Ljava/lang/StackTraceElement;" : Cond) ∈ lw_all := in_all 202 (by decide +kernel) (by decide +kernel)
set_option maxRecDepth 20000 in
theorem wd_204 : (.fieldLink "java/lang/Throwable" 20 "java/lang/Throwable" "SUPPRESSED_SENTINEL" "Ljava/util/List;" : Cond) ∈ lw_all := in_all 204 (by decide +kernel) (by decide +kernel)
set_option maxRecDepth 20000 in
theorem wd_206 : (.methodLink "java/lang/Throwable" 27 ⟨"java/lang/Throwable", "fillInStackTrace", "()Ljava/lang/Throwable;"⟩ : Cond) ∈ lw_all := in_all 206 (by decide +kernel) (by decide +kernel)
set_option maxRecDepth 20000 in
theorem wd_207 : (.instanceMethod ⟨"java/lang/Throwable", "fillInStackTrace", "()Ljava/lang/Throwable;"⟩ : Cond) ∈ lw_all := in_all 207 (by decide +kernel) (by decide +kernel)
set_option maxRecDepth 20000 in
theorem wd_209 : (.selects "java/lang/IllegalArgumentException" ⟨"java/lang/Throwable", "fillInStackTrace", "()Ljava/lang/Throwable;"⟩ ⟨"java/lang/Throwable", "fillInStackTrace", "()Ljava/lang/Throwable;"⟩ : Cond) ∈ lw_all := in_all 209 (by decide +kernel) (by decide +kernel)
set_option maxRecDepth 20000 in
theorem wd_210 : (.selects "java/lang/IllegalStateException" ⟨"java/lang/Throwable", "fillInStackTrace", "()Ljava/lang/Throwable;"⟩ ⟨"java/lang/Throwable", "fillInStackTrace", "()Ljava/lang/Throwable;"⟩ : Cond) ∈ lw_all := in_all 210 (by decide +kernel) (by decide +kernel)
set_option maxRecDepth 20000 in
theorem wd_212 : (.methodLink "java/lang/Throwable" 202 ⟨"java/lang/Throwable", "fillInStackTrace", "(I)Ljava/lang/Throwable;"⟩ : Cond) ∈ lw_all := in_all 212 (by decide +kernel) (by decide +kernel)
set_option maxRecDepth 20000 in
theorem wd_214 : (.instanceMethod ⟨"java/lang/Throwable", "fillInStackTrace", "(I)Ljava/lang/Throwable;"⟩ : Cond) ∈ lw_all := in_all 214 (by decide +kernel) (by decide +kernel)
set_option maxRecDepth 20000 in
theorem wd_215 : (.instantiable "java/lang/Throwable" 6 : Cond) ∈ lw_all := in_all 215 (by decide +kernel) (by decide +kernel)
set_option maxRecDepth 20000 in
theorem wd_218 : (.methodLink RX5 167 ⟨"java/lang/IndexOutOfBoundsException", "<init>", "(Ljava/lang/String;)V"⟩ : Cond) ∈ lw_all := in_all 218 (by decide +kernel) (by decide +kernel)
set_option maxRecDepth 20000 in
theorem wd_219 : (.instanceMethod ⟨"java/lang/IndexOutOfBoundsException", "<init>", "(Ljava/lang/String;)V"⟩ : Cond) ∈ lw_all := in_all 219 (by decide +kernel) (by decide +kernel)
set_option maxRecDepth 20000 in
theorem wd_220 : (.code ⟨"java/lang/IndexOutOfBoundsException", "<init>", "(Ljava/lang/String;)V"⟩ prog_12_method_2_code 2 none : Cond) ∈ lw_all := in_all 220 (by decide +kernel) (by decide +kernel)
set_option maxRecDepth 20000 in
theorem wd_221 : (.methodLink "java/lang/IndexOutOfBoundsException" 7 ⟨"java/lang/RuntimeException", "<init>", "(Ljava/lang/String;)V"⟩ : Cond) ∈ lw_all := in_all 221 (by decide +kernel) (by decide +kernel)
set_option maxRecDepth 20000 in
theorem wd_222 : (.instanceMethod ⟨"java/lang/RuntimeException", "<init>", "(Ljava/lang/String;)V"⟩ : Cond) ∈ lw_all := in_all 222 (by decide +kernel) (by decide +kernel)
set_option maxRecDepth 20000 in
theorem wd_223 : (.code ⟨"java/lang/RuntimeException", "<init>", "(Ljava/lang/String;)V"⟩ prog_14_method_2_code 2 none : Cond) ∈ lw_all := in_all 223 (by decide +kernel) (by decide +kernel)
set_option maxRecDepth 20000 in
theorem wd_224 : (.methodLink "java/lang/RuntimeException" 7 ⟨"java/lang/Exception", "<init>", "(Ljava/lang/String;)V"⟩ : Cond) ∈ lw_all := in_all 224 (by decide +kernel) (by decide +kernel)
set_option maxRecDepth 20000 in
theorem wd_225 : (.instanceMethod ⟨"java/lang/Exception", "<init>", "(Ljava/lang/String;)V"⟩ : Cond) ∈ lw_all := in_all 225 (by decide +kernel) (by decide +kernel)
set_option maxRecDepth 20000 in
theorem wd_226 : (.code ⟨"java/lang/Exception", "<init>", "(Ljava/lang/String;)V"⟩ prog_9_method_2_code 2 none : Cond) ∈ lw_all := in_all 226 (by decide +kernel) (by decide +kernel)
set_option maxRecDepth 20000 in
theorem wd_227 : (.methodLink "java/lang/Exception" 7 ⟨"java/lang/Throwable", "<init>", "(Ljava/lang/String;)V"⟩ : Cond) ∈ lw_all := in_all 227 (by decide +kernel) (by decide +kernel)
set_option maxRecDepth 20000 in
theorem wd_228 : (.instanceMethod ⟨"java/lang/Throwable", "<init>", "(Ljava/lang/String;)V"⟩ : Cond) ∈ lw_all := in_all 228 (by decide +kernel) (by decide +kernel)
set_option maxRecDepth 20000 in
theorem wd_229 : (.code ⟨"java/lang/Throwable", "<init>", "(Ljava/lang/String;)V"⟩ prog_16_method_2_code 2 none : Cond) ∈ lw_all := in_all 229 (by decide +kernel) (by decide +kernel)
set_option maxRecDepth 20000 in
theorem wd_231 : (.fieldLink "java/lang/Throwable" 31 "java/lang/Throwable" "detailMessage" "Ljava/lang/String;" : Cond) ∈ lw_all := in_all 231 (by decide +kernel) (by decide +kernel)
set_option maxRecDepth 20000 in
theorem wd_232 : (.fieldLink "java/lang/Throwable" 7 "java/lang/Throwable" "cause" "Ljava/lang/Throwable;" : Cond) ∈ lw_all := in_all 232 (by decide +kernel) (by decide +kernel)
set_option maxRecDepth 20000 in
theorem wd_233 : (.fieldLink "java/lang/Throwable" 17 "java/lang/Throwable" "stackTrace" "[Ljava/lang/StackTraceElement;" : Cond) ∈ lw_all := in_all 233 (by decide +kernel) (by decide +kernel)
set_option maxRecDepth 20000 in
theorem wd_234 : (.fieldLink "java/lang/Throwable" 24 "java/lang/Throwable" "suppressedExceptions" "Ljava/util/List;" : Cond) ∈ lw_all := in_all 234 (by decide +kernel) (by decide +kernel)
set_option maxRecDepth 20000 in
theorem wd_243 : (.arrayClass .byte : Cond) ∈ lw_all := in_all 243 (by decide +kernel) (by decide +kernel)
set_option maxRecDepth 20000 in
theorem wd_244 : (.classLink RX5 34 "java/lang/IllegalArgumentException" : Cond) ∈ lw_all := in_all 244 (by decide +kernel) (by decide +kernel)
set_option maxRecDepth 20000 in
theorem wd_245 : (.instantiable "java/lang/IllegalArgumentException" 6 : Cond) ∈ lw_all := in_all 245 (by decide +kernel) (by decide +kernel)
set_option maxRecDepth 20000 in
theorem wd_247 : (.selects "java/lang/IllegalArgumentException" ⟨"java/lang/Throwable", "fillInStackTrace", "(I)Ljava/lang/Throwable;"⟩ ⟨"java/lang/Throwable", "fillInStackTrace", "(I)Ljava/lang/Throwable;"⟩ : Cond) ∈ lw_all := in_all 247 (by decide +kernel) (by decide +kernel)
set_option maxRecDepth 20000 in
theorem wd_254 : (.methodLink RX5 38 ⟨"java/lang/IllegalArgumentException", "<init>", "(Ljava/lang/String;)V"⟩ : Cond) ∈ lw_all := in_all 254 (by decide +kernel) (by decide +kernel)
set_option maxRecDepth 20000 in
theorem wd_255 : (.instanceMethod ⟨"java/lang/IllegalArgumentException", "<init>", "(Ljava/lang/String;)V"⟩ : Cond) ∈ lw_all := in_all 255 (by decide +kernel) (by decide +kernel)
set_option maxRecDepth 20000 in
theorem wd_256 : (.code ⟨"java/lang/IllegalArgumentException", "<init>", "(Ljava/lang/String;)V"⟩ prog_10_method_2_code 2 none : Cond) ∈ lw_all := in_all 256 (by decide +kernel) (by decide +kernel)
set_option maxRecDepth 20000 in
theorem wd_257 : (.methodLink "java/lang/IllegalArgumentException" 7 ⟨"java/lang/RuntimeException", "<init>", "(Ljava/lang/String;)V"⟩ : Cond) ∈ lw_all := in_all 257 (by decide +kernel) (by decide +kernel)
set_option maxRecDepth 20000 in
theorem wd_260 : (.classLink RX5 114 "java/lang/IllegalStateException" : Cond) ∈ lw_all := in_all 260 (by decide +kernel) (by decide +kernel)
set_option maxRecDepth 20000 in
theorem wd_261 : (.instantiable "java/lang/IllegalStateException" 6 : Cond) ∈ lw_all := in_all 261 (by decide +kernel) (by decide +kernel)
set_option maxRecDepth 20000 in
theorem wd_263 : (.selects "java/lang/IllegalStateException" ⟨"java/lang/Throwable", "fillInStackTrace", "(I)Ljava/lang/Throwable;"⟩ ⟨"java/lang/Throwable", "fillInStackTrace", "(I)Ljava/lang/Throwable;"⟩ : Cond) ∈ lw_all := in_all 263 (by decide +kernel) (by decide +kernel)
set_option maxRecDepth 20000 in
theorem wd_270 : (.methodLink RX5 118 ⟨"java/lang/IllegalStateException", "<init>", "(Ljava/lang/String;)V"⟩ : Cond) ∈ lw_all := in_all 270 (by decide +kernel) (by decide +kernel)
set_option maxRecDepth 20000 in
theorem wd_271 : (.instanceMethod ⟨"java/lang/IllegalStateException", "<init>", "(Ljava/lang/String;)V"⟩ : Cond) ∈ lw_all := in_all 271 (by decide +kernel) (by decide +kernel)
set_option maxRecDepth 20000 in
theorem wd_272 : (.code ⟨"java/lang/IllegalStateException", "<init>", "(Ljava/lang/String;)V"⟩ prog_11_method_2_code 2 none : Cond) ∈ lw_all := in_all 272 (by decide +kernel) (by decide +kernel)
set_option maxRecDepth 20000 in
theorem wd_273 : (.methodLink "java/lang/IllegalStateException" 7 ⟨"java/lang/RuntimeException", "<init>", "(Ljava/lang/String;)V"⟩ : Cond) ∈ lw_all := in_all 273 (by decide +kernel) (by decide +kernel)
set_option maxRecDepth 20000 in
theorem wd_276 : (.methodLink RX5 41 yX1_save : Cond) ∈ lw_all := in_all 276 (by decide +kernel) (by decide +kernel)
set_option maxRecDepth 20000 in
theorem wd_277 : (.instanceMethod yX1_save : Cond) ∈ lw_all := in_all 277 (by decide +kernel) (by decide +kernel)
set_option maxRecDepth 20000 in
theorem wd_278 : (.selects RX1 yX1_save yX1_save : Cond) ∈ lw_all := in_all 278 (by decide +kernel) (by decide +kernel)
set_option maxRecDepth 20000 in
theorem wd_279 : (.code yX1_save cX1_save 2 none : Cond) ∈ lw_all := in_all 279 (by decide +kernel) (by decide +kernel)
set_option maxRecDepth 20000 in
theorem wd_280 : (.methodLink RX1 29 yX1_dropOldest : Cond) ∈ lw_all := in_all 280 (by decide +kernel) (by decide +kernel)
set_option maxRecDepth 20000 in
theorem wd_282 : (.instanceMethod yX1_dropOldest : Cond) ∈ lw_all := in_all 282 (by decide +kernel) (by decide +kernel)
set_option maxRecDepth 20000 in
theorem wd_283 : (.code yX1_dropOldest cX1_dropOldest 3 none : Cond) ∈ lw_all := in_all 283 (by decide +kernel) (by decide +kernel)
set_option maxRecDepth 20000 in
theorem wd_284 : (.methodLink RX1 32 yX1_copyState : Cond) ∈ lw_all := in_all 284 (by decide +kernel) (by decide +kernel)
set_option maxRecDepth 20000 in
theorem wd_285 : (.static yX1_copyState : Cond) ∈ lw_all := in_all 285 (by decide +kernel) (by decide +kernel)
set_option maxRecDepth 20000 in
theorem wd_286 : (.code yX1_copyState cX1_copyState 2 none : Cond) ∈ lw_all := in_all 286 (by decide +kernel) (by decide +kernel)
set_option maxRecDepth 20000 in
theorem wd_287 : (.methodLink RX1 36 yX4_copyFrom : Cond) ∈ lw_all := in_all 287 (by decide +kernel) (by decide +kernel)
set_option maxRecDepth 20000 in
theorem wd_288 : (.instanceMethod yX4_copyFrom : Cond) ∈ lw_all := in_all 288 (by decide +kernel) (by decide +kernel)
set_option maxRecDepth 20000 in
theorem wd_289 : (.selects RX4 yX4_copyFrom yX4_copyFrom : Cond) ∈ lw_all := in_all 289 (by decide +kernel) (by decide +kernel)
set_option maxRecDepth 20000 in
theorem wd_290 : (.code yX4_copyFrom cX4_copyFrom 2 none : Cond) ∈ lw_all := in_all 290 (by decide +kernel) (by decide +kernel)
set_option maxRecDepth 20000 in
theorem wd_291 : (.methodLink RX4 25 yX2_copyFrom : Cond) ∈ lw_all := in_all 291 (by decide +kernel) (by decide +kernel)
set_option maxRecDepth 20000 in
theorem wd_292 : (.instanceMethod yX2_copyFrom : Cond) ∈ lw_all := in_all 292 (by decide +kernel) (by decide +kernel)
set_option maxRecDepth 20000 in
theorem wd_293 : (.selects RX2 yX2_copyFrom yX2_copyFrom : Cond) ∈ lw_all := in_all 293 (by decide +kernel) (by decide +kernel)
set_option maxRecDepth 20000 in
theorem wd_294 : (.code yX2_copyFrom cX2_copyFrom 2 none : Cond) ∈ lw_all := in_all 294 (by decide +kernel) (by decide +kernel)
set_option maxRecDepth 20000 in
theorem wd_296 : (.static yX5_copyRow : Cond) ∈ lw_all := in_all 296 (by decide +kernel) (by decide +kernel)
set_option maxRecDepth 20000 in
theorem wd_297 : (.code yX5_copyRow cX5_copyRow 3 none : Cond) ∈ lw_all := in_all 297 (by decide +kernel) (by decide +kernel)
set_option maxRecDepth 20000 in
theorem wd_298 : (.methodLink RX4 29 yX0_copyFrom : Cond) ∈ lw_all := in_all 298 (by decide +kernel) (by decide +kernel)
set_option maxRecDepth 20000 in
theorem wd_299 : (.instanceMethod yX0_copyFrom : Cond) ∈ lw_all := in_all 299 (by decide +kernel) (by decide +kernel)
