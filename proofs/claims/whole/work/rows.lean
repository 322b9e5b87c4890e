section
-- ===== PART A: goes FIRST, ahead of the names: the tables' words, and 'selects' of the private methods out of them =====
/-- a private method of a class that the tables say can be made, by its rows of tables_1 -/
def lw_okq (q : MethodName × Nat) : Prop := (q.1.cls ≠ "java/lang/invoke/MethodHandle" ∧ q.1.cls ≠ "java/lang/invoke/VarHandle") ∧ Cond.instantiable q.1.cls q.2 ∈ tables_1 ∧ Cond.privateMethod q.1 ∈ tables_1 ∧ Cond.instanceMethod q.1 ∈ tables_1
theorem lw_p0 : lw_okq (⟨"ChequeSerials$OrderText", "fits", "(II)Z"⟩, 2) := ⟨⟨by decide +kernel, by decide +kernel⟩, List.mem_of_getElem? (i := 106) (by decide +kernel), List.mem_of_getElem? (i := 146) (by decide +kernel), List.mem_of_getElem? (i := 147) (by decide +kernel)⟩
theorem lw_p1 : lw_okq (⟨"ChequeSerials$OrderText", "isWhole", "(II)Z"⟩, 2) := ⟨⟨by decide +kernel, by decide +kernel⟩, List.mem_of_getElem? (i := 106) (by decide +kernel), List.mem_of_getElem? (i := 154) (by decide +kernel), List.mem_of_getElem? (i := 155) (by decide +kernel)⟩
theorem lw_p2 : lw_okq (⟨"ChequeSerials$OrderText", "fitsBehindHead", "(II)Z"⟩, 2) := ⟨⟨by decide +kernel, by decide +kernel⟩, List.mem_of_getElem? (i := 106) (by decide +kernel), List.mem_of_getElem? (i := 164) (by decide +kernel), List.mem_of_getElem? (i := 165) (by decide +kernel)⟩
theorem lw_p3 : lw_okq (⟨"ChequeSerials$Books", "amountsOf", "(II)I"⟩, 5) := ⟨⟨by decide +kernel, by decide +kernel⟩, List.mem_of_getElem? (i := 45) (by decide +kernel), List.mem_of_getElem? (i := 192) (by decide +kernel), List.mem_of_getElem? (i := 193) (by decide +kernel)⟩
theorem lw_p4 : lw_okq (⟨"ChequeSerials$Books", "firstBlankOf", "(I)I"⟩, 5) := ⟨⟨by decide +kernel, by decide +kernel⟩, List.mem_of_getElem? (i := 45) (by decide +kernel), List.mem_of_getElem? (i := 204) (by decide +kernel), List.mem_of_getElem? (i := 205) (by decide +kernel)⟩
theorem lw_p5 : lw_okq (⟨"ChequeSerials$Books", "chequesOf", "(II)I"⟩, 5) := ⟨⟨by decide +kernel, by decide +kernel⟩, List.mem_of_getElem? (i := 45) (by decide +kernel), List.mem_of_getElem? (i := 208) (by decide +kernel), List.mem_of_getElem? (i := 209) (by decide +kernel)⟩
theorem lw_p6 : lw_okq (⟨"java/lang/Throwable", "fillInStackTrace", "(I)Ljava/lang/Throwable;"⟩, 6) := ⟨⟨by decide +kernel, by decide +kernel⟩, List.mem_of_getElem? (i := 262) (by decide +kernel), List.mem_of_getElem? (i := 260) (by decide +kernel), List.mem_of_getElem? (i := 261) (by decide +kernel)⟩
theorem lw_p7 : lw_okq (⟨"ChequeSerials$History", "dropOldest", "()V"⟩, 4) := ⟨⟨by decide +kernel, by decide +kernel⟩, List.mem_of_getElem? (i := 82) (by decide +kernel), List.mem_of_getElem? (i := 312) (by decide +kernel), List.mem_of_getElem? (i := 313) (by decide +kernel)⟩
theorem lw_p8 : lw_okq (⟨"ChequeSerials", "faultOfBook", "(II)I"⟩, 3) := ⟨⟨by decide +kernel, by decide +kernel⟩, List.mem_of_getElem? (i := 16) (by decide +kernel), List.mem_of_getElem? (i := 359) (by decide +kernel), List.mem_of_getElem? (i := 360) (by decide +kernel)⟩
theorem lw_p9 : lw_okq (⟨"ChequeSerials$Books", "setCell", "(III)V"⟩, 5) := ⟨⟨by decide +kernel, by decide +kernel⟩, List.mem_of_getElem? (i := 45) (by decide +kernel), List.mem_of_getElem? (i := 396) (by decide +kernel), List.mem_of_getElem? (i := 397) (by decide +kernel)⟩
theorem lw_p10 : lw_okq (⟨"ChequeSerials", "faultOfWriting", "(II)I"⟩, 3) := ⟨⟨by decide +kernel, by decide +kernel⟩, List.mem_of_getElem? (i := 16) (by decide +kernel), List.mem_of_getElem? (i := 407) (by decide +kernel), List.mem_of_getElem? (i := 408) (by decide +kernel)⟩
theorem lw_p11 : lw_okq (⟨"ChequeSerials$Letters", "restOf", "(I)I"⟩, 2) := ⟨⟨by decide +kernel, by decide +kernel⟩, List.mem_of_getElem? (i := 30) (by decide +kernel), List.mem_of_getElem? (i := 425) (by decide +kernel), List.mem_of_getElem? (i := 426) (by decide +kernel)⟩
theorem lw_p12 : lw_okq (⟨"ChequeSerials$State", "reasonAgainstCashing", "(II)I"⟩, 3) := ⟨⟨by decide +kernel, by decide +kernel⟩, List.mem_of_getElem? (i := 24) (by decide +kernel), List.mem_of_getElem? (i := 448) (by decide +kernel), List.mem_of_getElem? (i := 449) (by decide +kernel)⟩
theorem lw_p13 : lw_okq (⟨"ChequeSerials$Books", "makeVoid", "(I)I"⟩, 5) := ⟨⟨by decide +kernel, by decide +kernel⟩, List.mem_of_getElem? (i := 45) (by decide +kernel), List.mem_of_getElem? (i := 480) (by decide +kernel), List.mem_of_getElem? (i := 481) (by decide +kernel)⟩
theorem lw_p14 : lw_okq (⟨"ChequeSerials", "runOrders", "()I"⟩, 3) := ⟨⟨by decide +kernel, by decide +kernel⟩, List.mem_of_getElem? (i := 16) (by decide +kernel), List.mem_of_getElem? (i := 514) (by decide +kernel), List.mem_of_getElem? (i := 515) (by decide +kernel)⟩
theorem lw_p15 : lw_okq (⟨"ChequeSerials", "runOrder", "(II)Z"⟩, 3) := ⟨⟨by decide +kernel, by decide +kernel⟩, List.mem_of_getElem? (i := 16) (by decide +kernel), List.mem_of_getElem? (i := 519) (by decide +kernel), List.mem_of_getElem? (i := 520) (by decide +kernel)⟩
def lw_privs_1 : List (MethodName × Nat) := [(⟨"ChequeSerials$OrderText", "fits", "(II)Z"⟩, 2), (⟨"ChequeSerials$OrderText", "isWhole", "(II)Z"⟩, 2), (⟨"ChequeSerials$OrderText", "fitsBehindHead", "(II)Z"⟩, 2), (⟨"ChequeSerials$Books", "amountsOf", "(II)I"⟩, 5), (⟨"ChequeSerials$Books", "firstBlankOf", "(I)I"⟩, 5), (⟨"ChequeSerials$Books", "chequesOf", "(II)I"⟩, 5), (⟨"java/lang/Throwable", "fillInStackTrace", "(I)Ljava/lang/Throwable;"⟩, 6), (⟨"ChequeSerials$History", "dropOldest", "()V"⟩, 4), (⟨"ChequeSerials", "faultOfBook", "(II)I"⟩, 3), (⟨"ChequeSerials$Books", "setCell", "(III)V"⟩, 5), (⟨"ChequeSerials", "faultOfWriting", "(II)I"⟩, 3), (⟨"ChequeSerials$Letters", "restOf", "(I)I"⟩, 2), (⟨"ChequeSerials$State", "reasonAgainstCashing", "(II)I"⟩, 3), (⟨"ChequeSerials$Books", "makeVoid", "(I)I"⟩, 5), (⟨"ChequeSerials", "runOrders", "()I"⟩, 3), (⟨"ChequeSerials", "runOrder", "(II)Z"⟩, 3)]
theorem lw_r1 : ∀ q ∈ lw_privs_1, lw_okq q := List.forall_mem_cons.mpr ⟨lw_p0, List.forall_mem_cons.mpr ⟨lw_p1, List.forall_mem_cons.mpr ⟨lw_p2, List.forall_mem_cons.mpr ⟨lw_p3, List.forall_mem_cons.mpr ⟨lw_p4, List.forall_mem_cons.mpr ⟨lw_p5, List.forall_mem_cons.mpr ⟨lw_p6, List.forall_mem_cons.mpr ⟨lw_p7, List.forall_mem_cons.mpr ⟨lw_p8, List.forall_mem_cons.mpr ⟨lw_p9, List.forall_mem_cons.mpr ⟨lw_p10, List.forall_mem_cons.mpr ⟨lw_p11, List.forall_mem_cons.mpr ⟨lw_p12, List.forall_mem_cons.mpr ⟨lw_p13, List.forall_mem_cons.mpr ⟨lw_p14, List.forall_mem_cons.mpr ⟨lw_p15, fun _ h => absurd h List.not_mem_nil⟩⟩⟩⟩⟩⟩⟩⟩⟩⟩⟩⟩⟩⟩⟩⟩
theorem lw_p16 : lw_okq (⟨"ChequeSerials", "runBook", "(II)Z"⟩, 3) := ⟨⟨by decide +kernel, by decide +kernel⟩, List.mem_of_getElem? (i := 16) (by decide +kernel), List.mem_of_getElem? (i := 524) (by decide +kernel), List.mem_of_getElem? (i := 525) (by decide +kernel)⟩
theorem lw_p17 : lw_okq (⟨"ChequeSerials", "runWriting", "(II)Z"⟩, 3) := ⟨⟨by decide +kernel, by decide +kernel⟩, List.mem_of_getElem? (i := 16) (by decide +kernel), List.mem_of_getElem? (i := 528) (by decide +kernel), List.mem_of_getElem? (i := 529) (by decide +kernel)⟩
theorem lw_p18 : lw_okq (⟨"ChequeSerials", "runVoiding", "(II)Z"⟩, 3) := ⟨⟨by decide +kernel, by decide +kernel⟩, List.mem_of_getElem? (i := 16) (by decide +kernel), List.mem_of_getElem? (i := 532) (by decide +kernel), List.mem_of_getElem? (i := 533) (by decide +kernel)⟩
theorem lw_p19 : lw_okq (⟨"ChequeSerials$Books", "booksBefore", "(I)I"⟩, 5) := ⟨⟨by decide +kernel, by decide +kernel⟩, List.mem_of_getElem? (i := 45) (by decide +kernel), List.mem_of_getElem? (i := 634) (by decide +kernel), List.mem_of_getElem? (i := 635) (by decide +kernel)⟩
theorem lw_p20 : lw_okq (⟨"ChequeSerials$Letters", "isHidden", "(II)Z"⟩, 2) := ⟨⟨by decide +kernel, by decide +kernel⟩, List.mem_of_getElem? (i := 30) (by decide +kernel), List.mem_of_getElem? (i := 660) (by decide +kernel), List.mem_of_getElem? (i := 661) (by decide +kernel)⟩
theorem lw_p21 : lw_okq (⟨"ChequeSerialsModel", "refuses", "(I)I"⟩, 11) := ⟨⟨by decide +kernel, by decide +kernel⟩, List.mem_of_getElem? (i := 746) (by decide +kernel), List.mem_of_getElem? (i := 797) (by decide +kernel), List.mem_of_getElem? (i := 798) (by decide +kernel)⟩
theorem lw_p22 : lw_okq (⟨"ChequeSerialsModel", "saves", "()V"⟩, 11) := ⟨⟨by decide +kernel, by decide +kernel⟩, List.mem_of_getElem? (i := 746) (by decide +kernel), List.mem_of_getElem? (i := 801) (by decide +kernel), List.mem_of_getElem? (i := 802) (by decide +kernel)⟩
theorem lw_p23 : lw_okq (⟨"ChequeSerialsModel", "canBook", "(II)Z"⟩, 11) := ⟨⟨by decide +kernel, by decide +kernel⟩, List.mem_of_getElem? (i := 746) (by decide +kernel), List.mem_of_getElem? (i := 820) (by decide +kernel), List.mem_of_getElem? (i := 821) (by decide +kernel)⟩
theorem lw_p24 : lw_okq (⟨"ChequeSerialsModel", "isTaken", "(II)Z"⟩, 11) := ⟨⟨by decide +kernel, by decide +kernel⟩, List.mem_of_getElem? (i := 746) (by decide +kernel), List.mem_of_getElem? (i := 824) (by decide +kernel), List.mem_of_getElem? (i := 825) (by decide +kernel)⟩
theorem lw_p25 : lw_okq (⟨"ChequeSerialsModel", "firstOf", "(I)I"⟩, 11) := ⟨⟨by decide +kernel, by decide +kernel⟩, List.mem_of_getElem? (i := 746) (by decide +kernel), List.mem_of_getElem? (i := 828) (by decide +kernel), List.mem_of_getElem? (i := 829) (by decide +kernel)⟩
theorem lw_p26 : lw_okq (⟨"ChequeSerialsModel", "countOf", "(I)I"⟩, 11) := ⟨⟨by decide +kernel, by decide +kernel⟩, List.mem_of_getElem? (i := 746) (by decide +kernel), List.mem_of_getElem? (i := 832) (by decide +kernel), List.mem_of_getElem? (i := 833) (by decide +kernel)⟩
theorem lw_p27 : lw_okq (⟨"ChequeSerialsModel", "books", "(II)I"⟩, 11) := ⟨⟨by decide +kernel, by decide +kernel⟩, List.mem_of_getElem? (i := 746) (by decide +kernel), List.mem_of_getElem? (i := 836) (by decide +kernel), List.mem_of_getElem? (i := 837) (by decide +kernel)⟩
theorem lw_p28 : lw_okq (⟨"ChequeSerialsModel", "spotOf", "(I)I"⟩, 11) := ⟨⟨by decide +kernel, by decide +kernel⟩, List.mem_of_getElem? (i := 746) (by decide +kernel), List.mem_of_getElem? (i := 844) (by decide +kernel), List.mem_of_getElem? (i := 845) (by decide +kernel)⟩
theorem lw_p29 : lw_okq (⟨"ChequeSerialsModel", "writes", "(II)V"⟩, 11) := ⟨⟨by decide +kernel, by decide +kernel⟩, List.mem_of_getElem? (i := 746) (by decide +kernel), List.mem_of_getElem? (i := 848) (by decide +kernel), List.mem_of_getElem? (i := 849) (by decide +kernel)⟩
theorem lw_p30 : lw_okq (⟨"ChequeSerialsModel", "letterOf", "(I)I"⟩, 11) := ⟨⟨by decide +kernel, by decide +kernel⟩, List.mem_of_getElem? (i := 746) (by decide +kernel), List.mem_of_getElem? (i := 852) (by decide +kernel), List.mem_of_getElem? (i := 853) (by decide +kernel)⟩
theorem lw_p31 : lw_okq (⟨"ChequeSerialsModel", "cashes", "(II)I"⟩, 11) := ⟨⟨by decide +kernel, by decide +kernel⟩, List.mem_of_getElem? (i := 746) (by decide +kernel), List.mem_of_getElem? (i := 866) (by decide +kernel), List.mem_of_getElem? (i := 867) (by decide +kernel)⟩
def lw_privs_2 : List (MethodName × Nat) := [(⟨"ChequeSerials", "runBook", "(II)Z"⟩, 3), (⟨"ChequeSerials", "runWriting", "(II)Z"⟩, 3), (⟨"ChequeSerials", "runVoiding", "(II)Z"⟩, 3), (⟨"ChequeSerials$Books", "booksBefore", "(I)I"⟩, 5), (⟨"ChequeSerials$Letters", "isHidden", "(II)Z"⟩, 2), (⟨"ChequeSerialsModel", "refuses", "(I)I"⟩, 11), (⟨"ChequeSerialsModel", "saves", "()V"⟩, 11), (⟨"ChequeSerialsModel", "canBook", "(II)Z"⟩, 11), (⟨"ChequeSerialsModel", "isTaken", "(II)Z"⟩, 11), (⟨"ChequeSerialsModel", "firstOf", "(I)I"⟩, 11), (⟨"ChequeSerialsModel", "countOf", "(I)I"⟩, 11), (⟨"ChequeSerialsModel", "books", "(II)I"⟩, 11), (⟨"ChequeSerialsModel", "spotOf", "(I)I"⟩, 11), (⟨"ChequeSerialsModel", "writes", "(II)V"⟩, 11), (⟨"ChequeSerialsModel", "letterOf", "(I)I"⟩, 11), (⟨"ChequeSerialsModel", "cashes", "(II)I"⟩, 11)]
theorem lw_r2 : ∀ q ∈ lw_privs_2, lw_okq q := List.forall_mem_cons.mpr ⟨lw_p16, List.forall_mem_cons.mpr ⟨lw_p17, List.forall_mem_cons.mpr ⟨lw_p18, List.forall_mem_cons.mpr ⟨lw_p19, List.forall_mem_cons.mpr ⟨lw_p20, List.forall_mem_cons.mpr ⟨lw_p21, List.forall_mem_cons.mpr ⟨lw_p22, List.forall_mem_cons.mpr ⟨lw_p23, List.forall_mem_cons.mpr ⟨lw_p24, List.forall_mem_cons.mpr ⟨lw_p25, List.forall_mem_cons.mpr ⟨lw_p26, List.forall_mem_cons.mpr ⟨lw_p27, List.forall_mem_cons.mpr ⟨lw_p28, List.forall_mem_cons.mpr ⟨lw_p29, List.forall_mem_cons.mpr ⟨lw_p30, List.forall_mem_cons.mpr ⟨lw_p31, fun _ h => absurd h List.not_mem_nil⟩⟩⟩⟩⟩⟩⟩⟩⟩⟩⟩⟩⟩⟩⟩⟩
theorem lw_p32 : lw_okq (⟨"ChequeSerialsModel", "voids", "(II)I"⟩, 11) := ⟨⟨by decide +kernel, by decide +kernel⟩, List.mem_of_getElem? (i := 746) (by decide +kernel), List.mem_of_getElem? (i := 874) (by decide +kernel), List.mem_of_getElem? (i := 875) (by decide +kernel)⟩
theorem lw_p33 : lw_okq (⟨"ChequeSerialsModel", "isCheque", "(I)Z"⟩, 11) := ⟨⟨by decide +kernel, by decide +kernel⟩, List.mem_of_getElem? (i := 746) (by decide +kernel), List.mem_of_getElem? (i := 878) (by decide +kernel), List.mem_of_getElem? (i := 879) (by decide +kernel)⟩
theorem lw_p34 : lw_okq (⟨"ChequeSerialsModel", "serialAt", "(I)I"⟩, 11) := ⟨⟨by decide +kernel, by decide +kernel⟩, List.mem_of_getElem? (i := 746) (by decide +kernel), List.mem_of_getElem? (i := 882) (by decide +kernel), List.mem_of_getElem? (i := 883) (by decide +kernel)⟩
theorem lw_p35 : lw_okq (⟨"ChequeSerialsModel", "isWhole", "()Z"⟩, 11) := ⟨⟨by decide +kernel, by decide +kernel⟩, List.mem_of_getElem? (i := 746) (by decide +kernel), List.mem_of_getElem? (i := 898) (by decide +kernel), List.mem_of_getElem? (i := 899) (by decide +kernel)⟩
theorem lw_p36 : lw_okq (⟨"ChequeSerialsModel", "isOrder", "()Z"⟩, 11) := ⟨⟨by decide +kernel, by decide +kernel⟩, List.mem_of_getElem? (i := 746) (by decide +kernel), List.mem_of_getElem? (i := 902) (by decide +kernel), List.mem_of_getElem? (i := 903) (by decide +kernel)⟩
theorem lw_p37 : lw_okq (⟨"ChequeSerialsModel", "sees", "(II)Z"⟩, 11) := ⟨⟨by decide +kernel, by decide +kernel⟩, List.mem_of_getElem? (i := 746) (by decide +kernel), List.mem_of_getElem? (i := 906) (by decide +kernel), List.mem_of_getElem? (i := 907) (by decide +kernel)⟩
theorem lw_p38 : lw_okq (⟨"ChequeSerialsModel", "isSix", "(I)Z"⟩, 11) := ⟨⟨by decide +kernel, by decide +kernel⟩, List.mem_of_getElem? (i := 746) (by decide +kernel), List.mem_of_getElem? (i := 910) (by decide +kernel), List.mem_of_getElem? (i := 911) (by decide +kernel)⟩
theorem lw_p39 : lw_okq (⟨"ChequeSerialsModel", "takes", "(I)Z"⟩, 11) := ⟨⟨by decide +kernel, by decide +kernel⟩, List.mem_of_getElem? (i := 746) (by decide +kernel), List.mem_of_getElem? (i := 914) (by decide +kernel), List.mem_of_getElem? (i := 915) (by decide +kernel)⟩
theorem lw_p40 : lw_okq (⟨"ChequeSerialsModel", "isNumber", "(I)Z"⟩, 11) := ⟨⟨by decide +kernel, by decide +kernel⟩, List.mem_of_getElem? (i := 746) (by decide +kernel), List.mem_of_getElem? (i := 918) (by decide +kernel), List.mem_of_getElem? (i := 919) (by decide +kernel)⟩
theorem lw_p41 : lw_okq (⟨"ChequeSerialsModel", "isSign", "()Z"⟩, 11) := ⟨⟨by decide +kernel, by decide +kernel⟩, List.mem_of_getElem? (i := 746) (by decide +kernel), List.mem_of_getElem? (i := 922) (by decide +kernel), List.mem_of_getElem? (i := 923) (by decide +kernel)⟩
theorem lw_p42 : lw_okq (⟨"ChequeSerialsModel", "isDone", "(I)Z"⟩, 11) := ⟨⟨by decide +kernel, by decide +kernel⟩, List.mem_of_getElem? (i := 746) (by decide +kernel), List.mem_of_getElem? (i := 930) (by decide +kernel), List.mem_of_getElem? (i := 931) (by decide +kernel)⟩
theorem lw_p43 : lw_okq (⟨"ChequeSerialsModel", "aboutCheque", "(II)I"⟩, 11) := ⟨⟨by decide +kernel, by decide +kernel⟩, List.mem_of_getElem? (i := 746) (by decide +kernel), List.mem_of_getElem? (i := 954) (by decide +kernel), List.mem_of_getElem? (i := 955) (by decide +kernel)⟩
theorem lw_p44 : lw_okq (⟨"ChequeSerialsModel", "runFrom", "(I)I"⟩, 11) := ⟨⟨by decide +kernel, by decide +kernel⟩, List.mem_of_getElem? (i := 746) (by decide +kernel), List.mem_of_getElem? (i := 958) (by decide +kernel), List.mem_of_getElem? (i := 959) (by decide +kernel)⟩
theorem lw_p45 : lw_okq (⟨"ChequeSerialsModel", "aboutBook", "(II)I"⟩, 11) := ⟨⟨by decide +kernel, by decide +kernel⟩, List.mem_of_getElem? (i := 746) (by decide +kernel), List.mem_of_getElem? (i := 966) (by decide +kernel), List.mem_of_getElem? (i := 967) (by decide +kernel)⟩
theorem lw_p46 : lw_okq (⟨"ChequeSerialsModel", "amounts", "(III)I"⟩, 11) := ⟨⟨by decide +kernel, by decide +kernel⟩, List.mem_of_getElem? (i := 746) (by decide +kernel), List.mem_of_getElem? (i := 970) (by decide +kernel), List.mem_of_getElem? (i := 971) (by decide +kernel)⟩
theorem lw_p47 : lw_okq (⟨"ChequeSerialsModel", "firstBlank", "(I)I"⟩, 11) := ⟨⟨by decide +kernel, by decide +kernel⟩, List.mem_of_getElem? (i := 746) (by decide +kernel), List.mem_of_getElem? (i := 974) (by decide +kernel), List.mem_of_getElem? (i := 975) (by decide +kernel)⟩
def lw_privs_3 : List (MethodName × Nat) := [(⟨"ChequeSerialsModel", "voids", "(II)I"⟩, 11), (⟨"ChequeSerialsModel", "isCheque", "(I)Z"⟩, 11), (⟨"ChequeSerialsModel", "serialAt", "(I)I"⟩, 11), (⟨"ChequeSerialsModel", "isWhole", "()Z"⟩, 11), (⟨"ChequeSerialsModel", "isOrder", "()Z"⟩, 11), (⟨"ChequeSerialsModel", "sees", "(II)Z"⟩, 11), (⟨"ChequeSerialsModel", "isSix", "(I)Z"⟩, 11), (⟨"ChequeSerialsModel", "takes", "(I)Z"⟩, 11), (⟨"ChequeSerialsModel", "isNumber", "(I)Z"⟩, 11), (⟨"ChequeSerialsModel", "isSign", "()Z"⟩, 11), (⟨"ChequeSerialsModel", "isDone", "(I)Z"⟩, 11), (⟨"ChequeSerialsModel", "aboutCheque", "(II)I"⟩, 11), (⟨"ChequeSerialsModel", "runFrom", "(I)I"⟩, 11), (⟨"ChequeSerialsModel", "aboutBook", "(II)I"⟩, 11), (⟨"ChequeSerialsModel", "amounts", "(III)I"⟩, 11), (⟨"ChequeSerialsModel", "firstBlank", "(I)I"⟩, 11)]
theorem lw_r3 : ∀ q ∈ lw_privs_3, lw_okq q := List.forall_mem_cons.mpr ⟨lw_p32, List.forall_mem_cons.mpr ⟨lw_p33, List.forall_mem_cons.mpr ⟨lw_p34, List.forall_mem_cons.mpr ⟨lw_p35, List.forall_mem_cons.mpr ⟨lw_p36, List.forall_mem_cons.mpr ⟨lw_p37, List.forall_mem_cons.mpr ⟨lw_p38, List.forall_mem_cons.mpr ⟨lw_p39, List.forall_mem_cons.mpr ⟨lw_p40, List.forall_mem_cons.mpr ⟨lw_p41, List.forall_mem_cons.mpr ⟨lw_p42, List.forall_mem_cons.mpr ⟨lw_p43, List.forall_mem_cons.mpr ⟨lw_p44, List.forall_mem_cons.mpr ⟨lw_p45, List.forall_mem_cons.mpr ⟨lw_p46, List.forall_mem_cons.mpr ⟨lw_p47, fun _ h => absurd h List.not_mem_nil⟩⟩⟩⟩⟩⟩⟩⟩⟩⟩⟩⟩⟩⟩⟩⟩
theorem lw_p48 : lw_okq (⟨"ChequeSerialsModel", "ofKind", "(III)I"⟩, 11) := ⟨⟨by decide +kernel, by decide +kernel⟩, List.mem_of_getElem? (i := 746) (by decide +kernel), List.mem_of_getElem? (i := 978) (by decide +kernel), List.mem_of_getElem? (i := 979) (by decide +kernel)⟩
theorem lw_p49 : lw_okq (⟨"ChequeSerialsModel", "counted", "(I)I"⟩, 11) := ⟨⟨by decide +kernel, by decide +kernel⟩, List.mem_of_getElem? (i := 746) (by decide +kernel), List.mem_of_getElem? (i := 986) (by decide +kernel), List.mem_of_getElem? (i := 987) (by decide +kernel)⟩
theorem lw_p50 : lw_okq (⟨"ChequeSerialsModel", "cheques", "()I"⟩, 11) := ⟨⟨by decide +kernel, by decide +kernel⟩, List.mem_of_getElem? (i := 746) (by decide +kernel), List.mem_of_getElem? (i := 990) (by decide +kernel), List.mem_of_getElem? (i := 991) (by decide +kernel)⟩
theorem lw_p51 : lw_okq (⟨"ChequeSerialsModel", "next", "(I)I"⟩, 11) := ⟨⟨by decide +kernel, by decide +kernel⟩, List.mem_of_getElem? (i := 746) (by decide +kernel), List.mem_of_getElem? (i := 998) (by decide +kernel), List.mem_of_getElem? (i := 999) (by decide +kernel)⟩
theorem lw_p52 : lw_okq (⟨"ChequeSerialsModel", "missedDigits", "(I)I"⟩, 11) := ⟨⟨by decide +kernel, by decide +kernel⟩, List.mem_of_getElem? (i := 746) (by decide +kernel), List.mem_of_getElem? (i := 1006) (by decide +kernel), List.mem_of_getElem? (i := 1007) (by decide +kernel)⟩
theorem lw_p53 : lw_okq (⟨"ChequeSerialsModel", "isLeft", "(II)Z"⟩, 11) := ⟨⟨by decide +kernel, by decide +kernel⟩, List.mem_of_getElem? (i := 746) (by decide +kernel), List.mem_of_getElem? (i := 1010) (by decide +kernel), List.mem_of_getElem? (i := 1011) (by decide +kernel)⟩
theorem lw_p54 : lw_okq (⟨"ChequeSerialsModel", "missedSwaps", "(I)I"⟩, 11) := ⟨⟨by decide +kernel, by decide +kernel⟩, List.mem_of_getElem? (i := 746) (by decide +kernel), List.mem_of_getElem? (i := 1014) (by decide +kernel), List.mem_of_getElem? (i := 1015) (by decide +kernel)⟩
theorem lw_p55 : lw_okq (⟨"ChequeSerialsModel", "weakAt", "(II)I"⟩, 11) := ⟨⟨by decide +kernel, by decide +kernel⟩, List.mem_of_getElem? (i := 746) (by decide +kernel), List.mem_of_getElem? (i := 1022) (by decide +kernel), List.mem_of_getElem? (i := 1023) (by decide +kernel)⟩
theorem lw_p56 : lw_okq (⟨"ChequeSerialsModel", "pairs", "(I)I"⟩, 11) := ⟨⟨by decide +kernel, by decide +kernel⟩, List.mem_of_getElem? (i := 746) (by decide +kernel), List.mem_of_getElem? (i := 1026) (by decide +kernel), List.mem_of_getElem? (i := 1027) (by decide +kernel)⟩
theorem lw_p57 : lw_okq (⟨"ChequeSerialsModel", "weakOf", "(I)I"⟩, 11) := ⟨⟨by decide +kernel, by decide +kernel⟩, List.mem_of_getElem? (i := 746) (by decide +kernel), List.mem_of_getElem? (i := 1034) (by decide +kernel), List.mem_of_getElem? (i := 1035) (by decide +kernel)⟩
theorem lw_p58 : lw_okq (⟨"ChequeSerialsModel", "meantBy", "(III)I"⟩, 11) := ⟨⟨by decide +kernel, by decide +kernel⟩, List.mem_of_getElem? (i := 746) (by decide +kernel), List.mem_of_getElem? (i := 1046) (by decide +kernel), List.mem_of_getElem? (i := 1047) (by decide +kernel)⟩
theorem lw_p59 : lw_okq (⟨"ChequeSerialsModel", "slipOf", "(III)I"⟩, 11) := ⟨⟨by decide +kernel, by decide +kernel⟩, List.mem_of_getElem? (i := 746) (by decide +kernel), List.mem_of_getElem? (i := 1050) (by decide +kernel), List.mem_of_getElem? (i := 1051) (by decide +kernel)⟩
def lw_privs_4 : List (MethodName × Nat) := [(⟨"ChequeSerialsModel", "ofKind", "(III)I"⟩, 11), (⟨"ChequeSerialsModel", "counted", "(I)I"⟩, 11), (⟨"ChequeSerialsModel", "cheques", "()I"⟩, 11), (⟨"ChequeSerialsModel", "next", "(I)I"⟩, 11), (⟨"ChequeSerialsModel", "missedDigits", "(I)I"⟩, 11), (⟨"ChequeSerialsModel", "isLeft", "(II)Z"⟩, 11), (⟨"ChequeSerialsModel", "missedSwaps", "(I)I"⟩, 11), (⟨"ChequeSerialsModel", "weakAt", "(II)I"⟩, 11), (⟨"ChequeSerialsModel", "pairs", "(I)I"⟩, 11), (⟨"ChequeSerialsModel", "weakOf", "(I)I"⟩, 11), (⟨"ChequeSerialsModel", "meantBy", "(III)I"⟩, 11), (⟨"ChequeSerialsModel", "slipOf", "(III)I"⟩, 11)]
theorem lw_r4 : ∀ q ∈ lw_privs_4, lw_okq q := List.forall_mem_cons.mpr ⟨lw_p48, List.forall_mem_cons.mpr ⟨lw_p49, List.forall_mem_cons.mpr ⟨lw_p50, List.forall_mem_cons.mpr ⟨lw_p51, List.forall_mem_cons.mpr ⟨lw_p52, List.forall_mem_cons.mpr ⟨lw_p53, List.forall_mem_cons.mpr ⟨lw_p54, List.forall_mem_cons.mpr ⟨lw_p55, List.forall_mem_cons.mpr ⟨lw_p56, List.forall_mem_cons.mpr ⟨lw_p57, List.forall_mem_cons.mpr ⟨lw_p58, List.forall_mem_cons.mpr ⟨lw_p59, fun _ h => absurd h List.not_mem_nil⟩⟩⟩⟩⟩⟩⟩⟩⟩⟩⟩⟩
def lw_privs : List (MethodName × Nat) := lw_privs_1 ++ (lw_privs_2 ++ (lw_privs_3 ++ (lw_privs_4)))
def lw_tbl : List Cond := k2_sels lw_privs ++ tables_1
theorem lw_privs_ok : ∀ q ∈ lw_privs, lw_okq q := by
  show ∀ q ∈ lw_privs_1 ++ (lw_privs_2 ++ (lw_privs_3 ++ (lw_privs_4))), lw_okq q
  exact List.forall_mem_append.mpr ⟨lw_r1, List.forall_mem_append.mpr ⟨lw_r2, List.forall_mem_append.mpr ⟨lw_r3, lw_r4⟩⟩⟩
/-- the streams that the claim lets the run draw from -/
abbrev lw_cs : List Choice := [Jvm.Choice.named "NaN.bits"]
theorem lw_bits : nanBits ∈ lw_cs := by first | decide | exact List.mem_cons_self | simp [lw_cs, nanBits]
-- ===== end of PART A; then your names; then what follows =====
end
section
/-! ===== BEGIN words of one list among another's, by their places ===== -/
theorem goodIn_r {big : List Cond} (ws : List Cond) (ps : List Nat) (hp : ws = ps.filterMap (fun i => big[i]?)) (h : ws.all goodWord = true) : GoodIn big ws := by
  intro w hw
  have h1 := List.all_eq_true.mp h w hw
  rw [hp] at hw
  obtain ⟨i, -, hi⟩ := List.mem_filterMap.mp hw
  have hm : w ∈ big := by first | exact List.mem_of_getElem? hi | exact List.getElem?_mem hi
  exact ⟨hm, good_of_word h1⟩
theorem goodIn_app {big a b : List Cond} (ha : GoodIn big a) (hb : GoodIn big b) : GoodIn big (a ++ b) := fun w h => (List.mem_append.mp h).elim (ha w) (hb w)
theorem goodIn_ca {big a b : List Cond} {c : Cond} (ha : GoodIn big (c :: a)) (hb : GoodIn big b) : GoodIn big (c :: (a ++ b)) := fun w h => (List.mem_cons.mp h).elim (fun e => ha w (List.mem_cons.mpr (Or.inl e))) (fun h => (List.mem_append.mp h).elim (fun h => ha w (List.mem_cons.mpr (Or.inr h))) (hb w))
theorem goodIn_sub {big ws : List Cond} (hm : ∀ w ∈ ws, w ∈ big) (h : ws.all goodWord = true) : GoodIn big ws := fun w hw => ⟨hm w hw, good_of_word (List.all_eq_true.mp h w hw)⟩
/-! ===== END ===== -/

/-! ===== BEGIN exceptions that leave a method, and their catching by the caller (launches without stack traces) ===== -/
section VXA
/-! The laws vx_back, vx_callV, vx_callS, vx_callSW, vx_throw0, vx_throwS follow proofs of the library, with one case more: JvmDerived/Free/Laws.lean (Back.of_free), Shelf42/LK1.lean (callV, callS), Shelf/KitTraced.lean (throwNew0V, throwNewS). -/
/-- where a method has thrown q: the class by its name, the cell, what was written, the world -/
def vx_T (XC : String → State → State → Prop) (st : State) (q : Addr) (t : State) (mc ms : Nat) (free : Addr → Prop) : Prop :=
  ∃ (E : String) (ce : Cell) (L : List Loc), XC E st t ∧ t.heap[q]? = some ce ∧ ce.vm = .none ∧ st.vm.findClass E = some ce.cls ∧ st.WarmedH t.vm ∧ st.sameButNew ({ t with vm := st.vm } : State) L mc ms ∧ ∀ z ∈ L, free z.base
def vx_Q (Qc : Array Value → State → Outcome → State → Prop) (XC : String → State → State → Prop) (mc ms : Nat) (free : Addr → Prop) : Array Value → State → Outcome → State → Prop := fun a st o t =>
  (Qc a st o t ∧ ∃ L, FrameEnd st o t L mc ms ∧ ∀ q ∈ L, free q.base) ∨ ∃ q, o = .threw q ∧ vx_T XC st q t mc ms free
/-- a callee that returns or throws -/
def vx_Met (l : Launch) (y : MethodName) (ws : List Cond) (rm : Room) (Pc : Array Value → State → Prop) (Qc : Array Value → State → Outcome → State → Prop) (XC : String → State → State → Prop) (mc ms : Nat) (free : Addr → Prop) : Prop :=
  MetFree l y (headSpec ws rm) Pc (fun _ _ _ _ _ => True) (vx_Q Qc XC mc ms free)
def vx_Post (XC : String → State → State → Prop) (mc ms : Nat) (free : Addr → Prop) : Pt → Array Value → Addr → Pt → Prop := fun A a q B =>
  ∃ (g : JFrame) (mk : MethodId) (t : State) (L : List Loc) (E : String) (ce : Cell), B.U.heap = t.heap ∧ B.U.vm = t.vm ∧ XC E (A.U.calling g mk a) t ∧ t.heap[q]? = some ce ∧ ce.vm = .none ∧ A.U.vm.findClass E = some ce.cls ∧ B.locs = A.locs ++ L ∧ (∀ z ∈ L, free z.base) ∧ B.cells = A.cells + mc ∧ B.slots = A.slots + ms
def vx_Back (l : Launch) (R : Room) (p : Program) (e : Env) (below : List Frame) (s : State) (sargs : Array Value) (y : MethodName) (len W9 : Nat)
    (Pre : Pt → Array Value → Prop) (Post : Pt → Array Value → Option Value → Pt → Prop) (PostX : Pt → Array Value → Addr → Pt → Prop) : Prop :=
  ∀ (m : MethodId) (meth : Method) (c : Code) (A : Pt) (g : JFrame) (ig : Instr) (mk : MethodId) (a : Array Value),
    Stand p l e R s m sargs below meth c A.U A.locs A.cells A.slots → g.method = m → g.locals.size = c.maxLocals → decode c.code g.pc = .ok (ig, len) →
    2 * g.monitorRoom + (g.stack.map fun v => v.category).sum ≤ W9 → A.U.methodNamed? y = some mk → Pre A a →
    (∃ (v : Option Value) (B : Pt), Stand p l e R s m sargs below meth c B.U B.locs B.cells B.slots ∧ Post A a v B ∧
      Steps p.tables e below (doInvoke e (A.U.setTop g) [] mk a).1 (B.U.setTop { g with pc := g.pc + len, stack := v.toList ++ g.stack })) ∨
    (∃ (q : Addr) (B : Pt), Stand p l e R s m sargs below meth c B.U B.locs B.cells B.slots ∧ PostX A a q B ∧
      Steps p.tables e below (doInvoke e (A.U.setTop g) [] mk a).1 ((B.U.setTop g).pushFrame (.throwing q)))
section Payer
variable {l : Launch} {R : Room} {p : Program} {e : Env} {below : List Frame} {s : State} {sargs : Array Value} {y : MethodName} {len W9 : Nat}
theorem vx_back {ws : List Cond} {rm : Room} {Pc : Array Value → State → Prop} {Qc : Array Value → State → Outcome → State → Prop} {XC : String → State → State → Prop} {mc ms : Nat} {free : Addr → Prop} {bytes : ByteArray} {maxL : Nat} {ret : Option FieldType}
    (hM : vx_Met l y ws rm Pc Qc XC mc ms free) (hblind : FrameBlind Pc) (hrc : rm.cells = mc) (hrs : rm.slots = ms)
    (hframes : rm.frames + 1 ≤ R.frames) (hlocals : W9 + (maxL + 11) + rm.locals ≤ R.locals)
    (hws : ∀ w ∈ ws, ∀ a' U, s.WarmedH U.vm → w.before a' U = true) (hcode : Cond.code y bytes maxL ret ∈ ws) (hinit : ∀ a' U, s.WarmedH U.vm → (Cond.initialized y.cls).before a' U = true) :
    vx_Back l R p e below s sargs y len W9 (PreOf R mc ms Pc) (PostOf Qc mc ms free) (vx_Post XC mc ms free) := by
  intro m meth c A g ig mk a X hg hsize hdg hW hn hp
  have h1 : (headSpec ws rm).pre.before a A.U = true := atoms_intro fun w hw => hws w hw _ _ X.warmed
  have h2 : (Cond.code y bytes maxL ret).before a A.U = true := hws _ hcode _ _ X.warmed
  have h3 : (Cond.initialized y.cls).before a A.U = true := hinit _ _ X.warmed
  have h4 : A.cells + (headSpec ws rm).room.cells ≤ R.cells := by rw [show (headSpec ws rm).room.cells = mc from hrc]; exact hp.1
  have h5 : A.slots + (headSpec ws rm).room.slots ≤ R.slots := by rw [show (headSpec ws rm).room.slots = ms from hrs]; exact hp.2.1
  have hPc : Pc a (A.U.calling g mk a) := hblind _ _ _ _ hp.2.2
  obtain ⟨U, Ls, c0, s0⟩ := A
  dsimp only [Pt.U, Pt.locs, Pt.cells, Pt.slots] at h1 h2 h3 h4 h5 X hn hPc ⊢
  obtain ⟨methY, cY, hmY, hcY, -, hlY, -, -, -, -⟩ := Cond.code_spec hn h2
  obtain ⟨kY, hkY, -⟩ := className_of_methodNamed hn
  have hinitY : kY.init = .initialized := Cond.initialized_spec (findClass_of_methodNamed hn) hkY h3
  have h : At U g.method c below := by rw [hg]; exact X.here
  have hlocals9 : W9 + (maxL + 11) + (headSpec ws rm).room.locals ≤ R.locals := hlocals
  have happ : (headSpec ws rm).appliesLoose y e.platform (U.calling g mk a) = true :=
    Spec.appliesLoose_calling (g := g) h hdg hn hkY hinitY
      (X.room_calling (g := g) (R' := (headSpec ws rm).room) hsize hmY hcY hframes (by rw [hlY]; omega) h4 h5) h1
  obtain ⟨mid, hmid⟩ := h.above
  have hfr : (U.setTop g).frames = (.java g :: mid) ++ below := by rw [State.frames_setTop' g h.top, hmid]; rfl
  obtain ⟨o, s₂, hsteps, -, hend, hq⟩ := Steps.callFree hM p X.admits X.cas X.clock (acts := []) hfr happ hPc trivial
  have hq' : vx_Q Qc XC mc ms free a (U.calling g mk a) o s₂ := hq
  rw [State.frames_setTop' g h.top] at hend
  obtain ⟨g₀, hg0⟩ := Option.isSome_iff_exists.mp h.top
  obtain ⟨r, hr⟩ := State.topJava?_eq_some.mp hg0
  have hr' : (({ U with heap := s₂.heap, slotsUsed := s₂.slotsUsed } : State).setVm s₂.vm).frames = .java g₀ :: r := hr
  rcases hq' with ⟨hqc, L, hfe, hL⟩ | ⟨q, rfl, E, ce, L, hx, hce, hcv, hcl, hW₂, hsm, hL⟩
  · obtain ⟨⟨v, rfl⟩, hW₂, e2, q2, q3, q4, q5, q6⟩ := id hfe
    have e3 : s₂ = ({ (U.calling g mk a).setFrames s₂.frames with heap := s₂.heap, slotsUsed := s₂.slotsUsed } : State).setVm s₂.vm := by
      have : s₂ = ({ s₂ with vm := (U.calling g mk a).vm } : State).setVm s₂.vm := rfl
      rw [e2] at this
      exact this
    obtain ⟨c₂, i₂, len₂, hc₂, hd₂, hf₂⟩ := hend
    have hW' : U.WarmedH s₂.vm := hW₂
    have hcc : c₂ = c := by
      have h1 : s₂.code? g.method = U.code? g.method := by
        rw [State.code?_eq, State.code?_eq, hW'.alike.method?]
      exact Option.some.inj (hc₂.symm.trans (h1.trans h.code))
    subst hcc
    have hlen : len₂ = len := by rw [hdg] at hd₂; cases hd₂; rfl
    subst hlen
    have hs₂ : s₂ = (({ U with heap := s₂.heap, slotsUsed := s₂.slotsUsed } : State).setVm s₂.vm).setTop { g with pc := g.pc + len₂, stack := v.toList ++ g.stack } := by
      refine e3.trans ?_
      rw [hf₂, State.calling_eq h.top, State.setFrames_setFrames, State.setTop_of_frames _ hr', hr]
      rfl
    have hsame : U.sameButNew ({ U with heap := s₂.heap, slotsUsed := s₂.slotsUsed } : State) L mc ms := by
      refine ⟨?_, q2, q3, q4, q5, q6⟩
      obtain ⟨t, ht, -⟩ := State.frames_cons hr
      show ({ U with heap := s₂.heap, slotsUsed := s₂.slotsUsed } : State) = { U.setFrames U.frames with heap := s₂.heap, slotsUsed := s₂.slotsUsed }
      rw [State.setFrames_self ht]
    subst hg
    refine Or.inl ⟨v, ⟨(({ U with heap := s₂.heap, slotsUsed := s₂.slotsUsed } : State).setVm s₂.vm), Ls ++ L, c0 + mc, s0 + ms⟩,
      ⟨X.admits, X.cas, X.clock, X.frames, X.room, X.hears, X.method, X.code, (X.here.setHeapUsed s₂.heap s₂.slotsUsed).setVm hW'.alike, X.tail, State.WarmedH.trans X.warmed hW', X.limits, X.bytes, X.same.trans (hsame.setVm s.vm)⟩,
      ⟨g, mk, s₂, L, rfl, rfl, hqc, rfl, hL, rfl, rfl⟩, ?_⟩
    show Steps p.tables e below _ ((({ U with heap := s₂.heap, slotsUsed := s₂.slotsUsed } : State).setVm s₂.vm).setTop { g with pc := g.pc + len₂, stack := v.toList ++ g.stack })
    rw [← hs₂]
    exact hsteps
  · obtain ⟨e2, q2, q3, q4, q5, q6⟩ := id hsm
    have e3 : s₂ = ({ (U.calling g mk a).setFrames s₂.frames with heap := s₂.heap, slotsUsed := s₂.slotsUsed } : State).setVm s₂.vm := by
      have : s₂ = ({ s₂ with vm := (U.calling g mk a).vm } : State).setVm s₂.vm := rfl
      rw [e2] at this
      exact this
    have hf₂ : s₂.frames = .throwing q :: .java g :: U.frames.tail := hend
    have hW' : U.WarmedH s₂.vm := hW₂
    have hs₂ : s₂ = ((({ U with heap := s₂.heap, slotsUsed := s₂.slotsUsed } : State).setVm s₂.vm).setTop g).pushFrame (.throwing q) := by
      refine e3.trans ?_
      rw [hf₂, State.calling_eq h.top, State.setFrames_setFrames, State.pushFrame, State.frames_setTop _ hr', State.setTop_of_frames _ hr', State.setFrames_setFrames, hr]
      rfl
    have hsame : U.sameButNew ({ U with heap := s₂.heap, slotsUsed := s₂.slotsUsed } : State) L mc ms := by
      refine ⟨?_, q2, q3, q4, q5, q6⟩
      obtain ⟨t, ht, -⟩ := State.frames_cons hr
      show ({ U with heap := s₂.heap, slotsUsed := s₂.slotsUsed } : State) = { U.setFrames U.frames with heap := s₂.heap, slotsUsed := s₂.slotsUsed }
      rw [State.setFrames_self ht]
    subst hg
    refine Or.inr ⟨q, ⟨(({ U with heap := s₂.heap, slotsUsed := s₂.slotsUsed } : State).setVm s₂.vm), Ls ++ L, c0 + mc, s0 + ms⟩,
      ⟨X.admits, X.cas, X.clock, X.frames, X.room, X.hears, X.method, X.code, (X.here.setHeapUsed s₂.heap s₂.slotsUsed).setVm hW'.alike, X.tail, State.WarmedH.trans X.warmed hW', X.limits, X.bytes, X.same.trans (hsame.setVm s.vm)⟩,
      ⟨g, mk, s₂, L, E, ce, rfl, rfl, hx, hce, hcv, hcl, rfl, hL, rfl, rfl⟩, ?_⟩
    show Steps p.tables e below _ (((({ U with heap := s₂.heap, slotsUsed := s₂.slotsUsed } : State).setVm s₂.vm).setTop g).pushFrame (.throwing q))
    rw [← hs₂]
    exact hsteps
end Payer
section Calls
variable {p : Program} {l : Launch} {e : Env} {R : Room} {s : State} {m : MethodId} {args : Array Value} {below : List Frame} {meth : Method} {c : Code} {T : State} {locs : List Loc} {cells slots : Nat}
theorem vx_callV (X : Stand p l e R s m args below meth c T locs cells slots) (hexec : p.tables.exec = Jvm.exec) {own C : String} {index : Nat} {y : MethodName} {bytes : ByteArray} {maxL : Nat} {ret : Option FieldType}
    (hown : s.vm.findClass own = some m.cls) (hlink : (Cond.methodLink own index y).before args s = true) (hinst : (Cond.instanceMethod y).before args s = true) (hsel : (Cond.selects C y y).before args s = true)
    (hcode : (Cond.code y bytes maxL ret).before args s = true) (hy : y.cls ≠ "java/lang/invoke/MethodHandle" ∧ y.cls ≠ "java/lang/invoke/VarHandle")
    {W9 : Nat} {Pre : Pt → Array Value → Prop} {Post : Pt → Array Value → Option Value → Pt → Prop} {PostX : Pt → Array Value → Addr → Pt → Prop} (hK : vx_Back l R p e below s args y 3 W9 Pre Post PostX)
    {b : Addr} {cellB : Cell} (hcell : T.heap[b]? = some cellB) (hobj : cellB.vm.isStatics = false) (hcls : s.vm.findClass C = some cellB.cls)
    {g : JFrame} (hg : g.method = m) (hsize : g.locals.size = c.maxLocals) {argsL rest : List Value} (hlen : ∀ sig, parseMethodDescriptor y.desc = some sig → argsL.length = sig.parameters.length)
    (hstack : g.stack = argsL.reverse ++ .ref b :: rest) (hW : 2 * g.monitorRoom + (rest.map fun v => v.category).sum ≤ W9) (hdg : decode c.code g.pc = .ok (.invokevirtual index, 3))
    (hpre : ∀ vm₁, s.WarmedH vm₁ → Pre ⟨T.setVm vm₁, locs, cells, slots⟩ (Value.ref b :: argsL).toArray) :
    (∃ (v : Option Value) (vm₁ : Vm) (B : Pt), s.WarmedH vm₁ ∧ Stand p l e R s m args below meth c B.U B.locs B.cells B.slots ∧ Post ⟨T.setVm vm₁, locs, cells, slots⟩ (Value.ref b :: argsL).toArray v B ∧
      ∀ target, Steps p.tables e below (B.U.setTop { g with pc := g.pc + 3, stack := v.toList ++ rest }) target → Steps p.tables e below (T.setTop g) target) ∨
    (∃ (q : Addr) (vm₁ : Vm) (B : Pt), s.WarmedH vm₁ ∧ Stand p l e R s m args below meth c B.U B.locs B.cells B.slots ∧ PostX ⟨T.setVm vm₁, locs, cells, slots⟩ (Value.ref b :: argsL).toArray q B ∧
      Steps p.tables e below (T.setTop g) ((B.U.setTop { g with stack := rest }).pushFrame (.throwing q))) := by
  obtain ⟨mk, methM, hnamed, hmethM, hstM, habM⟩ := Cond.instanceMethod_spec hinst
  obtain ⟨methM', cM, hmethM', -, -, -, -, -, -, hsigM⟩ := Cond.code_spec hnamed hcode
  cases hmethM.symm.trans hmethM'
  obtain ⟨c2, r2, m2, q1, q2, q3, q4, kP, hkP, hkPi⟩ := Cond.selects_spec hsel
  cases hcls.symm.trans q1
  cases (State.methodFound?_of_named hnamed hy).symm.trans q2
  cases hnamed.symm.trans q3
  have hselP : selectMethod e.platform s.vm cellB.cls mk = .method mk := by rw [Launch.admits_selectMethod X.admits]; exact q4
  obtain ⟨vm₁, X₁, hstep₁⟩ := X.invokevirtual hexec hown hlink hnamed hmethM hstM hkP hkPi hy (a := b) (cell := cellB) hcell
    (fun z h => by rw [h] at hobj; cases hobj) hselP hmethM habM hkP hkPi (g := g) hg (argsL := argsL) (rest := rest) (hlen _ hsigM) hstack hdg
  rcases hK m meth c ⟨T.setVm vm₁, locs, cells, slots⟩ { g with stack := rest } (.invokevirtual index) mk (Value.ref b :: argsL).toArray X₁ hg hsize hdg hW (X₁.named hnamed) (hpre vm₁ X₁.warmed) with ⟨v, B, X', hpost, hsteps⟩ | ⟨q, B, X', hpost, hsteps⟩
  · exact Or.inl ⟨v, vm₁, B, X₁.warmed, X', hpost, fun target h => hstep₁ _ fun acts => by rw [doInvoke_state]; exact hsteps.trans h⟩
  · exact Or.inr ⟨q, vm₁, B, X₁.warmed, X', hpost, hstep₁ _ fun acts => by rw [doInvoke_state]; exact hsteps⟩
theorem vx_callS (X : Stand p l e R s m args below meth c T locs cells slots) (hexec : p.tables.exec = Jvm.exec) {own : String} {index : Nat} {y : MethodName} {bytes : ByteArray} {maxL : Nat} {ret : Option FieldType}
    (hown : s.vm.findClass own = some m.cls) (hlink : (Cond.methodLink own index y).before args s = true) (hstat : (Cond.static y).before args s = true) (hinit : (Cond.initialized y.cls).before args s = true)
    (hcode : (Cond.code y bytes maxL ret).before args s = true) (hy : y.cls ≠ "java/lang/invoke/MethodHandle" ∧ y.cls ≠ "java/lang/invoke/VarHandle")
    {W9 : Nat} {Pre : Pt → Array Value → Prop} {Post : Pt → Array Value → Option Value → Pt → Prop} {PostX : Pt → Array Value → Addr → Pt → Prop} (hK : vx_Back l R p e below s args y 3 W9 Pre Post PostX)
    {g : JFrame} (hg : g.method = m) (hsize : g.locals.size = c.maxLocals) {argsL rest : List Value} (hlen : ∀ sig, parseMethodDescriptor y.desc = some sig → argsL.length = sig.parameters.length)
    (hstack : g.stack = argsL.reverse ++ rest) (hW : 2 * g.monitorRoom + (rest.map fun v => v.category).sum ≤ W9) (hdg : decode c.code g.pc = .ok (.invokestatic index, 3))
    (hpre : ∀ vm₁, s.WarmedH vm₁ → Pre ⟨T.setVm vm₁, locs, cells, slots⟩ argsL.toArray) :
    (∃ (v : Option Value) (vm₁ : Vm) (B : Pt), s.WarmedH vm₁ ∧ Stand p l e R s m args below meth c B.U B.locs B.cells B.slots ∧ Post ⟨T.setVm vm₁, locs, cells, slots⟩ argsL.toArray v B ∧
      ∀ target, Steps p.tables e below (B.U.setTop { g with pc := g.pc + 3, stack := v.toList ++ rest }) target → Steps p.tables e below (T.setTop g) target) ∨
    (∃ (q : Addr) (vm₁ : Vm) (B : Pt), s.WarmedH vm₁ ∧ Stand p l e R s m args below meth c B.U B.locs B.cells B.slots ∧ PostX ⟨T.setVm vm₁, locs, cells, slots⟩ argsL.toArray q B ∧
      Steps p.tables e below (T.setTop g) ((B.U.setTop { g with stack := rest }).pushFrame (.throwing q))) := by
  obtain ⟨mk, hnamed⟩ := Cond.code_named hcode
  obtain ⟨methM, cM, hmethM, -, -, -, -, -, -, hsigM⟩ := Cond.code_spec hnamed hcode
  have hstatic : methM.isStatic = true := Cond.static_spec hnamed hmethM hstat
  obtain ⟨kP, hkP, -⟩ := className_of_methodNamed hnamed
  have hinitP : kP.init = .initialized := Cond.initialized_spec (findClass_of_methodNamed hnamed) hkP hinit
  obtain ⟨vm₁, X₁, hstep₁⟩ := X.invokestatic hexec hown hlink hnamed hmethM hstatic hkP hinitP hy (g := g) hg (argsL := argsL) (rest := rest) (hlen _ hsigM) hstack hdg
  rcases hK m meth c ⟨T.setVm vm₁, locs, cells, slots⟩ { g with stack := rest } (.invokestatic index) mk argsL.toArray X₁ hg hsize hdg hW (X₁.named hnamed) (hpre vm₁ X₁.warmed) with ⟨v, B, X', hpost, hsteps⟩ | ⟨q, B, X', hpost, hsteps⟩
  · exact Or.inl ⟨v, vm₁, B, X₁.warmed, X', hpost, fun target h => hstep₁ _ fun acts => by rw [doInvoke_state]; exact hsteps.trans h⟩
  · exact Or.inr ⟨q, vm₁, B, X₁.warmed, X', hpost, hstep₁ _ fun acts => by rw [doInvoke_state]; exact hsteps⟩
end Calls
theorem vx_cls {s : State} {T : State} {vm₁ : Vm} {E : String} {k : ClassId} (hW : s.WarmedH vm₁) (h : (T.setVm vm₁).vm.findClass E = some k) : s.vm.findClass E = some k := by
  have h1 : vm₁.findClass E = some k := h
  rw [hW.alike.findClass] at h1
  exact h1
/-- the method's frame g, with q thrown over it -/
def vx_W (p : Program) (l : Launch) (e : Env) (R : Room) (s : State) (m : MethodId) (args : Array Value) (below : List Frame) (meth : Method) (c : Code) (H : Heap) (locs : List Loc) (cells slots : Nat) (Q : State → Prop) (g : JFrame) (q : Addr) : Prop :=
  ∀ T : State, T.heap = H → Stand p l e R s m args below meth c T locs cells slots → ∃ t, Steps p.tables e below ((T.setTop g).pushFrame (.throwing q)) t ∧ Q t
def vx_Run (p : Program) (l : Launch) (e : Env) (R : Room) (s : State) (m : MethodId) (args : Array Value) (below : List Frame) (meth : Method) (c : Code) (H : Heap) (locs : List Loc) (cells slots mc ms : Nat) (g : JFrame) (rest : List Value) (Qa : State → Outcome → State → Prop) (XC : String → State → State → Prop) (free : Addr → Prop) : Prop :=
  ∀ T : State, T.heap = H → Stand p l e R s m args below meth c T locs cells slots →
    (∃ (v : Option Value) (st₀ t T' : State) (L : List Loc), st₀.heap = H ∧ Stand p l e R s m args below meth c T' (locs ++ L) (cells + mc) (slots + ms) ∧ (∀ q ∈ L, free q.base) ∧ T'.heap = t.heap ∧ T'.vm = t.vm ∧ Qa st₀ (.returned v) t ∧
      Goes p e below T g T' { g with pc := g.pc + 3, stack := v.toList ++ rest }) ∨
    (∃ (q : Addr) (st₀ t T' : State) (L : List Loc) (E : String) (ce : Cell), st₀.heap = H ∧ Stand p l e R s m args below meth c T' (locs ++ L) (cells + mc) (slots + ms) ∧ (∀ z ∈ L, free z.base) ∧ T'.heap = t.heap ∧ T'.vm = t.vm ∧ XC E st₀ t ∧ t.heap[q]? = some ce ∧ ce.vm = .none ∧ s.vm.findClass E = some ce.cls ∧
      Steps p.tables e below (T.setTop g) ((T'.setTop { g with stack := rest }).pushFrame (.throwing q)))
def vx_X {S : Type} (px : S → Prop) (B : String → S → State → Prop) (A : Nat → Prop) : String → State → State → Prop := fun E st t => ∃ u : S, px u ∧ B E u t ∧ va_F A st t
section Runs
variable {p : Program} {l : Launch} {e : Env} {R : Room} {s : State} {m : MethodId} {args : Array Value} {below : List Frame} {meth : Method} {c : Code} {H : Heap} {locs : List Loc} {cells slots : Nat}
variable {y : MethodName} {bytes cc : ByteArray} {maxL nL mc ms n index : Nat} {ret : Option FieldType} {ws : List Cond} {rm : Room} {Pc : Array Value → State → Prop} {Qc : Array Value → State → Outcome → State → Prop} {XC : String → State → State → Prop} {free : Addr → Prop} {Ts : List Cond} {own C : String} {b : Addr} {As rest : List Value} {g : JFrame}
theorem vx_callBack (cb : CallB R s args own index y bytes maxL ret ws rm mc ms n) (hM : vx_Met l y ws rm Pc Qc XC mc ms free) (hbl : FrameBlind Pc) : vx_Back l R p e below s args y 3 8 (PreOf R mc ms Pc) (PostOf Qc mc ms free) (vx_Post XC mc ms free) := by
  obtain ⟨hrc, hrs, hfr, hlo, hws, hcw, -, hini, -⟩ := cb
  exact vx_back (bytes := bytes) (maxL := maxL) (ret := ret) hM hbl hrc hrs hfr hlo hws hcw (fun a' U hW => word_at hW (Or.inl (by first | rfl | simp [Cond.onTables, Cond.keeps, Cond.steady])) hini)
theorem vx_runV (S : CallFix p m c cc nL s args Ts own) (hM : vx_Met l y ws rm Pc Qc XC mc ms free) (cw : CallW R s args own C index y bytes maxL ret ws rm mc ms n) (hp : PreV s H C b Pc As)
    (hg : g.method = m) (hn : As.length = n) (hsize : g.locals.size = nL) (hstack : g.stack = As.reverse ++ .ref b :: rest) (hW : 2 * g.monitorRoom + (rest.map fun v => v.category).sum ≤ 8) (hdg : decode cc g.pc = .ok (.invokevirtual index, 3)) (hf : cells + mc ≤ R.cells ∧ slots + ms ≤ R.slots) :
    vx_Run p l e R s m args below meth c H locs cells slots mc ms g rest (Qc (Value.ref b :: As).toArray) XC free := by
  have hK : vx_Back l R p e below s args y 3 8 (PreOf R mc ms Pc) (PostOf Qc mc ms free) (vx_Post XC mc ms free) := vx_callBack cw.1 hM hp.1
  obtain ⟨⟨-, -, -, -, -, -, hcode, -, hy, hlen, hl⟩, hin, hse⟩ := cw
  obtain ⟨hx, hb, hml, ho, -⟩ := S
  obtain ⟨-, ⟨cellB, hcB, hoB, hclB⟩, hPc⟩ := hp
  intro T hT X
  rcases vx_callV X hx (C := C) (bytes := bytes) (maxL := maxL) (ret := ret) ho hl hin hse hcode hy hK (by rw [hT]; exact hcB) hoB hclB hg (hsize.trans hml.symm) (argsL := As) (rest := rest) (fun sig h => hn.trans (hlen sig h)) hstack hW (by rw [hb]; exact hdg)
    (fun vm₁ hW₁ => ⟨hf.1, hf.2, hPc (T.setVm vm₁) hT hW₁⟩) with ⟨v, vm₁, ⟨U', l2, c2, s2⟩, hW₁, X', ⟨g', mk, t, L, e1, e2, hq, h1, hL, h2, h3⟩, st⟩ | ⟨q, vm₁, ⟨U', l2, c2, s2⟩, hW₁, X', ⟨g', mk, t, L, E, ce, e1, e2, hq, hce, hcv, hcl, h1, hL, h2, h3⟩, st⟩
  · dsimp only [Pt.U, Pt.locs, Pt.cells, Pt.slots] at X' e1 e2 h1 h2 h3 st
    subst h1; subst h2; subst h3
    exact Or.inl ⟨v, (T.setVm vm₁).calling g' mk (Value.ref b :: As).toArray, t, U', L, hT, X', hL, e1, e2, hq, st⟩
  · dsimp only [Pt.U, Pt.locs, Pt.cells, Pt.slots] at X' e1 e2 h1 h2 h3 st hcl
    subst h1; subst h2; subst h3
    exact Or.inr ⟨q, (T.setVm vm₁).calling g' mk (Value.ref b :: As).toArray, t, U', L, E, ce, hT, X', hL, e1, e2, hq, hce, hcv, vx_cls hW₁ hcl, st⟩
theorem vx_runS (S : CallFix p m c cc nL s args Ts own) (hM : vx_Met l y ws rm Pc Qc XC mc ms free) (cw : CallB R s args own index y bytes maxL ret ws rm mc ms n ∧ (Cond.static y).before args s = true) (hp : PreS s H Pc As)
    (hg : g.method = m) (hn : As.length = n) (hsize : g.locals.size = nL) (hstack : g.stack = As.reverse ++ rest) (hW : 2 * g.monitorRoom + (rest.map fun v => v.category).sum ≤ 8) (hdg : decode cc g.pc = .ok (.invokestatic index, 3)) (hf : cells + mc ≤ R.cells ∧ slots + ms ≤ R.slots) :
    vx_Run p l e R s m args below meth c H locs cells slots mc ms g rest (Qc As.toArray) XC free := by
  have hK : vx_Back l R p e below s args y 3 8 (PreOf R mc ms Pc) (PostOf Qc mc ms free) (vx_Post XC mc ms free) := vx_callBack cw.1 hM hp.1
  obtain ⟨⟨-, -, -, -, -, -, hcode, hini, hy, hlen, hl⟩, hstt⟩ := cw
  obtain ⟨hx, hb, hml, ho, -⟩ := S
  intro T hT X
  rcases vx_callS X hx (bytes := bytes) (maxL := maxL) (ret := ret) ho hl hstt hini hcode hy hK hg (hsize.trans hml.symm) (argsL := As) (rest := rest) (fun sig h => hn.trans (hlen sig h)) hstack hW (by rw [hb]; exact hdg)
    (fun vm₁ hW₁ => ⟨hf.1, hf.2, hp.2 (T.setVm vm₁) hT hW₁⟩) with ⟨v, vm₁, ⟨U', l2, c2, s2⟩, hW₁, X', ⟨g', mk, t, L, e1, e2, hq, h1, hL, h2, h3⟩, st⟩ | ⟨q, vm₁, ⟨U', l2, c2, s2⟩, hW₁, X', ⟨g', mk, t, L, E, ce, e1, e2, hq, hce, hcv, hcl, h1, hL, h2, h3⟩, st⟩
  · dsimp only [Pt.U, Pt.locs, Pt.cells, Pt.slots] at X' e1 e2 h1 h2 h3 st
    subst h1; subst h2; subst h3
    exact Or.inl ⟨v, (T.setVm vm₁).calling g' mk As.toArray, t, U', L, hT, X', hL, e1, e2, hq, st⟩
  · dsimp only [Pt.U, Pt.locs, Pt.cells, Pt.slots] at X' e1 e2 h1 h2 h3 st hcl
    subst h1; subst h2; subst h3
    exact Or.inr ⟨q, (T.setVm vm₁).calling g' mk As.toArray, t, U', L, E, ce, hT, X', hL, e1, e2, hq, hce, hcv, vx_cls hW₁ hcl, st⟩
end Runs
section Rows
variable {p : Program} {l : Launch} {e : Env} {R : Room} {s : State} {m : MethodId} {args : Array Value} {below : List Frame} {meth : Method} {c : Code} {H : Heap} {locs : List Loc} {cells slots : Nat} {Q : State → Prop}
variable {mc ms : Nat} {free : Addr → Prop} {A0 A1 : Nat → Prop} {H0 : Heap} {a : Array Value} {pc : Nat} {ls : Array Slot} {st0 rest : List Value}
theorem vx_keep {st₀ t T' : State} {L : List Loc} (h0 : st₀.heap = H) (e1 : T'.heap = t.heap) (hS : va_S A0 H0 H locs) (hA : ∀ q, q < H.size → A1 q → A0 q) (hf : ∀ q, free q → A0 q) (hL : ∀ q ∈ L, free q.base) (hF : va_F A1 st₀ t) :
    H.size ≤ T'.heap.size ∧ (∀ q : Nat, q < H.size → ¬ A1 q → T'.heap[q]? = H[q]?) ∧ va_S A0 H0 T'.heap (locs ++ L) := by
  obtain ⟨hz, hk⟩ := hF
  rw [h0] at hz hk
  exact ⟨by rw [e1]; exact hz, fun q h1 h2 => by rw [e1]; exact hk q h1 h2,
    ⟨Nat.le_trans hS.1 (by rw [e1]; exact hz), fun q h1 h2 => by rw [e1, hk q (Nat.lt_of_lt_of_le h1 hS.1) (fun z => h2 (hA q (Nat.lt_of_lt_of_le h1 hS.1) z))]; exact hS.2.1 q h1 h2, fun q hq => by
      rcases List.mem_append.mp hq with h | h
      · exact hS.2.2 q h
      · exact hf _ (hL q h)⟩⟩
theorem vx_calli {S SX : Type} {post : Int32 → S → Prop} {px : SX → Prop} {B : S → State → Prop} {BX : String → SX → State → Prop} {AX : Nat → Prop} (hr : vx_Run p l e R s m args below meth c H locs cells slots mc ms (F0 m pc ls st0) rest (va_Qi post B A1 a) (vx_X px BX AX) free) (hS : va_S A0 H0 H locs) (hA : ∀ q, q < H.size → A1 q → A0 q) (hf : ∀ q, free q → A0 q) (hAX : ∀ q, q < H.size → AX q → A0 q)
    (kx : ∀ (E : String) (ce : Cell) (q9 : Addr) (u : SX) (t : State) (H1 : Heap) (locs1 : List Loc), t.heap = H1 → s.vm.Alike t.vm → px u → BX E u t → H.size ≤ H1.size → (∀ q : Nat, q < H.size → ¬ AX q → H1[q]? = H[q]?) → va_S A0 H0 H1 locs1 → H1[q9]? = some ce → ce.vm = .none → s.vm.findClass E = some ce.cls → vx_W p l e R s m args below meth c H1 locs1 (cells + mc) (slots + ms) Q (F0 m pc ls rest) q9)
    (kk : ∀ (r : Int32) (u : S) (t : State) (H1 : Heap) (locs1 : List Loc), t.heap = H1 → s.vm.Alike t.vm → post r u → B u t → H.size ≤ H1.size → (∀ q : Nat, q < H.size → ¬ A1 q → H1[q]? = H[q]?) → va_S A0 H0 H1 locs1 → W p l e R s m args below meth c H1 locs1 (cells + mc) (slots + ms) Q (F0 m (pc + 3) ls (.int r :: rest))) : W p l e R s m args below meth c H locs cells slots Q (F0 m pc ls st0) := by
  intro T hT X
  rcases hr T hT X with ⟨v, st₀, t, T', L, h0, X', hL, e1, e2, ⟨⟨r, u, hv, hp, hb⟩, hF⟩, st⟩ | ⟨q, st₀, t, T', L, E, ce, h0, X', hL, e1, e2, ⟨u, hp, hb, hF⟩, hce, hcv, hcl, st⟩
  · cases hv
    obtain ⟨k1, k2, k3⟩ := vx_keep h0 e1 hS hA hf hL hF
    obtain ⟨t2, a1, b1⟩ := kk r u t T'.heap (locs ++ L) e1.symm (by rw [← e2]; exact X'.warmed.alike) hp hb k1 k2 k3 T' rfl X'
    exact ⟨t2, st t2 a1, b1⟩
  · obtain ⟨k1, k2, k3⟩ := vx_keep h0 e1 hS hAX hf hL hF
    obtain ⟨t2, a1, b1⟩ := kx E ce q u t T'.heap (locs ++ L) e1.symm (by rw [← e2]; exact X'.warmed.alike) hp hb k1 k2 k3 (by rw [e1]; exact hce) hcv hcl T' rfl X'
    exact ⟨t2, st.trans a1, b1⟩
theorem vx_calll {S SX : Type} {post : Int64 → S → Prop} {px : SX → Prop} {B : S → State → Prop} {BX : String → SX → State → Prop} {AX : Nat → Prop} (hr : vx_Run p l e R s m args below meth c H locs cells slots mc ms (F0 m pc ls st0) rest (va_Ql post B A1 a) (vx_X px BX AX) free) (hS : va_S A0 H0 H locs) (hA : ∀ q, q < H.size → A1 q → A0 q) (hf : ∀ q, free q → A0 q) (hAX : ∀ q, q < H.size → AX q → A0 q)
    (kx : ∀ (E : String) (ce : Cell) (q9 : Addr) (u : SX) (t : State) (H1 : Heap) (locs1 : List Loc), t.heap = H1 → s.vm.Alike t.vm → px u → BX E u t → H.size ≤ H1.size → (∀ q : Nat, q < H.size → ¬ AX q → H1[q]? = H[q]?) → va_S A0 H0 H1 locs1 → H1[q9]? = some ce → ce.vm = .none → s.vm.findClass E = some ce.cls → vx_W p l e R s m args below meth c H1 locs1 (cells + mc) (slots + ms) Q (F0 m pc ls rest) q9)
    (kk : ∀ (r : Int64) (u : S) (t : State) (H1 : Heap) (locs1 : List Loc), t.heap = H1 → s.vm.Alike t.vm → post r u → B u t → H.size ≤ H1.size → (∀ q : Nat, q < H.size → ¬ A1 q → H1[q]? = H[q]?) → va_S A0 H0 H1 locs1 → W p l e R s m args below meth c H1 locs1 (cells + mc) (slots + ms) Q (F0 m (pc + 3) ls (.long r :: rest))) : W p l e R s m args below meth c H locs cells slots Q (F0 m pc ls st0) := by
  intro T hT X
  rcases hr T hT X with ⟨v, st₀, t, T', L, h0, X', hL, e1, e2, ⟨⟨r, u, hv, hp, hb⟩, hF⟩, st⟩ | ⟨q, st₀, t, T', L, E, ce, h0, X', hL, e1, e2, ⟨u, hp, hb, hF⟩, hce, hcv, hcl, st⟩
  · cases hv
    obtain ⟨k1, k2, k3⟩ := vx_keep h0 e1 hS hA hf hL hF
    obtain ⟨t2, a1, b1⟩ := kk r u t T'.heap (locs ++ L) e1.symm (by rw [← e2]; exact X'.warmed.alike) hp hb k1 k2 k3 T' rfl X'
    exact ⟨t2, st t2 a1, b1⟩
  · obtain ⟨k1, k2, k3⟩ := vx_keep h0 e1 hS hAX hf hL hF
    obtain ⟨t2, a1, b1⟩ := kx E ce q u t T'.heap (locs ++ L) e1.symm (by rw [← e2]; exact X'.warmed.alike) hp hb k1 k2 k3 (by rw [e1]; exact hce) hcv hcl T' rfl X'
    exact ⟨t2, st.trans a1, b1⟩
theorem vx_callf {S SX : Type} {post : UInt32 → S → Prop} {px : SX → Prop} {B : S → State → Prop} {BX : String → SX → State → Prop} {AX : Nat → Prop} (hr : vx_Run p l e R s m args below meth c H locs cells slots mc ms (F0 m pc ls st0) rest (va_Qf post B A1 a) (vx_X px BX AX) free) (hS : va_S A0 H0 H locs) (hA : ∀ q, q < H.size → A1 q → A0 q) (hf : ∀ q, free q → A0 q) (hAX : ∀ q, q < H.size → AX q → A0 q)
    (kx : ∀ (E : String) (ce : Cell) (q9 : Addr) (u : SX) (t : State) (H1 : Heap) (locs1 : List Loc), t.heap = H1 → s.vm.Alike t.vm → px u → BX E u t → H.size ≤ H1.size → (∀ q : Nat, q < H.size → ¬ AX q → H1[q]? = H[q]?) → va_S A0 H0 H1 locs1 → H1[q9]? = some ce → ce.vm = .none → s.vm.findClass E = some ce.cls → vx_W p l e R s m args below meth c H1 locs1 (cells + mc) (slots + ms) Q (F0 m pc ls rest) q9)
    (kk : ∀ (r : UInt32) (u : S) (t : State) (H1 : Heap) (locs1 : List Loc), t.heap = H1 → s.vm.Alike t.vm → post r u → B u t → H.size ≤ H1.size → (∀ q : Nat, q < H.size → ¬ A1 q → H1[q]? = H[q]?) → va_S A0 H0 H1 locs1 → W p l e R s m args below meth c H1 locs1 (cells + mc) (slots + ms) Q (F0 m (pc + 3) ls (.float r :: rest))) : W p l e R s m args below meth c H locs cells slots Q (F0 m pc ls st0) := by
  intro T hT X
  rcases hr T hT X with ⟨v, st₀, t, T', L, h0, X', hL, e1, e2, ⟨⟨r, u, hv, hp, hb⟩, hF⟩, st⟩ | ⟨q, st₀, t, T', L, E, ce, h0, X', hL, e1, e2, ⟨u, hp, hb, hF⟩, hce, hcv, hcl, st⟩
  · cases hv
    obtain ⟨k1, k2, k3⟩ := vx_keep h0 e1 hS hA hf hL hF
    obtain ⟨t2, a1, b1⟩ := kk r u t T'.heap (locs ++ L) e1.symm (by rw [← e2]; exact X'.warmed.alike) hp hb k1 k2 k3 T' rfl X'
    exact ⟨t2, st t2 a1, b1⟩
  · obtain ⟨k1, k2, k3⟩ := vx_keep h0 e1 hS hAX hf hL hF
    obtain ⟨t2, a1, b1⟩ := kx E ce q u t T'.heap (locs ++ L) e1.symm (by rw [← e2]; exact X'.warmed.alike) hp hb k1 k2 k3 (by rw [e1]; exact hce) hcv hcl T' rfl X'
    exact ⟨t2, st.trans a1, b1⟩
theorem vx_calld {S SX : Type} {post : UInt64 → S → Prop} {px : SX → Prop} {B : S → State → Prop} {BX : String → SX → State → Prop} {AX : Nat → Prop} (hr : vx_Run p l e R s m args below meth c H locs cells slots mc ms (F0 m pc ls st0) rest (va_Qd post B A1 a) (vx_X px BX AX) free) (hS : va_S A0 H0 H locs) (hA : ∀ q, q < H.size → A1 q → A0 q) (hf : ∀ q, free q → A0 q) (hAX : ∀ q, q < H.size → AX q → A0 q)
    (kx : ∀ (E : String) (ce : Cell) (q9 : Addr) (u : SX) (t : State) (H1 : Heap) (locs1 : List Loc), t.heap = H1 → s.vm.Alike t.vm → px u → BX E u t → H.size ≤ H1.size → (∀ q : Nat, q < H.size → ¬ AX q → H1[q]? = H[q]?) → va_S A0 H0 H1 locs1 → H1[q9]? = some ce → ce.vm = .none → s.vm.findClass E = some ce.cls → vx_W p l e R s m args below meth c H1 locs1 (cells + mc) (slots + ms) Q (F0 m pc ls rest) q9)
    (kk : ∀ (r : UInt64) (u : S) (t : State) (H1 : Heap) (locs1 : List Loc), t.heap = H1 → s.vm.Alike t.vm → post r u → B u t → H.size ≤ H1.size → (∀ q : Nat, q < H.size → ¬ A1 q → H1[q]? = H[q]?) → va_S A0 H0 H1 locs1 → W p l e R s m args below meth c H1 locs1 (cells + mc) (slots + ms) Q (F0 m (pc + 3) ls (.double r :: rest))) : W p l e R s m args below meth c H locs cells slots Q (F0 m pc ls st0) := by
  intro T hT X
  rcases hr T hT X with ⟨v, st₀, t, T', L, h0, X', hL, e1, e2, ⟨⟨r, u, hv, hp, hb⟩, hF⟩, st⟩ | ⟨q, st₀, t, T', L, E, ce, h0, X', hL, e1, e2, ⟨u, hp, hb, hF⟩, hce, hcv, hcl, st⟩
  · cases hv
    obtain ⟨k1, k2, k3⟩ := vx_keep h0 e1 hS hA hf hL hF
    obtain ⟨t2, a1, b1⟩ := kk r u t T'.heap (locs ++ L) e1.symm (by rw [← e2]; exact X'.warmed.alike) hp hb k1 k2 k3 T' rfl X'
    exact ⟨t2, st t2 a1, b1⟩
  · obtain ⟨k1, k2, k3⟩ := vx_keep h0 e1 hS hAX hf hL hF
    obtain ⟨t2, a1, b1⟩ := kx E ce q u t T'.heap (locs ++ L) e1.symm (by rw [← e2]; exact X'.warmed.alike) hp hb k1 k2 k3 (by rw [e1]; exact hce) hcv hcl T' rfl X'
    exact ⟨t2, st.trans a1, b1⟩
theorem vx_callv {S SX : Type} {post : S → Prop} {px : SX → Prop} {B : S → State → Prop} {BX : String → SX → State → Prop} {AX : Nat → Prop} (hr : vx_Run p l e R s m args below meth c H locs cells slots mc ms (F0 m pc ls st0) rest (va_Qv post B A1 a) (vx_X px BX AX) free) (hS : va_S A0 H0 H locs) (hA : ∀ q, q < H.size → A1 q → A0 q) (hf : ∀ q, free q → A0 q) (hAX : ∀ q, q < H.size → AX q → A0 q)
    (kx : ∀ (E : String) (ce : Cell) (q9 : Addr) (u : SX) (t : State) (H1 : Heap) (locs1 : List Loc), t.heap = H1 → s.vm.Alike t.vm → px u → BX E u t → H.size ≤ H1.size → (∀ q : Nat, q < H.size → ¬ AX q → H1[q]? = H[q]?) → va_S A0 H0 H1 locs1 → H1[q9]? = some ce → ce.vm = .none → s.vm.findClass E = some ce.cls → vx_W p l e R s m args below meth c H1 locs1 (cells + mc) (slots + ms) Q (F0 m pc ls rest) q9)
    (kk : ∀ (u : S) (t : State) (H1 : Heap) (locs1 : List Loc), t.heap = H1 → s.vm.Alike t.vm → post u → B u t → H.size ≤ H1.size → (∀ q : Nat, q < H.size → ¬ A1 q → H1[q]? = H[q]?) → va_S A0 H0 H1 locs1 → W p l e R s m args below meth c H1 locs1 (cells + mc) (slots + ms) Q (F0 m (pc + 3) ls (rest))) : W p l e R s m args below meth c H locs cells slots Q (F0 m pc ls st0) := by
  intro T hT X
  rcases hr T hT X with ⟨v, st₀, t, T', L, h0, X', hL, e1, e2, ⟨⟨u, hv, hp, hb⟩, hF⟩, st⟩ | ⟨q, st₀, t, T', L, E, ce, h0, X', hL, e1, e2, ⟨u, hp, hb, hF⟩, hce, hcv, hcl, st⟩
  · cases hv
    obtain ⟨k1, k2, k3⟩ := vx_keep h0 e1 hS hA hf hL hF
    obtain ⟨t2, a1, b1⟩ := kk u t T'.heap (locs ++ L) e1.symm (by rw [← e2]; exact X'.warmed.alike) hp hb k1 k2 k3 T' rfl X'
    exact ⟨t2, st t2 a1, b1⟩
  · obtain ⟨k1, k2, k3⟩ := vx_keep h0 e1 hS hAX hf hL hF
    obtain ⟨t2, a1, b1⟩ := kx E ce q u t T'.heap (locs ++ L) e1.symm (by rw [← e2]; exact X'.warmed.alike) hp hb k1 k2 k3 (by rw [e1]; exact hce) hcv hcl T' rfl X'
    exact ⟨t2, st.trans a1, b1⟩
/-- caught by the row x of this method's table; the rows ahead don't take it -/
theorem vx_catch {own name : String} {E : String} {ce : Cell} {q : Addr} (hown : s.vm.findClass own = some m.cls) (pre : List ExceptionTableEntry) (x : ExceptionTableEntry) (suf : List ExceptionTableEntry) (hsplit : c.exceptionTable.toList = pre ++ x :: suf)
    (hpass : ∀ z ∈ pre, covers z pc = false ∨ (z.catchType ≠ 0 ∧ ∃ nm : String, (Cond.classLink own z.catchType nm).before args s = true ∧ va_Nc E nm s)) (hx : covers x pc = true) (h0 : x.catchType ≠ 0)
    (hlink : (Cond.classLink own x.catchType name).before args s = true) (hcast : (Cond.castable E name).before args s = true) (hcell : H[q]? = some ce) (hv : ce.vm = .none) (hcl : s.vm.findClass E = some ce.cls)
    (kk : W p l e R s m args below meth c H locs cells slots Q (F0 m x.handlerPc ls [.ref q])) : vx_W p l e R s m args below meth c H locs cells slots Q (F0 m pc ls rest) q := by
  intro T hT X
  have hpl : e.platform.magicAccessors = ({} : Platform).magicAccessors := by rw [X.admits.platform]
  obtain ⟨c3, c4, hc3, hc4, hasg⟩ := Cond.castable_spec hcast
  cases Option.some.inj (hc3.symm.trans hcl)
  obtain ⟨c5, hc5, hcl5⟩ := Cond.classLink_spec hown hlink e.platform hpl
  cases Option.some.inj (hc4.symm.trans hc5)
  obtain ⟨vm', X', st⟩ := X.thenCaughtThrough q (g := F0 m pc ls rest) rfl (Steps.refl _) (by rw [hT]; exact hcell) (by rw [hv]; rfl) (by obtain ⟨k9, h9, -⟩ := Vm.findClass_spec hcl; exact ⟨k9, h9⟩) pre x suf hsplit
    (fun z hz => by
      rcases hpass z hz with h | ⟨hz0, nm, hl1, hn1⟩
      · exact Or.inl h
      · obtain ⟨c6, hc6, hcl6⟩ := Cond.classLink_spec hown hl1 e.platform hpl
        obtain ⟨a8, b8, h1, h2, h3⟩ := hn1
        cases Option.some.inj (h1.symm.trans hcl)
        cases Option.some.inj (h2.symm.trans hc6)
        exact Or.inr ⟨hz0, _, hcl6, h3⟩) hx (Or.inr ⟨h0, c4, hcl5, hasg⟩)
  obtain ⟨t, a1, b1⟩ := kk (T.setVm vm') hT X'
  exact ⟨t, st.trans a1, b1⟩
end Rows
section Ends
variable {p : Program} {l : Launch} {e : Env} {R : Room} {s : State} {m : MethodId} {args : Array Value} {below : List Frame} {meth : Method} {c : Code} {H : Heap} {locs : List Loc} {cells slots : Nat} {Q : State → Prop}
variable {mc ms : Nat} {free : Addr → Prop} {A0 A1 : Nat → Prop} {H0 : Heap} {a : Array Value} {ls : Array Slot} {st0 rest : List Value}
variable {Qc : Array Value → State → Outcome → State → Prop} {XC : String → State → State → Prop}
/-- what a body that may throw owes at its end -/
def vx_MQ (below : List Frame) (Qc : Array Value → State → Outcome → State → Prop) (XC : String → State → State → Prop) (a : Array Value) (s : State) (mc ms : Nat) (free : Addr → Prop) : State → Prop := fun t =>
  ∃ o, t.status = .running ∧ Ended t below o ∧ vx_Q Qc XC mc ms free a s o t
theorem vx_ret {g : JFrame} {mc ms : Nat} (k : W p l e R s m args below meth c H locs cells slots (MQ below Qc args s mc ms free) g) : W p l e R s m args below meth c H locs cells slots (vx_MQ below Qc XC args s mc ms free) g := by
  intro T hT X
  obtain ⟨t, a1, o, b1, b2, b3, b4⟩ := k T hT X
  exact ⟨t, a1, o, b1, b2, Or.inl ⟨b3, b4⟩⟩
/-- not caught here: it goes on to the caller -/
theorem vx_widen {g : JFrame} {q : Addr} {k n : Nat} (h1 : cells ≤ k) (h2 : slots ≤ n) (kk : vx_W p l e R s m args below meth c H locs k n Q g q) : vx_W p l e R s m args below meth c H locs cells slots Q g q := fun T hT X => kk T hT (stand_widen X h1 h2)
theorem vx_out {pc : Nat} {E : String} {ce : Cell} {q : Addr} {mc ms : Nat} (hout : ∀ x ∈ c.exceptionTable.toList, covers x pc = false) (hlocks : meth.locks = false) (hcell : H[q]? = some ce) (hv : ce.vm = .none) (hcl : s.vm.findClass E = some ce.cls)
    (hx : ∀ t : State, t.heap = H → s.vm.Alike t.vm → XC E s t) (hf : ∀ z ∈ locs, free z.base) (hc : cells ≤ mc) (hs : slots ≤ ms) :
    vx_W p l e R s m args below meth c H locs cells slots (vx_MQ below Qc XC args s mc ms free) (F0 m pc ls rest) q := by
  intro T hT X
  obtain ⟨st1, hrun, hend, hW, hsm⟩ := X.leaveThrown q (g := F0 m pc ls rest) rfl rfl rfl hout hlocks
  have hcell9 : (T.setFrames (.throwing q :: below)).heap[q]? = some ce := by
    show T.heap[q]? = some ce
    rw [hT]; exact hcell
  exact ⟨_, st1, .threw q, hrun, hend, Or.inr ⟨q, rfl, E, ce, locs, hx _ hT hW.alike, hcell9, hv, hcl, hW, hsm.mono hc hs, hf⟩⟩
theorem vx_frame {U : State} {k n : Nat} (h : s.sameButNew ({ U with vm := s.vm } : State) locs k n) : s.heap.size ≤ U.heap.size ∧ ∀ q : Nat, q < s.heap.size → (∀ z ∈ locs, z.base ≠ q) → U.heap[q]? = s.heap[q]? := by
  obtain ⟨-, h2, -, -, -, h6⟩ := h
  refine ⟨h2, fun q hq hz => ?_⟩
  obtain ⟨c9, e1, e2, e3, e4⟩ := h6 q _ (Array.getElem?_eq_getElem hq)
  have hs : c9.slots = (s.heap[q]).slots := Array.ext_getElem? fun i => e4 i fun hm => hz _ hm rfl
  have h9 : c9 = s.heap[q] := by
    rw [hs] at e2
    exact e2
  have e5 : U.heap[q]? = some c9 := e1
  rw [e5, h9, Array.getElem?_eq_getElem hq]
/-- the words of a throw but the four that speak of the heap -/
def vx_no (w : Cond) : Bool := decide (w ≠ .isRef (.static Bundle.tN "UNASSIGNED_STACK" Bundle.steD)) && decide (w ≠ .isRef (.static Bundle.tN "SUPPRESSED_SENTINEL" Bundle.listD)) && decide (w ≠ .laysStatic Bundle.tN "UNASSIGNED_STACK" Bundle.steD) && decide (w ≠ .laysStatic Bundle.tN "SUPPRESSED_SENTINEL" Bundle.listD)
def vx_at0 (own : String) (ic : Nat) (X : String) (names : List String) : List Cond := (Bundle.ownAtoms0 own ic X names).filter vx_no
def vx_atS (own : String) (ic : Nat) (X : String) (names : List String) : List Cond := (Bundle.ownAtoms own ic X names).filter vx_no
/-- a word that the tables alone decide, or a good one -/
def vx_ot (w : Cond) : Bool := w.onTables || goodWord w
theorem vx_ot_at {args a' : Array Value} {s U : State} {w : Cond} (hW : s.WarmedH U.vm) (hvm : s.vm = U.vm) (hg : vx_ot w = true) (h : w.before args s = true) : w.before a' U = true := by
  simp only [vx_ot, Bool.or_eq_true] at hg
  rcases hg with hg | hg
  · exact va_tabs hg hvm h
  · exact word_at hW (good_of_word hg) h
/-- a list's words: the good ones out of the method's own list, the others by premises of their own -/
theorem vx_hat {args : Array Value} {s : State} {L B : List Cond} (h1 : ∀ w ∈ L.filter goodWord, w.before args s = true) (h2 : ∀ w ∈ L.filter (fun w => !goodWord w), w ∈ B) (h3 : ∀ w ∈ B, w.before args s = true) : ∀ w ∈ L, w.before args s = true := by
  intro w hw
  by_cases g : goodWord w = true
  · exact h1 w (List.mem_filter.mpr ⟨hw, g⟩)
  · refine h3 w (h2 w (List.mem_filter.mpr ⟨hw, ?_⟩))
    show (!goodWord w) = true
    cases hgw : goodWord w
    · rfl
    · exact absurd hgw g
theorem vx_c {args : Array Value} {s : State} {w : Cond} {B : List Cond} (h : w.before args s = true) (t : ∀ w ∈ B, w.before args s = true) : ∀ w' ∈ w :: B, w'.before args s = true := fun w' h' => (List.mem_cons.mp h').elim (fun e => by rw [e]; exact h) (t w')
theorem vx_n {args : Array Value} {s : State} : ∀ w ∈ ([] : List Cond), w.before args s = true := fun _ h => nomatch h
theorem vx_own {args : Array Value} {s : State} {L : List Cond} (h1 : ∀ w ∈ L.filter vx_no, w.before args s = true)
    (hU : (Cond.isRef (.static Bundle.tN "UNASSIGNED_STACK" Bundle.steD)).before args s = true) (hN : (Cond.isRef (.static Bundle.tN "SUPPRESSED_SENTINEL" Bundle.listD)).before args s = true)
    (lU : (Cond.laysStatic Bundle.tN "UNASSIGNED_STACK" Bundle.steD).before args s = true) (lN : (Cond.laysStatic Bundle.tN "SUPPRESSED_SENTINEL" Bundle.listD).before args s = true) : ∀ w ∈ L, w.before args s = true := by
  intro w hw
  by_cases e1 : w = .isRef (.static Bundle.tN "UNASSIGNED_STACK" Bundle.steD)
  · rw [e1]; exact hU
  · by_cases e2 : w = .isRef (.static Bundle.tN "SUPPRESSED_SENTINEL" Bundle.listD)
    · rw [e2]; exact hN
    · by_cases e3 : w = .laysStatic Bundle.tN "UNASSIGNED_STACK" Bundle.steD
      · rw [e3]; exact lU
      · by_cases e4 : w = .laysStatic Bundle.tN "SUPPRESSED_SENTINEL" Bundle.listD
        · rw [e4]; exact lN
        · exact h1 w (List.mem_filter.mpr ⟨hw, by unfold vx_no; rw [decide_eq_true e1, decide_eq_true e2, decide_eq_true e3, decide_eq_true e4]; rfl⟩)
/-- where a static field lies, its class's statics cell in H -/
def vx_L (C n d : String) (A : Nat → Prop) (U : State) (H : Heap) : Prop := ∃ (c : ClassId) (k : Class) (i : Nat) (f : Field) (a : Nat) (cell : Cell), U.vm.findClass C = some c ∧ U.fieldFound? C n d = some (c, k, i, f) ∧ f.isStatic = true ∧ k.statics = some a ∧ H[a]? = some cell ∧ cell.vm.isStatics = true ∧ cell.cls = c ∧ f.slot < cell.slots.size ∧ k.staticTypes[f.slot]? = some f.type ∧ ¬ A a
theorem vx_L.moved {C n d : String} {A : Nat → Prop} {u U : State} {H : Heap} (hvm : u.vm.Alike U.vm) (h : vx_L C n d A u H) : vx_L C n d A U H := by
  obtain ⟨c, k, i, f, a, cell, h1, h2, h3, h4, h5, h6, h7, h8, h9, h10⟩ := h
  obtain ⟨k', hi', he⟩ := State.fieldFound?_setVm hvm h2
  exact ⟨c, k', i, f, a, cell, by rw [hvm.findClass]; exact h1, hi', h3, by rw [he]; exact h4, h5, h6, h7, h8, by rw [he]; exact h9, h10⟩
theorem vx_L.kept {C n d : String} {A : Nat → Prop} {U : State} {H H1 : Heap} (h : vx_L C n d A U H) (hq : ∀ a : Nat, a < H.size → ¬ A a → H1[a]? = H[a]?) : vx_L C n d A U H1 := by
  obtain ⟨c, k, i, f, a, cell, h1, h2, h3, h4, h5, h6, h7, h8, h9, h10⟩ := h
  exact ⟨c, k, i, f, a, cell, h1, h2, h3, h4, by rw [hq a (Array.getElem?_eq_some_iff.mp h5).1 h10]; exact h5, h6, h7, h8, h9, h10⟩
theorem vx_L.narrow {C n d : String} {A B : Nat → Prop} {U : State} {H : Heap} (h : vx_L C n d A U H) (hAB : ∀ q, B q → A q) : vx_L C n d B U H := by
  obtain ⟨c, k, i, f, a, cell, h1, h2, h3, h4, h5, h6, h7, h8, h9, h10⟩ := h
  exact ⟨c, k, i, f, a, cell, h1, h2, h3, h4, h5, h6, h7, h8, h9, fun z => h10 (hAB _ z)⟩
theorem vx_L.word {C n d : String} {A : Nat → Prop} {s : State} {args : Array Value} (h : vx_L C n d A s s.heap) : (Cond.laysStatic C n d).before args s = true := by
  obtain ⟨c, k, i, f, a, cell, h1, h2, h3, h4, h5, h6, h7, h8, h9, -⟩ := h
  show (Cond.laysStatic C n d).holds args s none s [] = true
  exact Cond.laysStatic_of h1 h2 h3 h4 h5 h6 h7 h8 h9
/-- .. and what it holds: null or some reference -/
def vx_Zq (C n d : String) (A : Nat → Prop) (U : State) (H : Heap) : Prop := va_Zq C n d A U H ∧ vx_L C n d A U H
theorem vx_Zq.moved {C n d : String} {A : Nat → Prop} {u U : State} {H : Heap} (hvm : u.vm.Alike U.vm) (h : vx_Zq C n d A u H) : vx_Zq C n d A U H := ⟨va_Zq.moved hvm h.1, vx_L.moved hvm h.2⟩
theorem vx_Zq.kept {C n d : String} {A : Nat → Prop} {U : State} {H H1 : Heap} (h : vx_Zq C n d A U H) (hq : ∀ a : Nat, a < H.size → ¬ A a → H1[a]? = H[a]?) : vx_Zq C n d A U H1 := ⟨va_Zq.kept h.1 hq, vx_L.kept h.2 hq⟩
theorem vx_Zq.narrow {C n d : String} {A B : Nat → Prop} {U : State} {H : Heap} (h : vx_Zq C n d A U H) (hAB : ∀ q, B q → A q) : vx_Zq C n d B U H := ⟨va_Zq.narrow h.1 hAB, vx_L.narrow h.2 hAB⟩
theorem vx_Zqof {args : Array Value} {s : State} {C n d : String} {A : Nat → Prop} (hl : (Cond.laysStatic C n d).before args s = true) (hini : (Cond.initialized C).before args s = true) (h : (Cond.isRef (.static C n d)).before args s = true) (hA : ∀ a : Nat, a < s.heap.size → ¬ A a) : vx_Zq C n d A s s.heap := by
  refine ⟨va_Zqof hl hini h hA, ?_⟩
  obtain ⟨c, k, i, f, a, cell, h1, h2, h3, h4, h5, h6, h7, h8, h9⟩ := Cond.laysStatic_spec hl
  exact ⟨c, k, i, f, a, cell, h1, h2, h3, h4, h5, h6, h7, h8, h9, hA a (Array.getElem?_eq_some_iff.mp h5).1⟩
theorem vx_isRef {C n d : String} {v : Value} {A : Nat → Prop} {s : State} {args : Array Value} (h : va_Z C n d v A s s.heap) (hv : v.isRef = true) : (Cond.isRef (.static C n d)).before args s = true := by
  obtain ⟨cf, kf, fi, f, a, cell, h1, h2, h3, h4, h5, h6, h7, -⟩ := h
  have he : (Term.static C n d).eval args s none [] s = some v := by
    simp [Term.eval, State.fieldNamed?, h1, h2, h4, h5, h6, h7]
  simp only [Cond.before, Cond.holds, Cond.value, he]
  cases v <;> simp_all [Value.isRef]
theorem vx_isRefq {C n d : String} {A : Nat → Prop} {s : State} {args : Array Value} (h : va_Zq C n d A s s.heap) : (Cond.isRef (.static C n d)).before args s = true := by
  rcases h with h | ⟨t, h⟩
  · exact vx_isRef h rfl
  · exact vx_isRef h rfl
/-- the same frame, seen from here: as if the method were called anew in this heap -/
theorem vx_rebase {T : State} (X : Stand p l e R s m args below meth c T locs cells slots) {R' : Room} (hf : R'.frames ≤ R.frames) (hl : R'.locals ≤ R.locals) (hc : cells + R'.cells ≤ R.cells) (hs : slots + R'.slots ≤ R.slots) :
    Stand p l e R' ((T.setVm s.vm).setFrames (.invoking m args :: below)) m args below meth c T [] 0 0 := by
  have htop : (T.setVm s.vm).topJava?.isSome := X.here.top
  have hF : ((T.setVm s.vm).setFrames (.invoking m args :: below)).frames = .invoking m args :: below := State.frames_setFrames _ (State.cur_lt_of_top htop)
  obtain ⟨g₀, hg0⟩ := Option.isSome_iff_exists.mp htop
  obtain ⟨r, hr⟩ := State.topJava?_eq_some.mp hg0
  have hl9 : e.platform.stackLimits (T.setVm s.vm).me = e.platform.stackLimits s.me := X.limits
  have hb9 : (T.setVm s.vm).me.stackBytes = s.me.stackBytes := X.bytes
  refine ⟨X.admits, X.cas, X.clock, hF, ?_, X.hears, X.method, X.code, X.here, X.tail, X.warmed, ?_, ?_, ?_⟩
  · have h := X.room
    have hU : ((T.setVm s.vm).setFrames (.invoking m args :: below)).localsInUse = s.localsInUse := by
      rw [State.localsInUse_invoking hF (meth := meth) (c := c) X.method X.code, State.localsInUse_invoking X.frames X.method X.code]
    simp only [State.hasRoom, Bool.and_eq_true, decide_eq_true_eq] at h ⊢
    obtain ⟨⟨⟨⟨h1, h2, h3, h4, h5, h6⟩, h7⟩, h8⟩, h9⟩ := h
    rw [X.frames, List.length_cons] at h2 h3
    have q1 := X.heapSize
    have q2 := X.used
    simp only [hF, hU, List.length_cons, State.stackLimits_setFrames, State.stackBytes_setFrames, hl9, hb9]
    refine ⟨⟨⟨⟨by omega, by omega, by omega, by omega, by omega, h6⟩, ?_⟩, ?_⟩, X.book⟩
    · show T.heap.size + R'.cells ≤ e.platform.maxCells
      omega
    · show T.slotsUsed + R'.slots ≤ e.platform.maxSlots
      omega
  · rw [State.stackLimits_setFrames]; rfl
  · rw [State.stackBytes_setFrames]; rfl
  · refine ⟨?_, Nat.le_refl _, Nat.le_refl _, ?_, ?_, fun a c9 h9 => ⟨c9, h9, rfl, rfl, fun _ _ => rfl⟩⟩
    · obtain ⟨t, ht, -⟩ := State.frames_cons hr
      show T.setVm s.vm = { ((T.setVm s.vm).setFrames (.invoking m args :: below)).setFrames (T.setVm s.vm).frames with heap := T.heap, slotsUsed := T.slotsUsed }
      rw [State.setFrames_setFrames, State.setFrames_self ht]
      rfl
    · show T.slotsUsed = T.slotsUsed + ((T.heap.toList.drop T.heap.size).map (·.slots.size)).sum
      rw [List.drop_eq_nil_of_le (Nat.le_of_eq Array.length_toList)]
      rfl
    · show ((T.heap.toList.drop T.heap.size).map (·.slots.size)).sum ≤ 0
      rw [List.drop_eq_nil_of_le (Nat.le_of_eq Array.length_toList)]
      exact Nat.le_refl _
/-- 'throw new E()': new; dup; invokespecial; athrow -/
theorem vx_throw0 {cc : ByteArray} {pc : Nat} (hexec : p.tables.exec = Jvm.exec) (hb : c.code = cc) (hl : l.stackTraces = false) {own cls : String} {names : List String} {ik ic mc ms : Nat} {A : Nat → Prop}
    (hown : s.vm.findClass own = some m.cls) (hcls : Bundle.fit cls = true) (hnames : ∀ n ∈ names, Bundle.fit n = true)
    (hk : (Cond.classLink own ik cls).before args s = true) (hini : (Cond.initialized cls).before args s = true) (hat : ∀ w ∈ vx_at0 own ic cls names, w.before args s = true)
    (hgood : ∀ w ∈ Cond.classLink own ik cls :: Cond.initialized cls :: vx_at0 own ic cls names, vx_ot w = true)
    (hU : vx_Zq Bundle.tN "UNASSIGNED_STACK" Bundle.steD A s s.heap) (hN : vx_Zq Bundle.tN "SUPPRESSED_SENTINEL" Bundle.listD A s s.heap) (hS : va_S A s.heap H locs) (hsize : ls.size = c.maxLocals)
    (d0 : decode cc pc = .ok (.new ik, 3)) (d3 : decode cc (pc + 3) = .ok (.dup, 1)) (d4 : decode cc (pc + 4) = .ok (.invokespecial ic, 3)) (d7 : decode cc (pc + 7) = .ok (.athrow, 1))
    (hout : ∀ x ∈ c.exceptionTable.toList, covers x (pc + 7) = false)
    (hRframes : names.length + 3 < R.frames) (hRlocals : (rest.map fun v => v.category).sum + (13 * (names.length + 1) + 42) ≤ R.locals) (hRcells : cells + 1 ≤ R.cells) (hRslots : slots + 6 ≤ R.slots) (hlocks : meth.locks = false)
    (hx : ∀ t : State, s.vm.Alike t.vm → H.size ≤ t.heap.size → (∀ q : Nat, q < H.size → t.heap[q]? = H[q]?) → XC cls s t)
    (hf : ∀ z ∈ locs, free z.base) (hc : cells + 1 ≤ mc) (hs : slots + 6 ≤ ms) :
    W p l e R s m args below meth c H locs cells slots (vx_MQ below Qc XC args s mc ms free) (F0 m pc ls rest) := by
  intro T hT X
  have htr : e.platform.stackTraces = false := (show e.platform.stackTraces = l.stackTraces by rw [X.admits.platform]).trans hl
  have Y := vx_rebase X (R' := { frames := R.frames, locals := R.locals, cells := 1, slots := 6 }) (Nat.le_refl _) (Nat.le_refl _) hRcells hRslots
  obtain ⟨s', hA⟩ : ∃ z, z = (T.setVm s.vm).setFrames (.invoking m args :: below) := ⟨_, rfl⟩
  rw [← hA] at Y
  have hvm : s'.vm = s.vm := by rw [hA]; rfl
  have hhp : s'.heap = H := by rw [hA]; exact hT
  have hW0 : s.WarmedH s'.vm := by rw [hvm]; exact State.WarmedH.refl s
  have hat' : ∀ w ∈ vx_at0 own ic cls names, w.before args s' = true := fun w hw => vx_ot_at hW0 hvm.symm (hgood w (List.mem_cons_of_mem _ (List.mem_cons_of_mem _ hw))) (hat w hw)
  have hk' : (Cond.classLink own ik cls).before args s' = true := vx_ot_at hW0 hvm.symm (hgood _ List.mem_cons_self) hk
  have hini' : (Cond.initialized cls).before args s' = true := vx_ot_at hW0 hvm.symm (hgood _ (List.mem_cons_of_mem _ List.mem_cons_self)) hini
  have hU' : vx_Zq Bundle.tN "UNASSIGNED_STACK" Bundle.steD A s' s'.heap := by rw [hhp]; exact vx_Zq.moved hW0.alike (hU.kept hS.2.1)
  have hN' : vx_Zq Bundle.tN "SUPPRESSED_SENTINEL" Bundle.listD A s' s'.heap := by rw [hhp]; exact vx_Zq.moved hW0.alike (hN.kept hS.2.1)
  have h : ∀ w ∈ Bundle.ownAtoms0 own ic cls names, w.before args s' = true := vx_own hat' (vx_isRefq hU'.1) (vx_isRefq hN'.1) hU'.2.word hN'.2.word
  have hown' : s'.vm.findClass own = some m.cls := by rw [hvm]; exact hown
  have hins : (Cond.instantiable cls 6).before args s' = true := h _ (by simp [Bundle.ownAtoms0])
  obtain ⟨vm₁, cX, kX, hfX, hkX, -, -, X₁, st1⟩ := Y.newCold hexec (own := own) (C := cls) (index := ik) (n := 6) hown' hk' hins hini'
    (g := F0 m pc ls rest) rfl (by rw [hb]; exact d0) (Nat.le_refl _) (Nat.le_refl _)
  generalize hT1 : (T.setVm vm₁).pushCell { cls := cX, slots := kX.instanceTypes.map defaultValue, vm := .none } = T1 at X₁ st1
  have hcat : (Value.ref T.heap.size).category = 1 := rfl
  have hcellA : T1.heap[T.heap.size]? = some (freshCell cX kX) := by rw [← hT1]; exact State.heap_pushCell_size _ _
  have d3' : decode c.code (pc + 3) = .ok (.dup, 1) := by rw [hb]; exact d3
  obtain ⟨U, hsteps, hrun, hend, hW, hsame, ce, hce, hO⟩ := X₁.ctorThrow0 hexec htr (own := own) (cls := cls) (names := names) (ic := ic) hown' hcls hnames h (fun x hx => nomatch hx) hfX hkX hcellA (by rw [hhp, hT]; exact Nat.le_refl _)
    (g := { method := m, pc := pc + 4, locals := ls, stack := .ref T.heap.size :: .ref T.heap.size :: rest, locked := none }) rfl hsize rfl rfl (rest := rest) rfl
    (by rw [hb]; exact d4) (by rw [hb]; exact d7) hout hRframes (by simp only [List.map_cons, List.sum_cons, hcat]; omega) hlocks
  obtain ⟨f1, f2⟩ := vx_frame hsame
  rw [hhp] at f1 f2
  have hWs : s.WarmedH U.vm := State.WarmedH.trans hW0 hW
  have hcl : s.vm.findClass cls = some ce.cls := by
    have h9 := hO.cls
    rw [hvm] at h9
    exact h9
  have hall : s.sameButNew ({ U with vm := s.vm } : State) locs mc ms := by
    subst hA
    obtain ⟨e1, e2⟩ := hsame
    rw [State.setFrames_setFrames] at e1
    have h2 : (T.setVm s.vm).sameButNew ({ U with vm := s.vm } : State) [] (0 + 1) (0 + 6) := ⟨e1, e2⟩
    have h3 := X.same.trans h2
    rw [List.append_nil] at h3
    exact h3.mono hc hs
  refine ⟨U, ?_, .threw T.heap.size, hrun, hend, Or.inr ⟨T.heap.size, rfl, cls, ce, locs, hx U hWs.alike f1 (fun q hq => f2 q hq (fun z hz => nomatch hz)), hce, hO.vm, hcl, hWs, hall, hf⟩⟩
  refine st1 _ ?_
  show Steps p.tables e below (T1.setTop { method := m, pc := pc + 3, locals := ls, stack := .ref T.heap.size :: rest, locked := none }) _
  jvm_step X₁.here [X₁.here.top, hexec, d3', Value.category]
  exact hsteps
/-- 'throw new E("text")': new; dup; ldc; invokespecial; athrow -/
theorem vx_throwS {cc : ByteArray} {pc : Nat} (hexec : p.tables.exec = Jvm.exec) (hb : c.code = cc) (hl : l.stackTraces = false) {own cls text : String} {names : List String} {ik is ic mc ms sa : Nat} {A : Nat → Prop}
    (hown : s.vm.findClass own = some m.cls) (hcls : Bundle.fit cls = true) (hnames : ∀ n ∈ names, Bundle.fit n = true)
    (hk : (Cond.classLink own ik cls).before args s = true) (hini : (Cond.initialized cls).before args s = true) (hstr : vk_R own is text sa s) (hat : ∀ w ∈ vx_atS own ic cls names, w.before args s = true)
    (hgood : ∀ w ∈ Cond.classLink own ik cls :: Cond.initialized cls :: vx_atS own ic cls names, vx_ot w = true)
    (hU : vx_Zq Bundle.tN "UNASSIGNED_STACK" Bundle.steD A s s.heap) (hN : vx_Zq Bundle.tN "SUPPRESSED_SENTINEL" Bundle.listD A s s.heap) (hS : va_S A s.heap H locs) (hsize : ls.size = c.maxLocals)
    (d0 : decode cc pc = .ok (.new ik, 3)) (d3 : decode cc (pc + 3) = .ok (.dup, 1)) (d4 : decode cc (pc + 4) = .ok (.ldc is, 2)) (d6 : decode cc (pc + 6) = .ok (.invokespecial ic, 3)) (d9 : decode cc (pc + 9) = .ok (.athrow, 1))
    (hout : ∀ x ∈ c.exceptionTable.toList, covers x (pc + 9) = false)
    (hRframes : names.length + 3 < R.frames) (hRlocals : (rest.map fun v => v.category).sum + (13 * (names.length + 1) + 43) ≤ R.locals) (hRcells : cells + 1 ≤ R.cells) (hRslots : slots + 6 ≤ R.slots) (hlocks : meth.locks = false)
    (hx : ∀ t : State, s.vm.Alike t.vm → H.size ≤ t.heap.size → (∀ q : Nat, q < H.size → t.heap[q]? = H[q]?) → XC cls s t)
    (hf : ∀ z ∈ locs, free z.base) (hc : cells + 1 ≤ mc) (hs : slots + 6 ≤ ms) :
    W p l e R s m args below meth c H locs cells slots (vx_MQ below Qc XC args s mc ms free) (F0 m pc ls rest) := by
  intro T hT X
  have htr : e.platform.stackTraces = false := (show e.platform.stackTraces = l.stackTraces by rw [X.admits.platform]).trans hl
  have Y := vx_rebase X (R' := { frames := R.frames, locals := R.locals, cells := 1, slots := 6 }) (Nat.le_refl _) (Nat.le_refl _) hRcells hRslots
  obtain ⟨s', hA⟩ : ∃ z, z = (T.setVm s.vm).setFrames (.invoking m args :: below) := ⟨_, rfl⟩
  rw [← hA] at Y
  have hvm : s'.vm = s.vm := by rw [hA]; rfl
  have hhp : s'.heap = H := by rw [hA]; exact hT
  have hW0 : s.WarmedH s'.vm := by rw [hvm]; exact State.WarmedH.refl s
  have hat' : ∀ w ∈ vx_atS own ic cls names, w.before args s' = true := fun w hw => vx_ot_at hW0 hvm.symm (hgood w (List.mem_cons_of_mem _ (List.mem_cons_of_mem _ hw))) (hat w hw)
  have hk' : (Cond.classLink own ik cls).before args s' = true := vx_ot_at hW0 hvm.symm (hgood _ List.mem_cons_self) hk
  have hini' : (Cond.initialized cls).before args s' = true := vx_ot_at hW0 hvm.symm (hgood _ (List.mem_cons_of_mem _ List.mem_cons_self)) hini
  have hU' : vx_Zq Bundle.tN "UNASSIGNED_STACK" Bundle.steD A s' s'.heap := by rw [hhp]; exact vx_Zq.moved hW0.alike (hU.kept hS.2.1)
  have hN' : vx_Zq Bundle.tN "SUPPRESSED_SENTINEL" Bundle.listD A s' s'.heap := by rw [hhp]; exact vx_Zq.moved hW0.alike (hN.kept hS.2.1)
  have h : ∀ w ∈ Bundle.ownAtoms own ic cls names, w.before args s' = true := vx_own hat' (vx_isRefq hU'.1) (vx_isRefq hN'.1) hU'.2.word hN'.2.word
  have hown' : s'.vm.findClass own = some m.cls := by rw [hvm]; exact hown
  have hins : (Cond.instantiable cls 6).before args s' = true := h _ (by simp [Bundle.ownAtoms])
  obtain ⟨vm₁, cX, kX, hfX, hkX, -, -, X₁, st1⟩ := Y.newCold hexec (own := own) (C := cls) (index := ik) (n := 6) hown' hk' hins hini'
    (g := F0 m pc ls rest) rfl (by rw [hb]; exact d0) (Nat.le_refl _) (Nat.le_refl _)
  generalize hT1 : (T.setVm vm₁).pushCell { cls := cX, slots := kX.instanceTypes.map defaultValue, vm := .none } = T1 at X₁ st1
  have hcat : (Value.ref T.heap.size).category = 1 := rfl
  have hcellA : T1.heap[T.heap.size]? = some (freshCell cX kX) := by rw [← hT1]; exact State.heap_pushCell_size _ _
  have d3' : decode c.code (pc + 3) = .ok (.dup, 1) := by rw [hb]; exact d3
  have d4' : decode c.code (pc + 4) = .ok (.ldc is, 2) := by rw [hb]; exact d4
  have hstr' : vk_R own is text sa s' := vk_R.warm hW0 hstr
  obtain ⟨U, hsteps, hrun, hend, hW, hsame, ce, hce, hO⟩ := X₁.ctorThrowS hexec htr (own := own) (cls := cls) (names := names) (ic := ic) hown' hcls hnames h (fun x hx => nomatch hx) hfX hkX hcellA (by rw [hhp, hT]; exact Nat.le_refl _) (msg := .ref sa) rfl
    (g := { method := m, pc := pc + 6, locals := ls, stack := .ref sa :: .ref T.heap.size :: .ref T.heap.size :: rest, locked := none }) rfl hsize rfl rfl (rest := rest) rfl
    (by rw [hb]; exact d6) (by rw [hb]; exact d9) hout hRframes (by simp only [List.map_cons, List.sum_cons, hcat]; omega) hlocks
  obtain ⟨f1, f2⟩ := vx_frame hsame
  rw [hhp] at f1 f2
  have hWs : s.WarmedH U.vm := State.WarmedH.trans hW0 hW
  have hcl : s.vm.findClass cls = some ce.cls := by
    have h9 := hO.cls
    rw [hvm] at h9
    exact h9
  have hall : s.sameButNew ({ U with vm := s.vm } : State) locs mc ms := by
    subst hA
    obtain ⟨e1, e2⟩ := hsame
    rw [State.setFrames_setFrames] at e1
    have h2 : (T.setVm s.vm).sameButNew ({ U with vm := s.vm } : State) [] (0 + 1) (0 + 6) := ⟨e1, e2⟩
    have h3 := X.same.trans h2
    rw [List.append_nil] at h3
    exact h3.mono hc hs
  refine ⟨U, ?_, .threw T.heap.size, hrun, hend, Or.inr ⟨T.heap.size, rfl, cls, ce, locs, hx U hWs.alike f1 (fun q hq => f2 q hq (fun z hz => nomatch hz)), hce, hO.vm, hcl, hWs, hall, hf⟩⟩
  refine st1 _ ?_
  show Steps p.tables e below (T1.setTop { method := m, pc := pc + 3, locals := ls, stack := .ref T.heap.size :: rest, locked := none }) _
  jvm_step X₁.here [X₁.here.top, hexec, d3', Value.category]
  exact X₁.ldcString hexec (own := own) (text := text) (index := is) (a := sa) hown' hstr'.1 hstr'.2
    (g := { method := m, pc := pc + 4, locals := ls, stack := .ref T.heap.size :: .ref T.heap.size :: rest, locked := none }) rfl d4' _ hsteps
/-- 'throw new E("text")', the text by a wide index -/
theorem vx_throwSW {cc : ByteArray} {pc : Nat} (hexec : p.tables.exec = Jvm.exec) (hb : c.code = cc) (hl : l.stackTraces = false) {own cls text : String} {names : List String} {ik is ic mc ms sa : Nat} {A : Nat → Prop}
    (hown : s.vm.findClass own = some m.cls) (hcls : Bundle.fit cls = true) (hnames : ∀ n ∈ names, Bundle.fit n = true)
    (hk : (Cond.classLink own ik cls).before args s = true) (hini : (Cond.initialized cls).before args s = true) (hstr : vk_R own is text sa s) (hat : ∀ w ∈ vx_atS own ic cls names, w.before args s = true)
    (hgood : ∀ w ∈ Cond.classLink own ik cls :: Cond.initialized cls :: vx_atS own ic cls names, vx_ot w = true)
    (hU : vx_Zq Bundle.tN "UNASSIGNED_STACK" Bundle.steD A s s.heap) (hN : vx_Zq Bundle.tN "SUPPRESSED_SENTINEL" Bundle.listD A s s.heap) (hS : va_S A s.heap H locs) (hsize : ls.size = c.maxLocals)
    (d0 : decode cc pc = .ok (.new ik, 3)) (d3 : decode cc (pc + 3) = .ok (.dup, 1)) (d4 : decode cc (pc + 4) = .ok (.ldc_w is, 3)) (d7 : decode cc (pc + 7) = .ok (.invokespecial ic, 3)) (d10 : decode cc (pc + 10) = .ok (.athrow, 1))
    (hout : ∀ x ∈ c.exceptionTable.toList, covers x (pc + 10) = false)
    (hRframes : names.length + 3 < R.frames) (hRlocals : (rest.map fun v => v.category).sum + (13 * (names.length + 1) + 43) ≤ R.locals) (hRcells : cells + 1 ≤ R.cells) (hRslots : slots + 6 ≤ R.slots) (hlocks : meth.locks = false)
    (hx : ∀ t : State, s.vm.Alike t.vm → H.size ≤ t.heap.size → (∀ q : Nat, q < H.size → t.heap[q]? = H[q]?) → XC cls s t)
    (hf : ∀ z ∈ locs, free z.base) (hc : cells + 1 ≤ mc) (hs : slots + 6 ≤ ms) :
    W p l e R s m args below meth c H locs cells slots (vx_MQ below Qc XC args s mc ms free) (F0 m pc ls rest) := by
  intro T hT X
  have htr : e.platform.stackTraces = false := (show e.platform.stackTraces = l.stackTraces by rw [X.admits.platform]).trans hl
  have Y := vx_rebase X (R' := { frames := R.frames, locals := R.locals, cells := 1, slots := 6 }) (Nat.le_refl _) (Nat.le_refl _) hRcells hRslots
  obtain ⟨s', hA⟩ : ∃ z, z = (T.setVm s.vm).setFrames (.invoking m args :: below) := ⟨_, rfl⟩
  rw [← hA] at Y
  have hvm : s'.vm = s.vm := by rw [hA]; rfl
  have hhp : s'.heap = H := by rw [hA]; exact hT
  have hW0 : s.WarmedH s'.vm := by rw [hvm]; exact State.WarmedH.refl s
  have hat' : ∀ w ∈ vx_atS own ic cls names, w.before args s' = true := fun w hw => vx_ot_at hW0 hvm.symm (hgood w (List.mem_cons_of_mem _ (List.mem_cons_of_mem _ hw))) (hat w hw)
  have hk' : (Cond.classLink own ik cls).before args s' = true := vx_ot_at hW0 hvm.symm (hgood _ List.mem_cons_self) hk
  have hini' : (Cond.initialized cls).before args s' = true := vx_ot_at hW0 hvm.symm (hgood _ (List.mem_cons_of_mem _ List.mem_cons_self)) hini
  have hU' : vx_Zq Bundle.tN "UNASSIGNED_STACK" Bundle.steD A s' s'.heap := by rw [hhp]; exact vx_Zq.moved hW0.alike (hU.kept hS.2.1)
  have hN' : vx_Zq Bundle.tN "SUPPRESSED_SENTINEL" Bundle.listD A s' s'.heap := by rw [hhp]; exact vx_Zq.moved hW0.alike (hN.kept hS.2.1)
  have h : ∀ w ∈ Bundle.ownAtoms own ic cls names, w.before args s' = true := vx_own hat' (vx_isRefq hU'.1) (vx_isRefq hN'.1) hU'.2.word hN'.2.word
  have hown' : s'.vm.findClass own = some m.cls := by rw [hvm]; exact hown
  have hins : (Cond.instantiable cls 6).before args s' = true := h _ (by simp [Bundle.ownAtoms])
  obtain ⟨vm₁, cX, kX, hfX, hkX, -, -, X₁, st1⟩ := Y.newCold hexec (own := own) (C := cls) (index := ik) (n := 6) hown' hk' hins hini'
    (g := F0 m pc ls rest) rfl (by rw [hb]; exact d0) (Nat.le_refl _) (Nat.le_refl _)
  generalize hT1 : (T.setVm vm₁).pushCell { cls := cX, slots := kX.instanceTypes.map defaultValue, vm := .none } = T1 at X₁ st1
  have hcat : (Value.ref T.heap.size).category = 1 := rfl
  have hcellA : T1.heap[T.heap.size]? = some (freshCell cX kX) := by rw [← hT1]; exact State.heap_pushCell_size _ _
  have d3' : decode c.code (pc + 3) = .ok (.dup, 1) := by rw [hb]; exact d3
  have d4' : decode c.code (pc + 4) = .ok (.ldc_w is, 3) := by rw [hb]; exact d4
  have hstr' : vk_R own is text sa s' := vk_R.warm hW0 hstr
  obtain ⟨U, hsteps, hrun, hend, hW, hsame, ce, hce, hO⟩ := X₁.ctorThrowS hexec htr (own := own) (cls := cls) (names := names) (ic := ic) hown' hcls hnames h (fun x hx => nomatch hx) hfX hkX hcellA (by rw [hhp, hT]; exact Nat.le_refl _) (msg := .ref sa) rfl
    (g := { method := m, pc := pc + 7, locals := ls, stack := .ref sa :: .ref T.heap.size :: .ref T.heap.size :: rest, locked := none }) rfl hsize rfl rfl (rest := rest) rfl
    (by rw [hb]; exact d7) (by rw [hb]; exact d10) hout hRframes (by simp only [List.map_cons, List.sum_cons, hcat]; omega) hlocks
  obtain ⟨f1, f2⟩ := vx_frame hsame
  rw [hhp] at f1 f2
  have hWs : s.WarmedH U.vm := State.WarmedH.trans hW0 hW
  have hcl : s.vm.findClass cls = some ce.cls := by
    have h9 := hO.cls
    rw [hvm] at h9
    exact h9
  have hall : s.sameButNew ({ U with vm := s.vm } : State) locs mc ms := by
    subst hA
    obtain ⟨e1, e2⟩ := hsame
    rw [State.setFrames_setFrames] at e1
    have h2 : (T.setVm s.vm).sameButNew ({ U with vm := s.vm } : State) [] (0 + 1) (0 + 6) := ⟨e1, e2⟩
    have h3 := X.same.trans h2
    rw [List.append_nil] at h3
    exact h3.mono hc hs
  refine ⟨U, ?_, .threw T.heap.size, hrun, hend, Or.inr ⟨T.heap.size, rfl, cls, ce, locs, hx U hWs.alike f1 (fun q hq => f2 q hq (fun z hz => nomatch hz)), hce, hO.vm, hcl, hWs, hall, hf⟩⟩
  refine st1 _ ?_
  show Steps p.tables e below (T1.setTop { method := m, pc := pc + 3, locals := ls, stack := .ref T.heap.size :: rest, locked := none }) _
  jvm_step X₁.here [X₁.here.top, hexec, d3', Value.category]
  exact X₁.ldcStringW hexec (own := own) (text := text) (index := is) (a := sa) hown' hstr'.1 hstr'.2
    (g := { method := m, pc := pc + 4, locals := ls, stack := .ref T.heap.size :: .ref T.heap.size :: rest, locked := none }) rfl d4' _ hsteps
end Ends
section Bodies
variable {l : Launch}
theorem vx_ofW {y : MethodName} {ws ws' : List Cond} {rm : Room} {Pc : Array Value → State → Prop} {Qc : Array Value → State → Outcome → State → Prop} {XC : String → State → State → Prop} {mc ms : Nat} {free : Addr → Prop} {cc : ByteArray} {maxL : Nat} {ret : Option FieldType}
    (hy : plainName y.cls = true) (hw : ws = Cond.code y cc maxL ret :: ws')
    (body : ∀ p e s m args below meth c s₁, BodyLoose p l y (headSpec ws rm) cc maxL ret e s m args below meth c s₁ → c.maxLocals = maxL → (∀ x ∈ c.exceptionTable.toList, False) → Pc args s →
      W p l e (headSpec ws rm).room s m args below meth c s.heap [] 0 0 (vx_MQ below Qc XC args s mc ms free) (entryFrame m args maxL)) : vx_Met l y ws rm Pc Qc XC mc ms free := by
  refine MetFree.of_bodyS (code := cc) (maxLocals := maxL) (ret := ret) hy ?_ ?_
  · intro args s m h hn
    obtain ⟨meth, c, h1, h2, h3, h4, h5, h6, -, -⟩ := Cond.code_spec hn (atoms_spec (ws := ws) h _ (by rw [hw]; exact List.mem_cons_self))
    exact ⟨meth, c, h1, h2, h3, h4, h5, h6⟩
  · intro p e s m args below meth c s₁ B hml hP _
    have hh0 : s₁.heap = s.heap := by rw [B.state]; rfl
    have ht : ∀ x ∈ c.exceptionTable.toList, False := by
      obtain ⟨meth9, c9, h1, h2, -, -, -, -, h7, -⟩ := Cond.code_spec B.named (atoms_spec (ws := ws) B.pre _ (by rw [hw]; exact List.mem_cons_self))
      cases Option.some.inj (h1.symm.trans B.method)
      cases Option.some.inj (h2.symm.trans (Stand.of_body B).code)
      intro x hx
      rw [Array.isEmpty_iff.mp h7] at hx
      cases hx
    obtain ⟨t, a1, o, b1, b2, b3⟩ := body p e s m args below meth c s₁ B hml ht hP s₁ hh0 (Stand.of_body B)
    exact ⟨t, o, a1, b1, b2, b3⟩
/-- the table of a body with handlers -/
theorem vx_table {p : Program} {x y : MethodName} {S : Spec} {cc bytes : ByteArray} {maxL maxL' : Nat} {ret ret' : Option FieldType} {e : Env} {s s₁ : State} {m : MethodId} {args : Array Value} {below : List Frame} {meth : Method} {c : Code} {hh : List (Nat × Nat × Nat × Nat)}
    (B : BodyLoose p l y S cc maxL ret e s m args below meth c s₁) (h : (Cond.codeWith y bytes maxL' ret' hh).before args s = true) : c.exceptionTable.toList = tableOf hh := by
  obtain ⟨m9, meth9, c9, hn9, h1, h2, -, -, h6, -⟩ := Cond.codeWith_spec h
  cases Option.some.inj (hn9.symm.trans B.named)
  cases Option.some.inj (h1.symm.trans B.method)
  cases Option.some.inj (h2.symm.trans (Stand.of_body B).code)
  rw [← h6, table_eq]
end Bodies
end VXA
/-! ===== END ===== -/
/-! ===== BEGIN a static call of a method with an exception table ===== -/
section VXS
variable {p : Program} {l : Launch} {e : Env} {R : Room} {s : State} {m : MethodId} {args : Array Value} {below : List Frame} {meth : Method} {c : Code} {T : State} {H : Heap} {locs : List Loc} {cells slots : Nat}
abbrev vx_CSW (R : Room) (s : State) (args : Array Value) (own : String) (index : Nat) (y : MethodName) (bytes : ByteArray) (maxL : Nat) (ret : Option FieldType) (hh : List (Nat × Nat × Nat × Nat)) (ws : List Cond) (rm : Room) (mc ms n : Nat) : Prop :=
  (rm.cells = mc ∧ rm.slots = ms ∧ rm.frames + 1 ≤ R.frames ∧ 8 + (maxL + 11) + rm.locals ≤ R.locals ∧ (∀ w ∈ ws, ∀ (a' : Array Value) (U : State), s.WarmedH U.vm → w.before a' U = true) ∧ Cond.codeWith y bytes maxL ret hh ∈ ws) ∧
  (Cond.codeWith y bytes maxL ret hh).before args s = true ∧ (Cond.initialized y.cls).before args s = true ∧ (y.cls ≠ "java/lang/invoke/MethodHandle" ∧ y.cls ≠ "java/lang/invoke/VarHandle") ∧
  (∀ sig, parseMethodDescriptor y.desc = some sig → n = sig.parameters.length) ∧ (Cond.methodLink own index y).before args s = true ∧ (Cond.static y).before args s = true
theorem vx_cwSW {own : String} {index maxL mc ms : Nat} {y : MethodName} {bytes : ByteArray} {ret : Option FieldType} {hh : List (Nat × Nat × Nat × Nat)} {Ts ws ws' : List Cond} {rm : Room} (n : Nat) (ht : ∀ w ∈ Ts, w.before args s = true) (hT : GoodIn Ts (va_wsS own index y ws)) (hw : ws = Cond.codeWith y bytes maxL ret hh :: ws') (hrc : rm.cells = mc) (hrs : rm.slots = ms)
    (hd : y.cls ≠ "java/lang/invoke/MethodHandle" ∧ y.cls ≠ "java/lang/invoke/VarHandle" ∧ (parseMethodDescriptor y.desc).map (fun d => d.parameters.length) = some n) (hR : rm.frames + 1 ≤ R.frames ∧ 8 + (maxL + 11) + rm.locals ≤ R.locals) :
    vx_CSW R s args own index y bytes maxL ret hh ws rm mc ms n := by
  have ok : ∀ w ∈ va_wsS own index y ws, w.before args s = true := fun w h => ht w (hT w h).1
  have hG : GoodIn Ts ws := fun w h => hT w (by unfold va_wsS; exact List.mem_append_right _ h)
  have hc : Cond.codeWith y bytes maxL ret hh ∈ ws := by rw [hw]; exact List.mem_cons_self
  refine ⟨⟨hrc, hrs, hR.1, hR.2, pay_in ht hG, hc⟩, ht _ (hG _ hc).1, ok _ (by simp [va_wsS]), ⟨hd.1, hd.2.1⟩, fun sig h => ?_, ok _ (by simp [va_wsS]), ok _ (by simp [va_wsS])⟩
  have h2 := hd.2.2
  rw [h] at h2
  exact (Option.some.inj h2).symm
theorem vx_callSW (X : Stand p l e R s m args below meth c T locs cells slots) (hexec : p.tables.exec = Jvm.exec) {own : String} {index : Nat} {y : MethodName} {bytes : ByteArray} {maxL : Nat} {ret : Option FieldType} {hh : List (Nat × Nat × Nat × Nat)}
    (hown : s.vm.findClass own = some m.cls) (hlink : (Cond.methodLink own index y).before args s = true) (hstat : (Cond.static y).before args s = true) (hinit : (Cond.initialized y.cls).before args s = true)
    (hcode : (Cond.codeWith y bytes maxL ret hh).before args s = true) (hy : y.cls ≠ "java/lang/invoke/MethodHandle" ∧ y.cls ≠ "java/lang/invoke/VarHandle")
    {W9 : Nat} {Pre : Pt → Array Value → Prop} {Post : Pt → Array Value → Option Value → Pt → Prop} (hK : Back l R p e below s args y 3 W9 Pre Post)
    {g : JFrame} (hg : g.method = m) (hsize : g.locals.size = c.maxLocals) {argsL rest : List Value} (hlen : ∀ sig, parseMethodDescriptor y.desc = some sig → argsL.length = sig.parameters.length)
    (hstack : g.stack = argsL.reverse ++ rest) (hW : 2 * g.monitorRoom + (rest.map fun v => v.category).sum ≤ W9) (hdg : decode c.code g.pc = .ok (.invokestatic index, 3))
    (hpre : ∀ vm₁, s.WarmedH vm₁ → Pre ⟨T.setVm vm₁, locs, cells, slots⟩ argsL.toArray) :
    ∃ (v : Option Value) (vm₁ : Vm) (B : Pt), s.WarmedH vm₁ ∧ Stand p l e R s m args below meth c B.U B.locs B.cells B.slots ∧ Post ⟨T.setVm vm₁, locs, cells, slots⟩ argsL.toArray v B ∧
      ∀ target, Steps p.tables e below (B.U.setTop { g with pc := g.pc + 3, stack := v.toList ++ rest }) target → Steps p.tables e below (T.setTop g) target := by
  obtain ⟨mk, methM, cM, hnamed, hmethM, -, -, -, -, -, -, hsigM⟩ := Cond.codeWith_spec hcode
  have hstatic : methM.isStatic = true := Cond.static_spec hnamed hmethM hstat
  obtain ⟨kP, hkP, -⟩ := className_of_methodNamed hnamed
  have hinitP : kP.init = .initialized := Cond.initialized_spec (findClass_of_methodNamed hnamed) hkP hinit
  obtain ⟨vm₁, X₁, hstep₁⟩ := X.invokestatic hexec hown hlink hnamed hmethM hstatic hkP hinitP hy (g := g) hg (argsL := argsL) (rest := rest) (hlen _ hsigM) hstack hdg
  obtain ⟨v, B, X', hpost, hsteps⟩ := hK m meth c ⟨T.setVm vm₁, locs, cells, slots⟩ { g with stack := rest } (.invokestatic index) mk argsL.toArray X₁ hg hsize hdg hW (X₁.named hnamed) (hpre vm₁ X₁.warmed)
  exact ⟨v, vm₁, B, X₁.warmed, X', hpost, fun target h => hstep₁ _ fun acts => by rw [doInvoke_state]; exact hsteps.trans h⟩
theorem vx_runSW {y : MethodName} {bytes cc : ByteArray} {maxL nL mc ms n index : Nat} {ret : Option FieldType} {hh : List (Nat × Nat × Nat × Nat)} {ws : List Cond} {rm : Room} {Pc : Array Value → State → Prop} {Qc : Array Value → State → Outcome → State → Prop} {free : Addr → Prop} {Ts : List Cond} {own : String} {As rest : List Value} {g : JFrame}
    (S : CallFix p m c cc nL s args Ts own) (hM : Met l y ws rm Pc Qc mc ms free) (cw : vx_CSW R s args own index y bytes maxL ret hh ws rm mc ms n) (hp : PreS s H Pc As)
    (hg : g.method = m) (hn : As.length = n) (hsize : g.locals.size = nL) (hstack : g.stack = As.reverse ++ rest) (hW : 2 * g.monitorRoom + (rest.map fun v => v.category).sum ≤ 8) (hdg : decode cc g.pc = .ok (.invokestatic index, 3)) (hf : cells + mc ≤ R.cells ∧ slots + ms ≤ R.slots) :
    va_Run p l e R s m args below meth c H locs cells slots mc ms g rest (Qc As.toArray) (free) := by
  obtain ⟨⟨hrc, hrs, hfr, hlo, hws, hcw⟩, hcode, hini, hy, hlen, hl, hstt⟩ := cw
  have hK : Back l R p e below s args y 3 8 (PreOf R mc ms Pc) (PostOf Qc mc ms free) := va_backW (hh := hh) (bytes := bytes) (maxL := maxL) (ret := ret) hM hp.1 hrc hrs hfr hlo hws hcw (fun a' U hW => word_at hW (Or.inl (by first | rfl | simp [Cond.onTables, Cond.keeps, Cond.steady])) hini)
  obtain ⟨hx, hb, hml, ho, -⟩ := S
  intro T hT X
  obtain ⟨v, vm₁, ⟨U', l2, c2, s2⟩, hW₁, X', ⟨g', mk, t, L, e1, e2, hq, h1, hL, h2, h3⟩, st⟩ := vx_callSW X hx (hh := hh) (bytes := bytes) (maxL := maxL) (ret := ret) ho hl hstt hini hcode hy hK hg (hsize.trans hml.symm) (argsL := As) (rest := rest) (fun sig h => hn.trans (hlen sig h)) hstack hW (by rw [hb]; exact hdg)
    (fun vm₁ hW₁ => ⟨hf.1, hf.2, hp.2 (T.setVm vm₁) hT hW₁⟩)
  dsimp only [Pt.U, Pt.locs, Pt.cells, Pt.slots] at X' e1 e2 h1 h2 h3 st
  subst h1; subst h2; subst h3
  exact ⟨v, (T.setVm vm₁).calling g' mk As.toArray, t, U', L, hT, X', hL, e1, e2, hq, st⟩
/-- not caught here, past rows that name other classes: it goes on to the caller -/
theorem vx_outP {p : Program} {l : Launch} {e : Env} {R : Room} {s : State} {m : MethodId} {args : Array Value} {below : List Frame} {meth : Method} {c : Code} {H : Heap} {locs : List Loc} {cells slots : Nat} {free : Addr → Prop} {ls : Array Slot} {rest : List Value} {Qc : Array Value → State → Outcome → State → Prop} {XC : String → State → State → Prop}
    {pc : Nat} {own E : String} {ce : Cell} {q : Addr} {mc ms : Nat} (hown : s.vm.findClass own = some m.cls) (hlocks : meth.locks = false)
    (hpass : ∀ z ∈ c.exceptionTable.toList, covers z pc = false ∨ (z.catchType ≠ 0 ∧ ∃ nm : String, (Cond.classLink own z.catchType nm).before args s = true ∧ va_Nc E nm s)) (hcell : H[q]? = some ce) (hv : ce.vm = .none) (hcl : s.vm.findClass E = some ce.cls)
    (hx : ∀ t : State, t.heap = H → s.vm.Alike t.vm → XC E s t) (hf : ∀ z ∈ locs, free z.base) (hc : cells ≤ mc) (hs : slots ≤ ms) :
    vx_W p l e R s m args below meth c H locs cells slots (vx_MQ below Qc XC args s mc ms free) (F0 m pc ls rest) q := by
  intro T hT X
  have hpl : e.platform.magicAccessors = ({} : Platform).magicAccessors := by rw [X.admits.platform]
  obtain ⟨vm', hW', X', st⟩ := X.outThrough hlocks q (g := F0 m pc ls rest) rfl rfl rfl (cell := ce) (by rw [hT]; exact hcell) (by rw [hv]; rfl)
    (by obtain ⟨k9, h9, -⟩ := Vm.findClass_spec hcl; exact ⟨k9, h9⟩) (fun z hz => by
      rcases hpass z hz with h | ⟨hz0, nm, hl1, hn1⟩
      · exact Or.inl h
      · obtain ⟨c6, hc6, hcl6⟩ := Cond.classLink_spec hown hl1 e.platform hpl
        obtain ⟨a8, b8, h1, h2, h3⟩ := hn1
        cases Option.some.inj (h1.symm.trans hcl)
        cases Option.some.inj (h2.symm.trans hc6)
        exact Or.inr ⟨hz0, _, hcl6, h3⟩)
  obtain ⟨g₀, hfr⟩ := X'.frames_eq
  have hcell9 : ((T.setVm vm').setFrames (.throwing q :: below)).heap[q]? = some ce := by
    show T.heap[q]? = some ce
    rw [hT]; exact hcell
  have hend : Ended ((T.setVm vm').setFrames (.throwing q :: below)) below (.threw q) := State.frames_setFrames _ (State.cur_lt_of_frames hfr)
  refine ⟨(T.setVm vm').setFrames (.throwing q :: below), ?_, .threw q, X'.here.running, hend, Or.inr ⟨q, rfl, E, ce, locs, hx _ hT (X'.ends _).1.alike, hcell9, hv, hcl, (X'.ends _).1, (X'.ends _).2.mono hc hs, hf⟩⟩
  rw [X.pushThrowing_eq]
  exact st
/-- a thing of a world lies in the heap -/
theorem vx_lt {D : va_G} {cl : List vw_C} {ws : va_W} {H1 : Heap} (h : va_P D cl ws H1) {k : Nat} {q : Nat × va_E} (hk : ws[k]? = some q) : q.1 < H1.size := (h k q hk).lt
end VXS
/-! ===== END ===== -/
/-! ===== BEGIN methods with a table of their own: called by a name, returning or throwing ===== -/
section VXH
/-! vx_backW, vx_callVX, vx_callSX, vx_callVW, vx_runVW, vx_runVX, vx_runSX, vx_ofWH follow the same proofs as their sisters above (Free/Laws.lean, Shelf42/LK1.lean); vx_outP calls Shelf42/NT130.lean (outThrough). -/
section
variable {l : Launch} {R : Room} {p : Program} {e : Env} {below : List Frame} {s : State} {sargs : Array Value} {y : MethodName} {len W9 : Nat}
theorem vx_backW {ws : List Cond} {rm : Room} {Pc : Array Value → State → Prop} {Qc : Array Value → State → Outcome → State → Prop} {XC : String → State → State → Prop} {mc ms : Nat} {free : Addr → Prop} {bytes : ByteArray} {maxL : Nat} {ret : Option FieldType} {hh : List (Nat × Nat × Nat × Nat)}
    (hM : vx_Met l y ws rm Pc Qc XC mc ms free) (hblind : FrameBlind Pc) (hrc : rm.cells = mc) (hrs : rm.slots = ms)
    (hframes : rm.frames + 1 ≤ R.frames) (hlocals : W9 + (maxL + 11) + rm.locals ≤ R.locals)
    (hws : ∀ w ∈ ws, ∀ a' U, s.WarmedH U.vm → w.before a' U = true) (hcode : Cond.codeWith y bytes maxL ret hh ∈ ws) (hinit : ∀ a' U, s.WarmedH U.vm → (Cond.initialized y.cls).before a' U = true) :
    vx_Back l R p e below s sargs y len W9 (PreOf R mc ms Pc) (PostOf Qc mc ms free) (vx_Post XC mc ms free) := by
  intro m meth c A g ig mk a X hg hsize hdg hW hn hp
  have h1 : (headSpec ws rm).pre.before a A.U = true := atoms_intro fun w hw => hws w hw _ _ X.warmed
  have h2 : (Cond.codeWith y bytes maxL ret hh).before a A.U = true := hws _ hcode _ _ X.warmed
  have h3 : (Cond.initialized y.cls).before a A.U = true := hinit _ _ X.warmed
  have h4 : A.cells + (headSpec ws rm).room.cells ≤ R.cells := by rw [show (headSpec ws rm).room.cells = mc from hrc]; exact hp.1
  have h5 : A.slots + (headSpec ws rm).room.slots ≤ R.slots := by rw [show (headSpec ws rm).room.slots = ms from hrs]; exact hp.2.1
  have hPc : Pc a (A.U.calling g mk a) := hblind _ _ _ _ hp.2.2
  obtain ⟨U, Ls, c0, s0⟩ := A
  dsimp only [Pt.U, Pt.locs, Pt.cells, Pt.slots] at h1 h2 h3 h4 h5 X hn hPc ⊢
  obtain ⟨m9, methY, cY, hn9, hmY, hcY, -, hlY, -⟩ := Cond.codeWith_spec h2
  cases Option.some.inj (hn9.symm.trans hn)
  obtain ⟨kY, hkY, -⟩ := className_of_methodNamed hn
  have hinitY : kY.init = .initialized := Cond.initialized_spec (findClass_of_methodNamed hn) hkY h3
  have h : At U g.method c below := by rw [hg]; exact X.here
  have hlocals9 : W9 + (maxL + 11) + (headSpec ws rm).room.locals ≤ R.locals := hlocals
  have happ : (headSpec ws rm).appliesLoose y e.platform (U.calling g mk a) = true :=
    Spec.appliesLoose_calling (g := g) h hdg hn hkY hinitY
      (X.room_calling (g := g) (R' := (headSpec ws rm).room) hsize hmY hcY hframes (by rw [hlY]; omega) h4 h5) h1
  obtain ⟨mid, hmid⟩ := h.above
  have hfr : (U.setTop g).frames = (.java g :: mid) ++ below := by rw [State.frames_setTop' g h.top, hmid]; rfl
  obtain ⟨o, s₂, hsteps, -, hend, hq⟩ := Steps.callFree hM p X.admits X.cas X.clock (acts := []) hfr happ hPc trivial
  have hq' : vx_Q Qc XC mc ms free a (U.calling g mk a) o s₂ := hq
  rw [State.frames_setTop' g h.top] at hend
  obtain ⟨g₀, hg0⟩ := Option.isSome_iff_exists.mp h.top
  obtain ⟨r, hr⟩ := State.topJava?_eq_some.mp hg0
  have hr' : (({ U with heap := s₂.heap, slotsUsed := s₂.slotsUsed } : State).setVm s₂.vm).frames = .java g₀ :: r := hr
  rcases hq' with ⟨hqc, L, hfe, hL⟩ | ⟨q, rfl, E, ce, L, hx, hce, hcv, hcl, hW₂, hsm, hL⟩
  · obtain ⟨⟨v, rfl⟩, hW₂, e2, q2, q3, q4, q5, q6⟩ := id hfe
    have e3 : s₂ = ({ (U.calling g mk a).setFrames s₂.frames with heap := s₂.heap, slotsUsed := s₂.slotsUsed } : State).setVm s₂.vm := by
      have : s₂ = ({ s₂ with vm := (U.calling g mk a).vm } : State).setVm s₂.vm := rfl
      rw [e2] at this
      exact this
    obtain ⟨c₂, i₂, len₂, hc₂, hd₂, hf₂⟩ := hend
    have hW' : U.WarmedH s₂.vm := hW₂
    have hcc : c₂ = c := by
      have h1 : s₂.code? g.method = U.code? g.method := by
        rw [State.code?_eq, State.code?_eq, hW'.alike.method?]
      exact Option.some.inj (hc₂.symm.trans (h1.trans h.code))
    subst hcc
    have hlen : len₂ = len := by rw [hdg] at hd₂; cases hd₂; rfl
    subst hlen
    have hs₂ : s₂ = (({ U with heap := s₂.heap, slotsUsed := s₂.slotsUsed } : State).setVm s₂.vm).setTop { g with pc := g.pc + len₂, stack := v.toList ++ g.stack } := by
      refine e3.trans ?_
      rw [hf₂, State.calling_eq h.top, State.setFrames_setFrames, State.setTop_of_frames _ hr', hr]
      rfl
    have hsame : U.sameButNew ({ U with heap := s₂.heap, slotsUsed := s₂.slotsUsed } : State) L mc ms := by
      refine ⟨?_, q2, q3, q4, q5, q6⟩
      obtain ⟨t, ht, -⟩ := State.frames_cons hr
      show ({ U with heap := s₂.heap, slotsUsed := s₂.slotsUsed } : State) = { U.setFrames U.frames with heap := s₂.heap, slotsUsed := s₂.slotsUsed }
      rw [State.setFrames_self ht]
    subst hg
    refine Or.inl ⟨v, ⟨(({ U with heap := s₂.heap, slotsUsed := s₂.slotsUsed } : State).setVm s₂.vm), Ls ++ L, c0 + mc, s0 + ms⟩,
      ⟨X.admits, X.cas, X.clock, X.frames, X.room, X.hears, X.method, X.code, (X.here.setHeapUsed s₂.heap s₂.slotsUsed).setVm hW'.alike, X.tail, State.WarmedH.trans X.warmed hW', X.limits, X.bytes, X.same.trans (hsame.setVm s.vm)⟩,
      ⟨g, mk, s₂, L, rfl, rfl, hqc, rfl, hL, rfl, rfl⟩, ?_⟩
    show Steps p.tables e below _ ((({ U with heap := s₂.heap, slotsUsed := s₂.slotsUsed } : State).setVm s₂.vm).setTop { g with pc := g.pc + len₂, stack := v.toList ++ g.stack })
    rw [← hs₂]
    exact hsteps
  · obtain ⟨e2, q2, q3, q4, q5, q6⟩ := id hsm
    have e3 : s₂ = ({ (U.calling g mk a).setFrames s₂.frames with heap := s₂.heap, slotsUsed := s₂.slotsUsed } : State).setVm s₂.vm := by
      have : s₂ = ({ s₂ with vm := (U.calling g mk a).vm } : State).setVm s₂.vm := rfl
      rw [e2] at this
      exact this
    have hf₂ : s₂.frames = .throwing q :: .java g :: U.frames.tail := hend
    have hW' : U.WarmedH s₂.vm := hW₂
    have hs₂ : s₂ = ((({ U with heap := s₂.heap, slotsUsed := s₂.slotsUsed } : State).setVm s₂.vm).setTop g).pushFrame (.throwing q) := by
      refine e3.trans ?_
      rw [hf₂, State.calling_eq h.top, State.setFrames_setFrames, State.pushFrame, State.frames_setTop _ hr', State.setTop_of_frames _ hr', State.setFrames_setFrames, hr]
      rfl
    have hsame : U.sameButNew ({ U with heap := s₂.heap, slotsUsed := s₂.slotsUsed } : State) L mc ms := by
      refine ⟨?_, q2, q3, q4, q5, q6⟩
      obtain ⟨t, ht, -⟩ := State.frames_cons hr
      show ({ U with heap := s₂.heap, slotsUsed := s₂.slotsUsed } : State) = { U.setFrames U.frames with heap := s₂.heap, slotsUsed := s₂.slotsUsed }
      rw [State.setFrames_self ht]
    subst hg
    refine Or.inr ⟨q, ⟨(({ U with heap := s₂.heap, slotsUsed := s₂.slotsUsed } : State).setVm s₂.vm), Ls ++ L, c0 + mc, s0 + ms⟩,
      ⟨X.admits, X.cas, X.clock, X.frames, X.room, X.hears, X.method, X.code, (X.here.setHeapUsed s₂.heap s₂.slotsUsed).setVm hW'.alike, X.tail, State.WarmedH.trans X.warmed hW', X.limits, X.bytes, X.same.trans (hsame.setVm s.vm)⟩,
      ⟨g, mk, s₂, L, E, ce, rfl, rfl, hx, hce, hcv, hcl, rfl, hL, rfl, rfl⟩, ?_⟩
    show Steps p.tables e below _ (((({ U with heap := s₂.heap, slotsUsed := s₂.slotsUsed } : State).setVm s₂.vm).setTop g).pushFrame (.throwing q))
    rw [← hs₂]
    exact hsteps
end
variable {p : Program} {l : Launch} {e : Env} {R : Room} {s : State} {m : MethodId} {args : Array Value} {below : List Frame} {meth : Method} {c : Code} {T : State} {H : Heap} {locs : List Loc} {cells slots : Nat}
theorem vx_callVX (X : Stand p l e R s m args below meth c T locs cells slots) (hexec : p.tables.exec = Jvm.exec) {own C : String} {index : Nat} {y : MethodName} {bytes : ByteArray} {maxL : Nat} {ret : Option FieldType} {hh : List (Nat × Nat × Nat × Nat)}
    (hown : s.vm.findClass own = some m.cls) (hlink : (Cond.methodLink own index y).before args s = true) (hinst : (Cond.instanceMethod y).before args s = true) (hsel : (Cond.selects C y y).before args s = true)
    (hcode : (Cond.codeWith y bytes maxL ret hh).before args s = true) (hy : y.cls ≠ "java/lang/invoke/MethodHandle" ∧ y.cls ≠ "java/lang/invoke/VarHandle")
    {W9 : Nat} {Pre : Pt → Array Value → Prop} {Post : Pt → Array Value → Option Value → Pt → Prop} {PostX : Pt → Array Value → Addr → Pt → Prop} (hK : vx_Back l R p e below s args y 3 W9 Pre Post PostX)
    {b : Addr} {cellB : Cell} (hcell : T.heap[b]? = some cellB) (hobj : cellB.vm.isStatics = false) (hcls : s.vm.findClass C = some cellB.cls)
    {g : JFrame} (hg : g.method = m) (hsize : g.locals.size = c.maxLocals) {argsL rest : List Value} (hlen : ∀ sig, parseMethodDescriptor y.desc = some sig → argsL.length = sig.parameters.length)
    (hstack : g.stack = argsL.reverse ++ .ref b :: rest) (hW : 2 * g.monitorRoom + (rest.map fun v => v.category).sum ≤ W9) (hdg : decode c.code g.pc = .ok (.invokevirtual index, 3))
    (hpre : ∀ vm₁, s.WarmedH vm₁ → Pre ⟨T.setVm vm₁, locs, cells, slots⟩ (Value.ref b :: argsL).toArray) :
    (∃ (v : Option Value) (vm₁ : Vm) (B : Pt), s.WarmedH vm₁ ∧ Stand p l e R s m args below meth c B.U B.locs B.cells B.slots ∧ Post ⟨T.setVm vm₁, locs, cells, slots⟩ (Value.ref b :: argsL).toArray v B ∧
      ∀ target, Steps p.tables e below (B.U.setTop { g with pc := g.pc + 3, stack := v.toList ++ rest }) target → Steps p.tables e below (T.setTop g) target) ∨
    (∃ (q : Addr) (vm₁ : Vm) (B : Pt), s.WarmedH vm₁ ∧ Stand p l e R s m args below meth c B.U B.locs B.cells B.slots ∧ PostX ⟨T.setVm vm₁, locs, cells, slots⟩ (Value.ref b :: argsL).toArray q B ∧
      Steps p.tables e below (T.setTop g) ((B.U.setTop { g with stack := rest }).pushFrame (.throwing q))) := by
  obtain ⟨mk, methM, hnamed, hmethM, hstM, habM⟩ := Cond.instanceMethod_spec hinst
  obtain ⟨m8, methM', cM, hn8, hmethM', -, -, -, -, -, -, hsigM⟩ := Cond.codeWith_spec hcode
  cases Option.some.inj (hn8.symm.trans hnamed)
  cases hmethM.symm.trans hmethM'
  obtain ⟨c2, r2, m2, q1, q2, q3, q4, kP, hkP, hkPi⟩ := Cond.selects_spec hsel
  cases hcls.symm.trans q1
  cases (State.methodFound?_of_named hnamed hy).symm.trans q2
  cases hnamed.symm.trans q3
  have hselP : selectMethod e.platform s.vm cellB.cls mk = .method mk := by rw [Launch.admits_selectMethod X.admits]; exact q4
  obtain ⟨vm₁, X₁, hstep₁⟩ := X.invokevirtual hexec hown hlink hnamed hmethM hstM hkP hkPi hy (a := b) (cell := cellB) hcell
    (fun z h => by rw [h] at hobj; cases hobj) hselP hmethM habM hkP hkPi (g := g) hg (argsL := argsL) (rest := rest) (hlen _ hsigM) hstack hdg
  rcases hK m meth c ⟨T.setVm vm₁, locs, cells, slots⟩ { g with stack := rest } (.invokevirtual index) mk (Value.ref b :: argsL).toArray X₁ hg hsize hdg hW (X₁.named hnamed) (hpre vm₁ X₁.warmed) with ⟨v, B, X', hpost, hsteps⟩ | ⟨q, B, X', hpost, hsteps⟩
  · exact Or.inl ⟨v, vm₁, B, X₁.warmed, X', hpost, fun target h => hstep₁ _ fun acts => by rw [doInvoke_state]; exact hsteps.trans h⟩
  · exact Or.inr ⟨q, vm₁, B, X₁.warmed, X', hpost, hstep₁ _ fun acts => by rw [doInvoke_state]; exact hsteps⟩
theorem vx_callSX (X : Stand p l e R s m args below meth c T locs cells slots) (hexec : p.tables.exec = Jvm.exec) {own : String} {index : Nat} {y : MethodName} {bytes : ByteArray} {maxL : Nat} {ret : Option FieldType} {hh : List (Nat × Nat × Nat × Nat)}
    (hown : s.vm.findClass own = some m.cls) (hlink : (Cond.methodLink own index y).before args s = true) (hstat : (Cond.static y).before args s = true) (hinit : (Cond.initialized y.cls).before args s = true)
    (hcode : (Cond.codeWith y bytes maxL ret hh).before args s = true) (hy : y.cls ≠ "java/lang/invoke/MethodHandle" ∧ y.cls ≠ "java/lang/invoke/VarHandle")
    {W9 : Nat} {Pre : Pt → Array Value → Prop} {Post : Pt → Array Value → Option Value → Pt → Prop} {PostX : Pt → Array Value → Addr → Pt → Prop} (hK : vx_Back l R p e below s args y 3 W9 Pre Post PostX)
    {g : JFrame} (hg : g.method = m) (hsize : g.locals.size = c.maxLocals) {argsL rest : List Value} (hlen : ∀ sig, parseMethodDescriptor y.desc = some sig → argsL.length = sig.parameters.length)
    (hstack : g.stack = argsL.reverse ++ rest) (hW : 2 * g.monitorRoom + (rest.map fun v => v.category).sum ≤ W9) (hdg : decode c.code g.pc = .ok (.invokestatic index, 3))
    (hpre : ∀ vm₁, s.WarmedH vm₁ → Pre ⟨T.setVm vm₁, locs, cells, slots⟩ argsL.toArray) :
    (∃ (v : Option Value) (vm₁ : Vm) (B : Pt), s.WarmedH vm₁ ∧ Stand p l e R s m args below meth c B.U B.locs B.cells B.slots ∧ Post ⟨T.setVm vm₁, locs, cells, slots⟩ argsL.toArray v B ∧
      ∀ target, Steps p.tables e below (B.U.setTop { g with pc := g.pc + 3, stack := v.toList ++ rest }) target → Steps p.tables e below (T.setTop g) target) ∨
    (∃ (q : Addr) (vm₁ : Vm) (B : Pt), s.WarmedH vm₁ ∧ Stand p l e R s m args below meth c B.U B.locs B.cells B.slots ∧ PostX ⟨T.setVm vm₁, locs, cells, slots⟩ argsL.toArray q B ∧
      Steps p.tables e below (T.setTop g) ((B.U.setTop { g with stack := rest }).pushFrame (.throwing q))) := by
  obtain ⟨mk, methM, cM, hnamed, hmethM, -, -, -, -, -, -, hsigM⟩ := Cond.codeWith_spec hcode
  have hstatic : methM.isStatic = true := Cond.static_spec hnamed hmethM hstat
  obtain ⟨kP, hkP, -⟩ := className_of_methodNamed hnamed
  have hinitP : kP.init = .initialized := Cond.initialized_spec (findClass_of_methodNamed hnamed) hkP hinit
  obtain ⟨vm₁, X₁, hstep₁⟩ := X.invokestatic hexec hown hlink hnamed hmethM hstatic hkP hinitP hy (g := g) hg (argsL := argsL) (rest := rest) (hlen _ hsigM) hstack hdg
  rcases hK m meth c ⟨T.setVm vm₁, locs, cells, slots⟩ { g with stack := rest } (.invokestatic index) mk argsL.toArray X₁ hg hsize hdg hW (X₁.named hnamed) (hpre vm₁ X₁.warmed) with ⟨v, B, X', hpost, hsteps⟩ | ⟨q, B, X', hpost, hsteps⟩
  · exact Or.inl ⟨v, vm₁, B, X₁.warmed, X', hpost, fun target h => hstep₁ _ fun acts => by rw [doInvoke_state]; exact hsteps.trans h⟩
  · exact Or.inr ⟨q, vm₁, B, X₁.warmed, X', hpost, hstep₁ _ fun acts => by rw [doInvoke_state]; exact hsteps⟩
theorem vx_callVW (X : Stand p l e R s m args below meth c T locs cells slots) (hexec : p.tables.exec = Jvm.exec) {own C : String} {index : Nat} {y : MethodName} {bytes : ByteArray} {maxL : Nat} {ret : Option FieldType} {hh : List (Nat × Nat × Nat × Nat)}
    (hown : s.vm.findClass own = some m.cls) (hlink : (Cond.methodLink own index y).before args s = true) (hinst : (Cond.instanceMethod y).before args s = true) (hsel : (Cond.selects C y y).before args s = true)
    (hcode : (Cond.codeWith y bytes maxL ret hh).before args s = true) (hy : y.cls ≠ "java/lang/invoke/MethodHandle" ∧ y.cls ≠ "java/lang/invoke/VarHandle")
    {W9 : Nat} {Pre : Pt → Array Value → Prop} {Post : Pt → Array Value → Option Value → Pt → Prop} (hK : Back l R p e below s args y 3 W9 Pre Post)
    {b : Addr} {cellB : Cell} (hcell : T.heap[b]? = some cellB) (hobj : cellB.vm.isStatics = false) (hcls : s.vm.findClass C = some cellB.cls)
    {g : JFrame} (hg : g.method = m) (hsize : g.locals.size = c.maxLocals) {argsL rest : List Value} (hlen : ∀ sig, parseMethodDescriptor y.desc = some sig → argsL.length = sig.parameters.length)
    (hstack : g.stack = argsL.reverse ++ .ref b :: rest) (hW : 2 * g.monitorRoom + (rest.map fun v => v.category).sum ≤ W9) (hdg : decode c.code g.pc = .ok (.invokevirtual index, 3))
    (hpre : ∀ vm₁, s.WarmedH vm₁ → Pre ⟨T.setVm vm₁, locs, cells, slots⟩ (Value.ref b :: argsL).toArray) :
    ∃ (v : Option Value) (vm₁ : Vm) (B : Pt), s.WarmedH vm₁ ∧ Stand p l e R s m args below meth c B.U B.locs B.cells B.slots ∧ Post ⟨T.setVm vm₁, locs, cells, slots⟩ (Value.ref b :: argsL).toArray v B ∧
      ∀ target, Steps p.tables e below (B.U.setTop { g with pc := g.pc + 3, stack := v.toList ++ rest }) target → Steps p.tables e below (T.setTop g) target := by
  obtain ⟨mk, methM, hnamed, hmethM, hstM, habM⟩ := Cond.instanceMethod_spec hinst
  obtain ⟨m8, methM', cM, hn8, hmethM', -, -, -, -, -, -, hsigM⟩ := Cond.codeWith_spec hcode
  cases Option.some.inj (hn8.symm.trans hnamed)
  cases hmethM.symm.trans hmethM'
  obtain ⟨c2, r2, m2, q1, q2, q3, q4, kP, hkP, hkPi⟩ := Cond.selects_spec hsel
  cases hcls.symm.trans q1
  cases (State.methodFound?_of_named hnamed hy).symm.trans q2
  cases hnamed.symm.trans q3
  have hselP : selectMethod e.platform s.vm cellB.cls mk = .method mk := by rw [Launch.admits_selectMethod X.admits]; exact q4
  obtain ⟨vm₁, X₁, hstep₁⟩ := X.invokevirtual hexec hown hlink hnamed hmethM hstM hkP hkPi hy (a := b) (cell := cellB) hcell
    (fun z h => by rw [h] at hobj; cases hobj) hselP hmethM habM hkP hkPi (g := g) hg (argsL := argsL) (rest := rest) (hlen _ hsigM) hstack hdg
  obtain ⟨v, B, X', hpost, hsteps⟩ := hK m meth c ⟨T.setVm vm₁, locs, cells, slots⟩ { g with stack := rest } (.invokevirtual index) mk (Value.ref b :: argsL).toArray X₁ hg hsize hdg hW (X₁.named hnamed) (hpre vm₁ X₁.warmed)
  exact ⟨v, vm₁, B, X₁.warmed, X', hpost, fun target h => hstep₁ _ fun acts => by rw [doInvoke_state]; exact hsteps.trans h⟩
abbrev vx_CVW (R : Room) (s : State) (args : Array Value) (own C : String) (index : Nat) (y : MethodName) (bytes : ByteArray) (maxL : Nat) (ret : Option FieldType) (hh : List (Nat × Nat × Nat × Nat)) (ws : List Cond) (rm : Room) (mc ms n : Nat) : Prop :=
  (rm.cells = mc ∧ rm.slots = ms ∧ rm.frames + 1 ≤ R.frames ∧ 8 + (maxL + 11) + rm.locals ≤ R.locals ∧ (∀ w ∈ ws, ∀ (a' : Array Value) (U : State), s.WarmedH U.vm → w.before a' U = true) ∧ Cond.codeWith y bytes maxL ret hh ∈ ws) ∧
  (Cond.codeWith y bytes maxL ret hh).before args s = true ∧ (Cond.initialized y.cls).before args s = true ∧ (y.cls ≠ "java/lang/invoke/MethodHandle" ∧ y.cls ≠ "java/lang/invoke/VarHandle") ∧
  (∀ sig, parseMethodDescriptor y.desc = some sig → n = sig.parameters.length) ∧ (Cond.methodLink own index y).before args s = true ∧ (Cond.instanceMethod y).before args s = true ∧ (Cond.selects C y y).before args s = true
theorem vx_cwVW {own C : String} {index maxL mc ms : Nat} {y : MethodName} {bytes : ByteArray} {ret : Option FieldType} {hh : List (Nat × Nat × Nat × Nat)} {Ts ws ws' : List Cond} {rm : Room} (n : Nat) (ht : ∀ w ∈ Ts, w.before args s = true) (hT : GoodIn Ts (wsV own index C y ws)) (hw : ws = Cond.codeWith y bytes maxL ret hh :: ws') (hrc : rm.cells = mc) (hrs : rm.slots = ms)
    (hd : y.cls = C ∧ y.cls ≠ "java/lang/invoke/MethodHandle" ∧ y.cls ≠ "java/lang/invoke/VarHandle" ∧ (parseMethodDescriptor y.desc).map (fun d => d.parameters.length) = some n) (hR : rm.frames + 1 ≤ R.frames ∧ 8 + (maxL + 11) + rm.locals ≤ R.locals) :
    vx_CVW R s args own C index y bytes maxL ret hh ws rm mc ms n := by
  obtain ⟨hC, hd⟩ := hd
  subst hC
  have ok : ∀ w ∈ wsV own index y.cls y ws, w.before args s = true := fun w h => ht w (hT w h).1
  have hG : GoodIn Ts ws := fun w h => hT w (by unfold wsV; exact List.mem_append_right _ h)
  have hc : Cond.codeWith y bytes maxL ret hh ∈ ws := by rw [hw]; exact List.mem_cons_self
  refine ⟨⟨hrc, hrs, hR.1, hR.2, pay_in ht hG, hc⟩, ht _ (hG _ hc).1, ok _ (by simp [wsV]), ⟨hd.1, hd.2.1⟩, fun sig h => ?_, ok _ (by simp [wsV]), ok _ (by simp [wsV]), ok _ (by simp [wsV])⟩
  have h2 := hd.2.2
  rw [h] at h2
  exact (Option.some.inj h2).symm
theorem vx_runVW {y : MethodName} {bytes cc : ByteArray} {maxL nL mc ms n index : Nat} {ret : Option FieldType} {hh : List (Nat × Nat × Nat × Nat)} {ws : List Cond} {rm : Room} {Pc : Array Value → State → Prop} {Qc : Array Value → State → Outcome → State → Prop} {free : Addr → Prop} {Ts : List Cond} {own C : String} {b : Addr} {As rest : List Value} {g : JFrame}
    (S : CallFix p m c cc nL s args Ts own) (hM : Met l y ws rm Pc Qc mc ms free) (cw : vx_CVW R s args own C index y bytes maxL ret hh ws rm mc ms n) (hp : PreV s H C b Pc As)
    (hg : g.method = m) (hn : As.length = n) (hsize : g.locals.size = nL) (hstack : g.stack = As.reverse ++ .ref b :: rest) (hW : 2 * g.monitorRoom + (rest.map fun v => v.category).sum ≤ 8) (hdg : decode cc g.pc = .ok (.invokevirtual index, 3)) (hf : cells + mc ≤ R.cells ∧ slots + ms ≤ R.slots) :
    va_Run p l e R s m args below meth c H locs cells slots mc ms g rest (Qc (Value.ref b :: As).toArray) free := by
  obtain ⟨⟨hrc, hrs, hfr, hlo, hws, hcw⟩, hcode, hini, hy, hlen, hl, hin, hse⟩ := cw
  have hK : Back l R p e below s args y 3 8 (PreOf R mc ms Pc) (PostOf Qc mc ms free) := va_backW (hh := hh) (bytes := bytes) (maxL := maxL) (ret := ret) hM hp.1 hrc hrs hfr hlo hws hcw (fun a' U hW => word_at hW (Or.inl (by first | rfl | simp [Cond.onTables, Cond.keeps, Cond.steady])) hini)
  obtain ⟨hx, hb, hml, ho, -⟩ := S
  obtain ⟨-, ⟨cellB, hcB, hoB, hclB⟩, hPc⟩ := hp
  intro T hT X
  obtain ⟨v, vm₁, ⟨U', l2, c2, s2⟩, hW₁, X', ⟨g', mk, t, L, e1, e2, hq, h1, hL, h2, h3⟩, st⟩ := vx_callVW X hx (C := C) (hh := hh) (bytes := bytes) (maxL := maxL) (ret := ret) ho hl hin hse hcode hy hK (by rw [hT]; exact hcB) hoB hclB hg (hsize.trans hml.symm) (argsL := As) (rest := rest) (fun sig h => hn.trans (hlen sig h)) hstack hW (by rw [hb]; exact hdg)
    (fun vm₁ hW₁ => ⟨hf.1, hf.2, hPc (T.setVm vm₁) hT hW₁⟩)
  dsimp only [Pt.U, Pt.locs, Pt.cells, Pt.slots] at X' e1 e2 h1 h2 h3 st
  subst h1; subst h2; subst h3
  exact ⟨v, (T.setVm vm₁).calling g' mk (Value.ref b :: As).toArray, t, U', L, hT, X', hL, e1, e2, hq, st⟩
section
variable {y : MethodName} {bytes cc : ByteArray} {maxL nL mc ms n index : Nat} {ret : Option FieldType} {ws : List Cond} {rm : Room} {Pc : Array Value → State → Prop} {Qc : Array Value → State → Outcome → State → Prop} {XC : String → State → State → Prop} {free : Addr → Prop} {Ts : List Cond} {own C : String} {b : Addr} {As rest : List Value} {g : JFrame}
theorem vx_runVX {hh : List (Nat × Nat × Nat × Nat)} (S : CallFix p m c cc nL s args Ts own) (hM : vx_Met l y ws rm Pc Qc XC mc ms free) (cw : vx_CVW R s args own C index y bytes maxL ret hh ws rm mc ms n) (hp : PreV s H C b Pc As)
    (hg : g.method = m) (hn : As.length = n) (hsize : g.locals.size = nL) (hstack : g.stack = As.reverse ++ .ref b :: rest) (hW : 2 * g.monitorRoom + (rest.map fun v => v.category).sum ≤ 8) (hdg : decode cc g.pc = .ok (.invokevirtual index, 3)) (hf : cells + mc ≤ R.cells ∧ slots + ms ≤ R.slots) :
    vx_Run p l e R s m args below meth c H locs cells slots mc ms g rest (Qc (Value.ref b :: As).toArray) XC free := by
  obtain ⟨⟨hrc, hrs, hfr, hlo, hws, hcw⟩, hcode, hini, hy, hlen, hl, hin, hse⟩ := cw
  have hK : vx_Back l R p e below s args y 3 8 (PreOf R mc ms Pc) (PostOf Qc mc ms free) (vx_Post XC mc ms free) := vx_backW (hh := hh) (bytes := bytes) (maxL := maxL) (ret := ret) hM hp.1 hrc hrs hfr hlo hws hcw (fun a' U hW => word_at hW (Or.inl (by first | rfl | simp [Cond.onTables, Cond.keeps, Cond.steady])) hini)
  obtain ⟨hx, hb, hml, ho, -⟩ := S
  obtain ⟨-, ⟨cellB, hcB, hoB, hclB⟩, hPc⟩ := hp
  intro T hT X
  rcases vx_callVX X hx (C := C) (hh := hh) (bytes := bytes) (maxL := maxL) (ret := ret) ho hl hin hse hcode hy hK (by rw [hT]; exact hcB) hoB hclB hg (hsize.trans hml.symm) (argsL := As) (rest := rest) (fun sig h => hn.trans (hlen sig h)) hstack hW (by rw [hb]; exact hdg)
    (fun vm₁ hW₁ => ⟨hf.1, hf.2, hPc (T.setVm vm₁) hT hW₁⟩) with ⟨v, vm₁, ⟨U', l2, c2, s2⟩, hW₁, X', ⟨g', mk, t, L, e1, e2, hq, h1, hL, h2, h3⟩, st⟩ | ⟨q, vm₁, ⟨U', l2, c2, s2⟩, hW₁, X', ⟨g', mk, t, L, E, ce, e1, e2, hq, hce, hcv, hcl, h1, hL, h2, h3⟩, st⟩
  · dsimp only [Pt.U, Pt.locs, Pt.cells, Pt.slots] at X' e1 e2 h1 h2 h3 st
    subst h1; subst h2; subst h3
    exact Or.inl ⟨v, (T.setVm vm₁).calling g' mk (Value.ref b :: As).toArray, t, U', L, hT, X', hL, e1, e2, hq, st⟩
  · dsimp only [Pt.U, Pt.locs, Pt.cells, Pt.slots] at X' e1 e2 h1 h2 h3 st hcl
    subst h1; subst h2; subst h3
    exact Or.inr ⟨q, (T.setVm vm₁).calling g' mk (Value.ref b :: As).toArray, t, U', L, E, ce, hT, X', hL, e1, e2, hq, hce, hcv, vx_cls hW₁ hcl, st⟩
theorem vx_runSX {hh : List (Nat × Nat × Nat × Nat)} (S : CallFix p m c cc nL s args Ts own) (hM : vx_Met l y ws rm Pc Qc XC mc ms free) (cw : vx_CSW R s args own index y bytes maxL ret hh ws rm mc ms n) (hp : PreS s H Pc As)
    (hg : g.method = m) (hn : As.length = n) (hsize : g.locals.size = nL) (hstack : g.stack = As.reverse ++ rest) (hW : 2 * g.monitorRoom + (rest.map fun v => v.category).sum ≤ 8) (hdg : decode cc g.pc = .ok (.invokestatic index, 3)) (hf : cells + mc ≤ R.cells ∧ slots + ms ≤ R.slots) :
    vx_Run p l e R s m args below meth c H locs cells slots mc ms g rest (Qc As.toArray) XC free := by
  obtain ⟨⟨hrc, hrs, hfr, hlo, hws, hcw⟩, hcode, hini, hy, hlen, hl, hstt⟩ := cw
  have hK : vx_Back l R p e below s args y 3 8 (PreOf R mc ms Pc) (PostOf Qc mc ms free) (vx_Post XC mc ms free) := vx_backW (hh := hh) (bytes := bytes) (maxL := maxL) (ret := ret) hM hp.1 hrc hrs hfr hlo hws hcw (fun a' U hW => word_at hW (Or.inl (by first | rfl | simp [Cond.onTables, Cond.keeps, Cond.steady])) hini)
  obtain ⟨hx, hb, hml, ho, -⟩ := S
  intro T hT X
  rcases vx_callSX X hx (hh := hh) (bytes := bytes) (maxL := maxL) (ret := ret) ho hl hstt hini hcode hy hK hg (hsize.trans hml.symm) (argsL := As) (rest := rest) (fun sig h => hn.trans (hlen sig h)) hstack hW (by rw [hb]; exact hdg)
    (fun vm₁ hW₁ => ⟨hf.1, hf.2, hp.2 (T.setVm vm₁) hT hW₁⟩) with ⟨v, vm₁, ⟨U', l2, c2, s2⟩, hW₁, X', ⟨g', mk, t, L, e1, e2, hq, h1, hL, h2, h3⟩, st⟩ | ⟨q, vm₁, ⟨U', l2, c2, s2⟩, hW₁, X', ⟨g', mk, t, L, E, ce, e1, e2, hq, hce, hcv, hcl, h1, hL, h2, h3⟩, st⟩
  · dsimp only [Pt.U, Pt.locs, Pt.cells, Pt.slots] at X' e1 e2 h1 h2 h3 st
    subst h1; subst h2; subst h3
    exact Or.inl ⟨v, (T.setVm vm₁).calling g' mk As.toArray, t, U', L, hT, X', hL, e1, e2, hq, st⟩
  · dsimp only [Pt.U, Pt.locs, Pt.cells, Pt.slots] at X' e1 e2 h1 h2 h3 st hcl
    subst h1; subst h2; subst h3
    exact Or.inr ⟨q, (T.setVm vm₁).calling g' mk As.toArray, t, U', L, E, ce, hT, X', hL, e1, e2, hq, hce, hcv, vx_cls hW₁ hcl, st⟩
end
end VXH
theorem vx_ofWH {l : Launch} {y : MethodName} {ws ws' : List Cond} {rm : Room} {Pc : Array Value → State → Prop} {Qc : Array Value → State → Outcome → State → Prop} {XC : String → State → State → Prop} {mc ms : Nat} {free : Addr → Prop} {cc : ByteArray} {maxL : Nat} {ret : Option FieldType} {hh : List (Nat × Nat × Nat × Nat)}
    (hy : plainName y.cls = true) (hw : ws = Cond.codeWith y cc maxL ret hh :: ws')
    (body : ∀ p e s m args below meth c s₁, BodyLoose p l y (headSpec ws rm) cc maxL ret e s m args below meth c s₁ → c.maxLocals = maxL → Pc args s →
      W p l e (headSpec ws rm).room s m args below meth c s.heap [] 0 0 (vx_MQ below Qc XC args s mc ms free) (entryFrame m args maxL)) : vx_Met l y ws rm Pc Qc XC mc ms free := by
  refine MetFree.of_bodyS (code := cc) (maxLocals := maxL) (ret := ret) hy ?_ ?_
  · intro args s m h hn
    obtain ⟨m9, meth, c, hn9, h1, h2, h3, h4, -, h5, h6, -⟩ := Cond.codeWith_spec (atoms_spec (ws := ws) h _ (by rw [hw]; exact List.mem_cons_self))
    cases hn.symm.trans hn9
    exact ⟨meth, c, h1, h2, h3, h4, h5, h6⟩
  · intro p e s m args below meth c s₁ B hml hP _
    have hh0 : s₁.heap = s.heap := by rw [B.state]; rfl
    obtain ⟨t, a1, o, b1, b2, b3⟩ := body p e s m args below meth c s₁ B hml hP s₁ hh0 (Stand.of_body B)
    exact ⟨t, o, a1, b1, b2, b3⟩
/-! ===== END ===== -/
end
section
def RX0 : String := "ChequeSerials$Books"
def TX0 : u_T := fun k => match k with
  | 0 => ("ChequeSerials$Books", "firsts", "[I", true)
  | 1 => ("ChequeSerials$Books", "sizes", "[I", true)
  | 2 => ("ChequeSerials$Books", "kinds", "[I", true)
  | 3 => ("ChequeSerials$Books", "amounts", "[I", true)
  | _ => ("ChequeSerials$Books", "held", "I", false)
def tyX0 : Nat → FieldType := fun k => match k with
  | 0 => .array .int
  | 1 => .array .int
  | 2 => .array .int
  | 3 => .array .int
  | _ => .int
abbrev wsX00 : List Cond := u_ws RX0 TX0 5
theorem nmX0 : ∀ a, a < 5 → ∀ b, b < 5 → a ≠ b → (TX0 a).2.1 ≠ (TX0 b).2.1 := by decide +kernel
theorem tyX0_ok : ∀ k, k < 5 → parseFieldDescriptor (TX0 k).2.2.1 = some (tyX0 k) := by decide +kernel
abbrev cX0_init : ByteArray := prog_2_method_1_code
def yX0_init : MethodName := ⟨RX0, "<init>", "()V"⟩
abbrev cX0_copyFrom : ByteArray := prog_2_method_2_code
def yX0_copyFrom : MethodName := ⟨RX0, "copyFrom", "(LChequeSerials$Books;)V"⟩
abbrev cX0_firstOf : ByteArray := prog_2_method_3_code
def yX0_firstOf : MethodName := ⟨RX0, "firstOf", "(I)I"⟩
abbrev cX0_sizeOf : ByteArray := prog_2_method_4_code
def yX0_sizeOf : MethodName := ⟨RX0, "sizeOf", "(I)I"⟩
abbrev cX0_canTake : ByteArray := prog_2_method_5_code
def yX0_canTake : MethodName := ⟨RX0, "canTake", "(II)Z"⟩
abbrev cX0_add : ByteArray := prog_2_method_6_code
def yX0_add : MethodName := ⟨RX0, "add", "(II)I"⟩
abbrev cX0_cellOf : ByteArray := prog_2_method_7_code
def yX0_cellOf : MethodName := ⟨RX0, "cellOf", "(I)I"⟩
abbrev cX0_kindAt : ByteArray := prog_2_method_8_code
def yX0_kindAt : MethodName := ⟨RX0, "kindAt", "(I)I"⟩
abbrev cX0_amountAt : ByteArray := prog_2_method_9_code
def yX0_amountAt : MethodName := ⟨RX0, "amountAt", "(I)I"⟩
abbrev cX0_setCell : ByteArray := prog_2_method_10_code
def yX0_setCell : MethodName := ⟨RX0, "setCell", "(III)V"⟩
abbrev cX0_makeWritten : ByteArray := prog_2_method_11_code
def yX0_makeWritten : MethodName := ⟨RX0, "makeWritten", "(II)V"⟩
abbrev cX0_makeCashed : ByteArray := prog_2_method_12_code
def yX0_makeCashed : MethodName := ⟨RX0, "makeCashed", "(I)V"⟩
abbrev cX0_makeRunVoid : ByteArray := prog_2_method_13_code
def yX0_makeRunVoid : MethodName := ⟨RX0, "makeRunVoid", "(II)I"⟩
abbrev cX0_makeVoid : ByteArray := prog_2_method_14_code
def yX0_makeVoid : MethodName := ⟨RX0, "makeVoid", "(I)I"⟩
abbrev cX0_sameKindFrom : ByteArray := prog_2_method_15_code
def yX0_sameKindFrom : MethodName := ⟨RX0, "sameKindFrom", "(I)I"⟩
abbrev cX0_numberOf : ByteArray := prog_2_method_16_code
def yX0_numberOf : MethodName := ⟨RX0, "numberOf", "(II)I"⟩
abbrev cX0_numberOfAll : ByteArray := prog_2_method_17_code
def yX0_numberOfAll : MethodName := ⟨RX0, "numberOfAll", "(I)I"⟩
abbrev cX0_chequesOf : ByteArray := prog_2_method_18_code
def yX0_chequesOf : MethodName := ⟨RX0, "chequesOf", "(II)I"⟩
abbrev cX0_amountsOf : ByteArray := prog_2_method_19_code
def yX0_amountsOf : MethodName := ⟨RX0, "amountsOf", "(II)I"⟩
abbrev cX0_firstBlankOf : ByteArray := prog_2_method_20_code
def yX0_firstBlankOf : MethodName := ⟨RX0, "firstBlankOf", "(I)I"⟩
abbrev cX0_bookOfRank : ByteArray := prog_2_method_21_code
def yX0_bookOfRank : MethodName := ⟨RX0, "bookOfRank", "(I)I"⟩
abbrev cX0_booksBefore : ByteArray := prog_2_method_22_code
def yX0_booksBefore : MethodName := ⟨RX0, "booksBefore", "(I)I"⟩
abbrev cX0_serialOfRank : ByteArray := prog_2_method_23_code
def yX0_serialOfRank : MethodName := ⟨RX0, "serialOfRank", "(I)I"⟩
def RX1 : String := "ChequeSerials$History"
def TX1 : u_T := fun k => match k with
  | 0 => ("ChequeSerials$History", "saved", "[LChequeSerials$State;", true)
  | 1 => ("ChequeSerials$History", "slots", "[LChequeSerials$State;", true)
  | 2 => ("ChequeSerials$History", "filled", "[Z", true)
  | _ => ("ChequeSerials$History", "depth", "I", false)
def tyX1 : Nat → FieldType := fun k => match k with
  | 0 => .array (.object "ChequeSerials$State")
  | 1 => .array (.object "ChequeSerials$State")
  | 2 => .array .boolean
  | _ => .int
abbrev wsX10 : List Cond := u_ws RX1 TX1 4
theorem nmX1 : ∀ a, a < 4 → ∀ b, b < 4 → a ≠ b → (TX1 a).2.1 ≠ (TX1 b).2.1 := by decide +kernel
theorem tyX1_ok : ∀ k, k < 4 → parseFieldDescriptor (TX1 k).2.2.1 = some (tyX1 k) := by decide +kernel
abbrev cX1_init : ByteArray := prog_3_method_1_code
def yX1_init : MethodName := ⟨RX1, "<init>", "()V"⟩
abbrev cX1_save : ByteArray := prog_3_method_2_code
def yX1_save : MethodName := ⟨RX1, "save", "(LChequeSerials$State;)V"⟩
abbrev cX1_dropOldest : ByteArray := prog_3_method_3_code
def yX1_dropOldest : MethodName := ⟨RX1, "dropOldest", "()V"⟩
abbrev cX1_restoreLast : ByteArray := prog_3_method_4_code
def yX1_restoreLast : MethodName := ⟨RX1, "restoreLast", "(LChequeSerials$State;)V"⟩
abbrev cX1_isSlotFilled : ByteArray := prog_3_method_5_code
def yX1_isSlotFilled : MethodName := ⟨RX1, "isSlotFilled", "(I)Z"⟩
abbrev cX1_putIntoSlot : ByteArray := prog_3_method_6_code
def yX1_putIntoSlot : MethodName := ⟨RX1, "putIntoSlot", "(ILChequeSerials$State;)V"⟩
abbrev cX1_restoreSlot : ByteArray := prog_3_method_7_code
def yX1_restoreSlot : MethodName := ⟨RX1, "restoreSlot", "(ILChequeSerials$State;)V"⟩
abbrev cX1_copyState : ByteArray := prog_3_method_8_code
def yX1_copyState : MethodName := ⟨RX1, "copyState", "(LChequeSerials$State;LChequeSerials$State;)V"⟩
def RX2 : String := "ChequeSerials$Letters"
def TX2 : u_T := fun k => match k with
  | 0 => ("ChequeSerials$Letters", "weights", "[I", true)
  | _ => ("ChequeSerials$Letters", "modulus", "I", false)
def tyX2 : Nat → FieldType := fun k => match k with
  | 0 => .array .int
  | _ => .int
abbrev wsX20 : List Cond := u_ws RX2 TX2 2
theorem nmX2 : ∀ a, a < 2 → ∀ b, b < 2 → a ≠ b → (TX2 a).2.1 ≠ (TX2 b).2.1 := by decide +kernel
theorem tyX2_ok : ∀ k, k < 2 → parseFieldDescriptor (TX2 k).2.2.1 = some (tyX2 k) := by decide +kernel
abbrev cX2_init : ByteArray := prog_4_method_1_code
def yX2_init : MethodName := ⟨RX2, "<init>", "()V"⟩
abbrev cX2_copyFrom : ByteArray := prog_4_method_2_code
def yX2_copyFrom : MethodName := ⟨RX2, "copyFrom", "(LChequeSerials$Letters;)V"⟩
abbrev cX2_weightAt : ByteArray := prog_4_method_3_code
def yX2_weightAt : MethodName := ⟨RX2, "weightAt", "(I)I"⟩
abbrev cX2_setWeight : ByteArray := prog_4_method_4_code
def yX2_setWeight : MethodName := ⟨RX2, "setWeight", "(II)V"⟩
abbrev cX2_letterOf : ByteArray := prog_4_method_5_code
def yX2_letterOf : MethodName := ⟨RX2, "letterOf", "(I)I"⟩
abbrev cX2_restOf : ByteArray := prog_4_method_6_code
def yX2_restOf : MethodName := ⟨RX2, "restOf", "(I)I"⟩
abbrev cX2_digitAt : ByteArray := prog_4_method_7_code
def yX2_digitAt : MethodName := ⟨RX2, "digitAt", "(II)I"⟩
abbrev cX2_factorAt : ByteArray := prog_4_method_8_code
def yX2_factorAt : MethodName := ⟨RX2, "factorAt", "(II)I"⟩
abbrev cX2_isHidden : ByteArray := prog_4_method_9_code
def yX2_isHidden : MethodName := ⟨RX2, "isHidden", "(II)Z"⟩
abbrev cX2_hiddenPairsTried : ByteArray := prog_4_method_10_code
def yX2_hiddenPairsTried : MethodName := ⟨RX2, "hiddenPairsTried", "(I)I"⟩
abbrev cX2_hiddenPairs : ByteArray := prog_4_method_11_code
def yX2_hiddenPairs : MethodName := ⟨RX2, "hiddenPairs", "(I)I"⟩
abbrev cX2_hiddenPairsWith : ByteArray := prog_4_method_12_code
def yX2_hiddenPairsWith : MethodName := ⟨RX2, "hiddenPairsWith", "(II)I"⟩
abbrev cX2_hidesNothing : ByteArray := prog_4_method_13_code
def yX2_hidesNothing : MethodName := ⟨RX2, "hidesNothing", "(I)Z"⟩
abbrev cX2_hiddenMisreadings : ByteArray := prog_4_method_14_code
def yX2_hiddenMisreadings : MethodName := ⟨RX2, "hiddenMisreadings", "(I)I"⟩
abbrev cX2_hiddenSwaps : ByteArray := prog_4_method_15_code
def yX2_hiddenSwaps : MethodName := ⟨RX2, "hiddenSwaps", "(I)I"⟩
abbrev cX2_slipKind : ByteArray := prog_4_method_16_code
def yX2_slipKind : MethodName := ⟨RX2, "slipKind", "(III)I"⟩
abbrev cX2_digitSlip : ByteArray := prog_4_method_17_code
def yX2_digitSlip : MethodName := ⟨RX2, "digitSlip", "(II)I"⟩
abbrev cX2_isSwapped : ByteArray := prog_4_method_18_code
def yX2_isSwapped : MethodName := ⟨RX2, "isSwapped", "(III)Z"⟩
def RX3 : String := "ChequeSerials$OrderText"
def TX3 : u_T := fun k => match k with
  | 0 => ("ChequeSerials$OrderText", "signs", "[I", true)
  | _ => ("ChequeSerials$OrderText", "length", "I", false)
def tyX3 : Nat → FieldType := fun k => match k with
  | 0 => .array .int
  | _ => .int
abbrev wsX30 : List Cond := u_ws RX3 TX3 2
theorem nmX3 : ∀ a, a < 2 → ∀ b, b < 2 → a ≠ b → (TX3 a).2.1 ≠ (TX3 b).2.1 := by decide +kernel
theorem tyX3_ok : ∀ k, k < 2 → parseFieldDescriptor (TX3 k).2.2.1 = some (tyX3 k) := by decide +kernel
abbrev cX3_init : ByteArray := prog_5_method_1_code
def yX3_init : MethodName := ⟨RX3, "<init>", "()V"⟩
abbrev cX3_isFull : ByteArray := prog_5_method_2_code
def yX3_isFull : MethodName := ⟨RX3, "isFull", "()Z"⟩
abbrev cX3_add : ByteArray := prog_5_method_3_code
def yX3_add : MethodName := ⟨RX3, "add", "(I)I"⟩
abbrev cX3_clear : ByteArray := prog_5_method_4_code
def yX3_clear : MethodName := ⟨RX3, "clear", "()I"⟩
abbrev cX3_signAt : ByteArray := prog_5_method_5_code
def yX3_signAt : MethodName := ⟨RX3, "signAt", "(I)I"⟩
abbrev cX3_numberIn : ByteArray := prog_5_method_6_code
def yX3_numberIn : MethodName := ⟨RX3, "numberIn", "(II)I"⟩
abbrev cX3_errorIndex : ByteArray := prog_5_method_7_code
def yX3_errorIndex : MethodName := ⟨RX3, "errorIndex", "()I"⟩
abbrev cX3_isComplete : ByteArray := prog_5_method_8_code
def yX3_isComplete : MethodName := ⟨RX3, "isComplete", "()Z"⟩
abbrev cX3_fits : ByteArray := prog_5_method_9_code
def yX3_fits : MethodName := ⟨RX3, "fits", "(II)Z"⟩
abbrev cX3_isWhole : ByteArray := prog_5_method_10_code
def yX3_isWhole : MethodName := ⟨RX3, "isWhole", "(II)Z"⟩
abbrev cX3_isDigit : ByteArray := prog_5_method_11_code
def yX3_isDigit : MethodName := ⟨RX3, "isDigit", "(I)Z"⟩
abbrev cX3_endsHead : ByteArray := prog_5_method_12_code
def yX3_endsHead : MethodName := ⟨RX3, "endsHead", "(II)Z"⟩
abbrev cX3_fitsBehindHead : ByteArray := prog_5_method_13_code
def yX3_fitsBehindHead : MethodName := ⟨RX3, "fitsBehindHead", "(II)Z"⟩
def RX4 : String := "ChequeSerials$State"
def TX4 : u_T := fun k => match k with
  | 0 => ("ChequeSerials$State", "letters", "LChequeSerials$Letters;", true)
  | 1 => ("ChequeSerials$State", "books", "LChequeSerials$Books;", true)
  | _ => ("ChequeSerials$State", "refusals", "I", false)
def tyX4 : Nat → FieldType := fun k => match k with
  | 0 => .object "ChequeSerials$Letters"
  | 1 => .object "ChequeSerials$Books"
  | _ => .int
abbrev wsX40 : List Cond := u_ws RX4 TX4 3
theorem nmX4 : ∀ a, a < 3 → ∀ b, b < 3 → a ≠ b → (TX4 a).2.1 ≠ (TX4 b).2.1 := by decide +kernel
theorem tyX4_ok : ∀ k, k < 3 → parseFieldDescriptor (TX4 k).2.2.1 = some (tyX4 k) := by decide +kernel
abbrev cX4_init : ByteArray := prog_6_method_1_code
def yX4_init : MethodName := ⟨RX4, "<init>", "()V"⟩
abbrev cX4_copyFrom : ByteArray := prog_6_method_2_code
def yX4_copyFrom : MethodName := ⟨RX4, "copyFrom", "(LChequeSerials$State;)V"⟩
abbrev cX4_cashByReading : ByteArray := prog_6_method_3_code
def yX4_cashByReading : MethodName := ⟨RX4, "cashByReading", "(II)I"⟩
abbrev cX4_reasonAgainstCashing : ByteArray := prog_6_method_4_code
def yX4_reasonAgainstCashing : MethodName := ⟨RX4, "reasonAgainstCashing", "(II)I"⟩
abbrev cX4_meantCheques : ByteArray := prog_6_method_5_code
def yX4_meantCheques : MethodName := ⟨RX4, "meantCheques", "(III)I"⟩
def RX5 : String := "ChequeSerials"
def TX5 : u_T := fun k => match k with
  | 0 => ("ChequeSerials", "now", "LChequeSerials$State;", true)
  | 1 => ("ChequeSerials", "history", "LChequeSerials$History;", true)
  | _ => ("ChequeSerials", "orders", "LChequeSerials$OrderText;", true)
def tyX5 : Nat → FieldType := fun k => match k with
  | 0 => .object "ChequeSerials$State"
  | 1 => .object "ChequeSerials$History"
  | _ => .object "ChequeSerials$OrderText"
abbrev wsX50 : List Cond := u_ws RX5 TX5 3
theorem nmX5 : ∀ a, a < 3 → ∀ b, b < 3 → a ≠ b → (TX5 a).2.1 ≠ (TX5 b).2.1 := by decide +kernel
theorem tyX5_ok : ∀ k, k < 3 → parseFieldDescriptor (TX5 k).2.2.1 = some (tyX5 k) := by decide +kernel
abbrev cX5_init : ByteArray := prog_1_method_1_code
def yX5_init : MethodName := ⟨RX5, "<init>", "()V"⟩
abbrev cX5_weight : ByteArray := prog_1_method_2_code
def yX5_weight : MethodName := ⟨RX5, "weight", "(II)I"⟩
abbrev cX5_modulus : ByteArray := prog_1_method_3_code
def yX5_modulus : MethodName := ⟨RX5, "modulus", "(I)I"⟩
abbrev cX5_book : ByteArray := prog_1_method_4_code
def yX5_book : MethodName := ⟨RX5, "book", "(II)I"⟩
abbrev cX5_write : ByteArray := prog_1_method_5_code
def yX5_write : MethodName := ⟨RX5, "write", "(II)I"⟩
abbrev cX5_cash : ByteArray := prog_1_method_6_code
def yX5_cash : MethodName := ⟨RX5, "cash", "(II)I"⟩
abbrev cX5_voidRun : ByteArray := prog_1_method_7_code
def yX5_voidRun : MethodName := ⟨RX5, "voidRun", "(II)I"⟩
abbrev cX5_append : ByteArray := prog_1_method_8_code
def yX5_append : MethodName := ⟨RX5, "append", "(I)I"⟩
abbrev cX5_clearBuffer : ByteArray := prog_1_method_9_code
def yX5_clearBuffer : MethodName := ⟨RX5, "clearBuffer", "()I"⟩
abbrev cX5_firstError : ByteArray := prog_1_method_10_code
def yX5_firstError : MethodName := ⟨RX5, "firstError", "()I"⟩
abbrev cX5_execute : ByteArray := prog_1_method_11_code
def yX5_execute : MethodName := ⟨RX5, "execute", "()I"⟩
abbrev cX5_undo : ByteArray := prog_1_method_12_code
def yX5_undo : MethodName := ⟨RX5, "undo", "()I"⟩
abbrev cX5_keep : ByteArray := prog_1_method_13_code
def yX5_keep : MethodName := ⟨RX5, "keep", "(I)I"⟩
abbrev cX5_goBack : ByteArray := prog_1_method_14_code
def yX5_goBack : MethodName := ⟨RX5, "goBack", "(I)I"⟩
abbrev cX5_letter : ByteArray := prog_1_method_15_code
def yX5_letter : MethodName := ⟨RX5, "letter", "(I)I"⟩
abbrev cX5_cheque : ByteArray := prog_1_method_16_code
def yX5_cheque : MethodName := ⟨RX5, "cheque", "(II)I"⟩
abbrev cX5_bookOf : ByteArray := prog_1_method_17_code
def yX5_bookOf : MethodName := ⟨RX5, "bookOf", "(II)I"⟩
abbrev cX5_count : ByteArray := prog_1_method_18_code
def yX5_count : MethodName := ⟨RX5, "count", "(I)I"⟩
abbrev cX5_ranked : ByteArray := prog_1_method_19_code
def yX5_ranked : MethodName := ⟨RX5, "ranked", "(I)I"⟩
abbrev cX5_missed : ByteArray := prog_1_method_20_code
def yX5_missed : MethodName := ⟨RX5, "missed", "(II)I"⟩
abbrev cX5_weak : ByteArray := prog_1_method_21_code
def yX5_weak : MethodName := ⟨RX5, "weak", "(III)I"⟩
abbrev cX5_finds : ByteArray := prog_1_method_22_code
def yX5_finds : MethodName := ⟨RX5, "finds", "(I)Z"⟩
abbrev cX5_bestWeight : ByteArray := prog_1_method_23_code
def yX5_bestWeight : MethodName := ⟨RX5, "bestWeight", "(I)I"⟩
abbrev cX5_meant : ByteArray := prog_1_method_24_code
def yX5_meant : MethodName := ⟨RX5, "meant", "(III)I"⟩
abbrev cX5_slip : ByteArray := prog_1_method_25_code
def yX5_slip : MethodName := ⟨RX5, "slip", "(III)I"⟩
abbrev cX5_cashed : ByteArray := prog_1_method_26_code
def yX5_cashed : MethodName := ⟨RX5, "cashed", "()D"⟩
abbrev cX5_throwIfNoPosition : ByteArray := prog_1_method_27_code
def yX5_throwIfNoPosition : MethodName := ⟨RX5, "throwIfNoPosition", "(I)V"⟩
abbrev cX5_throwIfNoSerial : ByteArray := prog_1_method_28_code
def yX5_throwIfNoSerial : MethodName := ⟨RX5, "throwIfNoSerial", "(I)V"⟩
abbrev cX5_throwIfNoLetter : ByteArray := prog_1_method_29_code
def yX5_throwIfNoLetter : MethodName := ⟨RX5, "throwIfNoLetter", "(I)V"⟩
abbrev cX5_throwIfNoSlipKind : ByteArray := prog_1_method_30_code
def yX5_throwIfNoSlipKind : MethodName := ⟨RX5, "throwIfNoSlipKind", "(I)V"⟩
abbrev cX5_throwIfNoSlot : ByteArray := prog_1_method_31_code
def yX5_throwIfNoSlot : MethodName := ⟨RX5, "throwIfNoSlot", "(I)V"⟩
abbrev cX5_throwIfFaulty : ByteArray := prog_1_method_32_code
def yX5_throwIfFaulty : MethodName := ⟨RX5, "throwIfFaulty", "(I)V"⟩
abbrev cX5_isSerial : ByteArray := prog_1_method_33_code
def yX5_isSerial : MethodName := ⟨RX5, "isSerial", "(I)Z"⟩
abbrev cX5_positionsOf : ByteArray := prog_1_method_34_code
def yX5_positionsOf : MethodName := ⟨RX5, "positionsOf", "(I)I"⟩
abbrev cX5_faultOfBook : ByteArray := prog_1_method_35_code
def yX5_faultOfBook : MethodName := ⟨RX5, "faultOfBook", "(II)I"⟩
abbrev cX5_faultOfWriting : ByteArray := prog_1_method_36_code
def yX5_faultOfWriting : MethodName := ⟨RX5, "faultOfWriting", "(II)I"⟩
abbrev cX5_faultOfRun : ByteArray := prog_1_method_37_code
def yX5_faultOfRun : MethodName := ⟨RX5, "faultOfRun", "(II)I"⟩
abbrev cX5_runOrders : ByteArray := prog_1_method_38_code
def yX5_runOrders : MethodName := ⟨RX5, "runOrders", "()I"⟩
abbrev cX5_runOrder : ByteArray := prog_1_method_39_code
def yX5_runOrder : MethodName := ⟨RX5, "runOrder", "(II)Z"⟩
abbrev cX5_runBook : ByteArray := prog_1_method_40_code
def yX5_runBook : MethodName := ⟨RX5, "runBook", "(II)Z"⟩
abbrev cX5_runWriting : ByteArray := prog_1_method_41_code
def yX5_runWriting : MethodName := ⟨RX5, "runWriting", "(II)Z"⟩
abbrev cX5_runVoiding : ByteArray := prog_1_method_42_code
def yX5_runVoiding : MethodName := ⟨RX5, "runVoiding", "(II)Z"⟩
abbrev cX5_copyRow : ByteArray := prog_1_method_43_code
def yX5_copyRow : MethodName := ⟨RX5, "copyRow", "([I[I)V"⟩
def RX6 : String := "ChequeSerialsModel"
def TX6 : u_T := fun k => match k with
  | 0 => ("ChequeSerialsModel", "now", "[I", true)
  | 1 => ("ChequeSerialsModel", "past", "[I", true)
  | 2 => ("ChequeSerialsModel", "states", "I", false)
  | 3 => ("ChequeSerialsModel", "kept", "[I", true)
  | 4 => ("ChequeSerialsModel", "isKept", "[I", true)
  | 5 => ("ChequeSerialsModel", "text", "[I", true)
  | 6 => ("ChequeSerialsModel", "length", "I", false)
  | 7 => ("ChequeSerialsModel", "thrown", "I", false)
  | 8 => ("ChequeSerialsModel", "spot", "I", false)
  | 9 => ("ChequeSerialsModel", "told", "[I", true)
  | _ => ("ChequeSerialsModel", "toldMany", "I", false)
def tyX6 : Nat → FieldType := fun k => match k with
  | 0 => .array .int
  | 1 => .array .int
  | 2 => .int
  | 3 => .array .int
  | 4 => .array .int
  | 5 => .array .int
  | 6 => .int
  | 7 => .int
  | 8 => .int
  | 9 => .array .int
  | _ => .int
abbrev wsX60 : List Cond := u_ws RX6 TX6 11
theorem nmX6 : ∀ a, a < 11 → ∀ b, b < 11 → a ≠ b → (TX6 a).2.1 ≠ (TX6 b).2.1 := by decide +kernel
theorem tyX6_ok : ∀ k, k < 11 → parseFieldDescriptor (TX6 k).2.2.1 = some (tyX6 k) := by decide +kernel
abbrev cX6_init : ByteArray := prog_8_method_1_code
def yX6_init : MethodName := ⟨RX6, "<init>", "()V"⟩
abbrev cX6_thrown : ByteArray := prog_8_method_2_code
def yX6_thrown : MethodName := ⟨RX6, "thrown", "()I"⟩
abbrev cX6_refuses : ByteArray := prog_8_method_3_code
def yX6_refuses : MethodName := ⟨RX6, "refuses", "(I)I"⟩
abbrev cX6_in : ByteArray := prog_8_method_4_code
def yX6_in : MethodName := ⟨RX6, "in", "(III)Z"⟩
abbrev cX6_isSerial : ByteArray := prog_8_method_5_code
def yX6_isSerial : MethodName := ⟨RX6, "isSerial", "(I)Z"⟩
abbrev cX6_isLetter : ByteArray := prog_8_method_6_code
def yX6_isLetter : MethodName := ⟨RX6, "isLetter", "(I)Z"⟩
abbrev cX6_lays : ByteArray := prog_8_method_7_code
def yX6_lays : MethodName := ⟨RX6, "lays", "([II[II)V"⟩
abbrev cX6_saves : ByteArray := prog_8_method_8_code
def yX6_saves : MethodName := ⟨RX6, "saves", "()V"⟩
abbrev cX6_digit : ByteArray := prog_8_method_9_code
def yX6_digit : MethodName := ⟨RX6, "digit", "(II)I"⟩
abbrev cX6_letterOf : ByteArray := prog_8_method_10_code
def yX6_letterOf : MethodName := ⟨RX6, "letterOf", "(I)I"⟩
abbrev cX6_firstOf : ByteArray := prog_8_method_11_code
def yX6_firstOf : MethodName := ⟨RX6, "firstOf", "(I)I"⟩
abbrev cX6_countOf : ByteArray := prog_8_method_12_code
def yX6_countOf : MethodName := ⟨RX6, "countOf", "(I)I"⟩
abbrev cX6_spotOf : ByteArray := prog_8_method_13_code
def yX6_spotOf : MethodName := ⟨RX6, "spotOf", "(I)I"⟩
abbrev cX6_serialAt : ByteArray := prog_8_method_14_code
def yX6_serialAt : MethodName := ⟨RX6, "serialAt", "(I)I"⟩
abbrev cX6_isCheque : ByteArray := prog_8_method_15_code
def yX6_isCheque : MethodName := ⟨RX6, "isCheque", "(I)Z"⟩
abbrev cX6_isTaken : ByteArray := prog_8_method_16_code
def yX6_isTaken : MethodName := ⟨RX6, "isTaken", "(II)Z"⟩
abbrev cX6_canBook : ByteArray := prog_8_method_17_code
def yX6_canBook : MethodName := ⟨RX6, "canBook", "(II)Z"⟩
abbrev cX6_books : ByteArray := prog_8_method_18_code
def yX6_books : MethodName := ⟨RX6, "books", "(II)I"⟩
abbrev cX6_writes : ByteArray := prog_8_method_19_code
def yX6_writes : MethodName := ⟨RX6, "writes", "(II)V"⟩
abbrev cX6_cashes : ByteArray := prog_8_method_20_code
def yX6_cashes : MethodName := ⟨RX6, "cashes", "(II)I"⟩
abbrev cX6_voids : ByteArray := prog_8_method_21_code
def yX6_voids : MethodName := ⟨RX6, "voids", "(II)I"⟩
abbrev cX6_weight : ByteArray := prog_8_method_22_code
def yX6_weight : MethodName := ⟨RX6, "weight", "(II)I"⟩
abbrev cX6_modulus : ByteArray := prog_8_method_23_code
def yX6_modulus : MethodName := ⟨RX6, "modulus", "(I)I"⟩
abbrev cX6_book : ByteArray := prog_8_method_24_code
def yX6_book : MethodName := ⟨RX6, "book", "(II)I"⟩
abbrev cX6_write : ByteArray := prog_8_method_25_code
def yX6_write : MethodName := ⟨RX6, "write", "(II)I"⟩
abbrev cX6_cash : ByteArray := prog_8_method_26_code
def yX6_cash : MethodName := ⟨RX6, "cash", "(II)I"⟩
abbrev cX6_voidRun : ByteArray := prog_8_method_27_code
def yX6_voidRun : MethodName := ⟨RX6, "voidRun", "(II)I"⟩
abbrev cX6_append : ByteArray := prog_8_method_28_code
def yX6_append : MethodName := ⟨RX6, "append", "(I)I"⟩
abbrev cX6_clearBuffer : ByteArray := prog_8_method_29_code
def yX6_clearBuffer : MethodName := ⟨RX6, "clearBuffer", "()I"⟩
abbrev cX6_sees : ByteArray := prog_8_method_30_code
def yX6_sees : MethodName := ⟨RX6, "sees", "(II)Z"⟩
abbrev cX6_takes : ByteArray := prog_8_method_31_code
def yX6_takes : MethodName := ⟨RX6, "takes", "(I)Z"⟩
abbrev cX6_isSix : ByteArray := prog_8_method_32_code
def yX6_isSix : MethodName := ⟨RX6, "isSix", "(I)Z"⟩
abbrev cX6_isNumber : ByteArray := prog_8_method_33_code
def yX6_isNumber : MethodName := ⟨RX6, "isNumber", "(I)Z"⟩
abbrev cX6_isSign : ByteArray := prog_8_method_34_code
def yX6_isSign : MethodName := ⟨RX6, "isSign", "()Z"⟩
abbrev cX6_isOrder : ByteArray := prog_8_method_35_code
def yX6_isOrder : MethodName := ⟨RX6, "isOrder", "()Z"⟩
abbrev cX6_isWhole : ByteArray := prog_8_method_36_code
def yX6_isWhole : MethodName := ⟨RX6, "isWhole", "()Z"⟩
abbrev cX6_firstError : ByteArray := prog_8_method_37_code
def yX6_firstError : MethodName := ⟨RX6, "firstError", "()I"⟩
abbrev cX6_isDone : ByteArray := prog_8_method_38_code
def yX6_isDone : MethodName := ⟨RX6, "isDone", "(I)Z"⟩
abbrev cX6_execute : ByteArray := prog_8_method_39_code
def yX6_execute : MethodName := ⟨RX6, "execute", "()I"⟩
abbrev cX6_undo : ByteArray := prog_8_method_40_code
def yX6_undo : MethodName := ⟨RX6, "undo", "()I"⟩
abbrev cX6_keep : ByteArray := prog_8_method_41_code
def yX6_keep : MethodName := ⟨RX6, "keep", "(I)I"⟩
abbrev cX6_goBack : ByteArray := prog_8_method_42_code
def yX6_goBack : MethodName := ⟨RX6, "goBack", "(I)I"⟩
abbrev cX6_letter : ByteArray := prog_8_method_43_code
def yX6_letter : MethodName := ⟨RX6, "letter", "(I)I"⟩
abbrev cX6_runFrom : ByteArray := prog_8_method_44_code
def yX6_runFrom : MethodName := ⟨RX6, "runFrom", "(I)I"⟩
abbrev cX6_aboutCheque : ByteArray := prog_8_method_45_code
def yX6_aboutCheque : MethodName := ⟨RX6, "aboutCheque", "(II)I"⟩
abbrev cX6_cheque : ByteArray := prog_8_method_46_code
def yX6_cheque : MethodName := ⟨RX6, "cheque", "(II)I"⟩
abbrev cX6_ofKind : ByteArray := prog_8_method_47_code
def yX6_ofKind : MethodName := ⟨RX6, "ofKind", "(III)I"⟩
abbrev cX6_amounts : ByteArray := prog_8_method_48_code
def yX6_amounts : MethodName := ⟨RX6, "amounts", "(III)I"⟩
abbrev cX6_firstBlank : ByteArray := prog_8_method_49_code
def yX6_firstBlank : MethodName := ⟨RX6, "firstBlank", "(I)I"⟩
abbrev cX6_aboutBook : ByteArray := prog_8_method_50_code
def yX6_aboutBook : MethodName := ⟨RX6, "aboutBook", "(II)I"⟩
abbrev cX6_bookOf : ByteArray := prog_8_method_51_code
def yX6_bookOf : MethodName := ⟨RX6, "bookOf", "(II)I"⟩
abbrev cX6_cheques : ByteArray := prog_8_method_52_code
def yX6_cheques : MethodName := ⟨RX6, "cheques", "()I"⟩
abbrev cX6_counted : ByteArray := prog_8_method_53_code
def yX6_counted : MethodName := ⟨RX6, "counted", "(I)I"⟩
abbrev cX6_count : ByteArray := prog_8_method_54_code
def yX6_count : MethodName := ⟨RX6, "count", "(I)I"⟩
abbrev cX6_next : ByteArray := prog_8_method_55_code
def yX6_next : MethodName := ⟨RX6, "next", "(I)I"⟩
abbrev cX6_ranked : ByteArray := prog_8_method_56_code
def yX6_ranked : MethodName := ⟨RX6, "ranked", "(I)I"⟩
abbrev cX6_isLeft : ByteArray := prog_8_method_57_code
def yX6_isLeft : MethodName := ⟨RX6, "isLeft", "(II)Z"⟩
abbrev cX6_missedDigits : ByteArray := prog_8_method_58_code
def yX6_missedDigits : MethodName := ⟨RX6, "missedDigits", "(I)I"⟩
abbrev cX6_missedSwaps : ByteArray := prog_8_method_59_code
def yX6_missedSwaps : MethodName := ⟨RX6, "missedSwaps", "(I)I"⟩
abbrev cX6_missed : ByteArray := prog_8_method_60_code
def yX6_missed : MethodName := ⟨RX6, "missed", "(II)I"⟩
abbrev cX6_pairs : ByteArray := prog_8_method_61_code
def yX6_pairs : MethodName := ⟨RX6, "pairs", "(I)I"⟩
abbrev cX6_weakAt : ByteArray := prog_8_method_62_code
def yX6_weakAt : MethodName := ⟨RX6, "weakAt", "(II)I"⟩
abbrev cX6_weak : ByteArray := prog_8_method_63_code
def yX6_weak : MethodName := ⟨RX6, "weak", "(III)I"⟩
abbrev cX6_weakOf : ByteArray := prog_8_method_64_code
def yX6_weakOf : MethodName := ⟨RX6, "weakOf", "(I)I"⟩
abbrev cX6_finds : ByteArray := prog_8_method_65_code
def yX6_finds : MethodName := ⟨RX6, "finds", "(I)Z"⟩
abbrev cX6_bestWeight : ByteArray := prog_8_method_66_code
def yX6_bestWeight : MethodName := ⟨RX6, "bestWeight", "(I)I"⟩
abbrev cX6_way : ByteArray := prog_8_method_67_code
def yX6_way : MethodName := ⟨RX6, "way", "(II)I"⟩
abbrev cX6_slipOf : ByteArray := prog_8_method_68_code
def yX6_slipOf : MethodName := ⟨RX6, "slipOf", "(III)I"⟩
abbrev cX6_meantBy : ByteArray := prog_8_method_69_code
def yX6_meantBy : MethodName := ⟨RX6, "meantBy", "(III)I"⟩
abbrev cX6_meant : ByteArray := prog_8_method_70_code
def yX6_meant : MethodName := ⟨RX6, "meant", "(III)I"⟩
abbrev cX6_slip : ByteArray := prog_8_method_71_code
def yX6_slip : MethodName := ⟨RX6, "slip", "(III)I"⟩
abbrev cX6_cashed : ByteArray := prog_8_method_72_code
def yX6_cashed : MethodName := ⟨RX6, "cashed", "()D"⟩
def RL : String := "ChequeSerialsLaw"
abbrev cL_weight : ByteArray := method_3_code
def yL_weight : MethodName := ⟨RL, "weight", "(LChequeSerials;II[J)I"⟩
abbrev cL_modulus : ByteArray := method_4_code
def yL_modulus : MethodName := ⟨RL, "modulus", "(LChequeSerials;I[J)I"⟩
abbrev cL_book : ByteArray := method_5_code
def yL_book : MethodName := ⟨RL, "book", "(LChequeSerials;II[J)I"⟩
abbrev cL_write : ByteArray := method_6_code
def yL_write : MethodName := ⟨RL, "write", "(LChequeSerials;II[J)I"⟩
abbrev cL_cash : ByteArray := method_7_code
def yL_cash : MethodName := ⟨RL, "cash", "(LChequeSerials;II[J)I"⟩
abbrev cL_voidRun : ByteArray := method_8_code
def yL_voidRun : MethodName := ⟨RL, "voidRun", "(LChequeSerials;II[J)I"⟩
abbrev cL_append : ByteArray := method_9_code
def yL_append : MethodName := ⟨RL, "append", "(LChequeSerials;I[J)I"⟩
abbrev cL_execute : ByteArray := method_10_code
def yL_execute : MethodName := ⟨RL, "execute", "(LChequeSerials;[J)I"⟩
abbrev cL_undo : ByteArray := method_11_code
def yL_undo : MethodName := ⟨RL, "undo", "(LChequeSerials;[J)I"⟩
abbrev cL_keep : ByteArray := method_12_code
def yL_keep : MethodName := ⟨RL, "keep", "(LChequeSerials;I[J)I"⟩
abbrev cL_goBack : ByteArray := method_13_code
def yL_goBack : MethodName := ⟨RL, "goBack", "(LChequeSerials;I[J)I"⟩
abbrev cL_letter : ByteArray := method_14_code
def yL_letter : MethodName := ⟨RL, "letter", "(LChequeSerials;I[J)I"⟩
abbrev cL_cheque : ByteArray := method_15_code
def yL_cheque : MethodName := ⟨RL, "cheque", "(LChequeSerials;II[J)I"⟩
abbrev cL_bookOf : ByteArray := method_16_code
def yL_bookOf : MethodName := ⟨RL, "bookOf", "(LChequeSerials;II[J)I"⟩
abbrev cL_count : ByteArray := method_17_code
def yL_count : MethodName := ⟨RL, "count", "(LChequeSerials;I[J)I"⟩
abbrev cL_ranked : ByteArray := method_18_code
def yL_ranked : MethodName := ⟨RL, "ranked", "(LChequeSerials;I[J)I"⟩
abbrev cL_missed : ByteArray := method_19_code
def yL_missed : MethodName := ⟨RL, "missed", "(LChequeSerials;II[J)I"⟩
abbrev cL_weak : ByteArray := method_20_code
def yL_weak : MethodName := ⟨RL, "weak", "(LChequeSerials;III[J)I"⟩
abbrev cL_finds : ByteArray := method_21_code
def yL_finds : MethodName := ⟨RL, "finds", "(LChequeSerials;I[J)I"⟩
abbrev cL_bestWeight : ByteArray := method_22_code
def yL_bestWeight : MethodName := ⟨RL, "bestWeight", "(LChequeSerials;I[J)I"⟩
abbrev cL_meant : ByteArray := method_23_code
def yL_meant : MethodName := ⟨RL, "meant", "(LChequeSerials;III[J)I"⟩
abbrev cL_slip : ByteArray := method_24_code
def yL_slip : MethodName := ⟨RL, "slip", "(LChequeSerials;III[J)I"⟩
abbrev cL_law : ByteArray := code
def yL_law : MethodName := ⟨RL, "law", "([I)Z"⟩
abbrev vwCl : List vw_C := [(RX0, TX0, 5), (RX1, TX1, 4), (RX2, TX2, 2), (RX3, TX3, 2), (RX4, TX4, 3), (RX5, TX5, 3), (RX6, TX6, 11)]
/-- one list of words for all methods: what the tables say and a call may take along -/
def lw_all : List Cond := lw_tbl.filter goodWord
theorem lw_all_tbl {w : Cond} (h : w ∈ lw_all) : w ∈ lw_tbl := (List.mem_filter.mp h).1
theorem lw_all_good {w : Cond} (h : w ∈ lw_all) : (w.onTables && w.keeps) = true ∨ ∃ ty, w = .arrayClass ty := good_of_word (List.mem_filter.mp h).2
theorem in_all {w : Cond} (k : Nat) (h : lw_tbl[k]? = some w) (g : goodWord w = true) : w ∈ lw_all := List.mem_filter.mpr ⟨List.mem_of_getElem? h, g⟩
theorem gd_all {c : Cond} (h : c ∈ lw_all) : GoodIn lw_all (c :: lw_all) := fun w hw => by
  rcases List.mem_cons.mp hw with rfl | hw
  · exact ⟨h, lw_all_good h⟩
  · exact ⟨hw, lw_all_good hw⟩
theorem gd_V {c : Cond} {own C : String} {ix : Nat} {y : MethodName} (h1 : Cond.methodLink own ix y ∈ lw_all) (h2 : Cond.instanceMethod y ∈ lw_all) (h3 : Cond.selects C y y ∈ lw_all) (h4 : Cond.initialized C ∈ lw_all) (h : c ∈ lw_all) : GoodIn lw_all (wsV own ix C y (c :: lw_all)) := fun w hw => by
  unfold wsV at hw
  rcases List.mem_append.mp hw with hw | hw
  · have : w ∈ lw_all := by
      rcases List.mem_cons.mp hw with rfl | hw
      · exact h1
      rcases List.mem_cons.mp hw with rfl | hw
      · exact h2
      rcases List.mem_cons.mp hw with rfl | hw
      · exact h3
      rcases List.mem_cons.mp hw with rfl | hw
      · exact h4
      cases hw
    exact ⟨this, lw_all_good this⟩
  · exact gd_all h w hw
theorem gd_S {c : Cond} {own : String} {ix : Nat} {y : MethodName} (h1 : Cond.methodLink own ix y ∈ lw_all) (h2 : Cond.static y ∈ lw_all) (h4 : Cond.initialized y.cls ∈ lw_all) (h : c ∈ lw_all) : GoodIn lw_all (va_wsS own ix y (c :: lw_all)) := fun w hw => by
  unfold va_wsS at hw
  rcases List.mem_append.mp hw with hw | hw
  · have : w ∈ lw_all := by
      rcases List.mem_cons.mp hw with rfl | hw
      · exact h1
      rcases List.mem_cons.mp hw with rfl | hw
      · exact h2
      rcases List.mem_cons.mp hw with rfl | hw
      · exact h4
      cases hw
    exact ⟨this, lw_all_good this⟩
  · exact gd_all h w hw
set_option maxRecDepth 20000 in
theorem wd_0 : (.selects RX3 yX3_fits yX3_fits : Cond) ∈ lw_all := in_all 0 (by decide +kernel) (by decide +kernel)
set_option maxRecDepth 20000 in
theorem wd_1 : (.selects RX3 yX3_isWhole yX3_isWhole : Cond) ∈ lw_all := in_all 1 (by decide +kernel) (by decide +kernel)
set_option maxRecDepth 20000 in
theorem wd_2 : (.selects RX3 yX3_fitsBehindHead yX3_fitsBehindHead : Cond) ∈ lw_all := in_all 2 (by decide +kernel) (by decide +kernel)
set_option maxRecDepth 20000 in
theorem wd_3 : (.selects RX0 yX0_amountsOf yX0_amountsOf : Cond) ∈ lw_all := in_all 3 (by decide +kernel) (by decide +kernel)
set_option maxRecDepth 20000 in
theorem wd_4 : (.selects RX0 yX0_firstBlankOf yX0_firstBlankOf : Cond) ∈ lw_all := in_all 4 (by decide +kernel) (by decide +kernel)
set_option maxRecDepth 20000 in
theorem wd_5 : (.selects RX0 yX0_chequesOf yX0_chequesOf : Cond) ∈ lw_all := in_all 5 (by decide +kernel) (by decide +kernel)
set_option maxRecDepth 20000 in
theorem wd_6 : (.selects "java/lang/Throwable" ⟨"java/lang/Throwable", "fillInStackTrace", "(I)Ljava/lang/Throwable;"⟩ ⟨"java/lang/Throwable", "fillInStackTrace", "(I)Ljava/lang/Throwable;"⟩ : Cond) ∈ lw_all := in_all 6 (by decide +kernel) (by decide +kernel)
set_option maxRecDepth 20000 in
theorem wd_7 : (.selects RX1 yX1_dropOldest yX1_dropOldest : Cond) ∈ lw_all := in_all 7 (by decide +kernel) (by decide +kernel)
set_option maxRecDepth 20000 in
theorem wd_8 : (.selects RX5 yX5_faultOfBook yX5_faultOfBook : Cond) ∈ lw_all := in_all 8 (by decide +kernel) (by decide +kernel)
set_option maxRecDepth 20000 in
theorem wd_9 : (.selects RX0 yX0_setCell yX0_setCell : Cond) ∈ lw_all := in_all 9 (by decide +kernel) (by decide +kernel)
set_option maxRecDepth 20000 in
theorem wd_10 : (.selects RX5 yX5_faultOfWriting yX5_faultOfWriting : Cond) ∈ lw_all := in_all 10 (by decide +kernel) (by decide +kernel)
set_option maxRecDepth 20000 in
theorem wd_11 : (.selects RX2 yX2_restOf yX2_restOf : Cond) ∈ lw_all := in_all 11 (by decide +kernel) (by decide +kernel)
set_option maxRecDepth 20000 in
theorem wd_12 : (.selects RX4 yX4_reasonAgainstCashing yX4_reasonAgainstCashing : Cond) ∈ lw_all := in_all 12 (by decide +kernel) (by decide +kernel)
set_option maxRecDepth 20000 in
theorem wd_13 : (.selects RX0 yX0_makeVoid yX0_makeVoid : Cond) ∈ lw_all := in_all 13 (by decide +kernel) (by decide +kernel)
set_option maxRecDepth 20000 in
theorem wd_14 : (.selects RX5 yX5_runOrders yX5_runOrders : Cond) ∈ lw_all := in_all 14 (by decide +kernel) (by decide +kernel)
set_option maxRecDepth 20000 in
theorem wd_15 : (.selects RX5 yX5_runOrder yX5_runOrder : Cond) ∈ lw_all := in_all 15 (by decide +kernel) (by decide +kernel)
set_option maxRecDepth 20000 in
theorem wd_16 : (.selects RX5 yX5_runBook yX5_runBook : Cond) ∈ lw_all := in_all 16 (by decide +kernel) (by decide +kernel)
set_option maxRecDepth 20000 in
theorem wd_17 : (.selects RX5 yX5_runWriting yX5_runWriting : Cond) ∈ lw_all := in_all 17 (by decide +kernel) (by decide +kernel)
set_option maxRecDepth 20000 in
theorem wd_18 : (.selects RX5 yX5_runVoiding yX5_runVoiding : Cond) ∈ lw_all := in_all 18 (by decide +kernel) (by decide +kernel)
set_option maxRecDepth 20000 in
theorem wd_19 : (.selects RX0 yX0_booksBefore yX0_booksBefore : Cond) ∈ lw_all := in_all 19 (by decide +kernel) (by decide +kernel)
set_option maxRecDepth 20000 in
theorem wd_20 : (.selects RX2 yX2_isHidden yX2_isHidden : Cond) ∈ lw_all := in_all 20 (by decide +kernel) (by decide +kernel)
set_option maxRecDepth 20000 in
theorem wd_21 : (.selects RX6 yX6_refuses yX6_refuses : Cond) ∈ lw_all := in_all 21 (by decide +kernel) (by decide +kernel)
set_option maxRecDepth 20000 in
theorem wd_22 : (.selects RX6 yX6_saves yX6_saves : Cond) ∈ lw_all := in_all 22 (by decide +kernel) (by decide +kernel)
set_option maxRecDepth 20000 in
theorem wd_23 : (.selects RX6 yX6_canBook yX6_canBook : Cond) ∈ lw_all := in_all 23 (by decide +kernel) (by decide +kernel)
set_option maxRecDepth 20000 in
theorem wd_24 : (.selects RX6 yX6_isTaken yX6_isTaken : Cond) ∈ lw_all := in_all 24 (by decide +kernel) (by decide +kernel)
set_option maxRecDepth 20000 in
theorem wd_25 : (.selects RX6 yX6_firstOf yX6_firstOf : Cond) ∈ lw_all := in_all 25 (by decide +kernel) (by decide +kernel)
set_option maxRecDepth 20000 in
theorem wd_26 : (.selects RX6 yX6_countOf yX6_countOf : Cond) ∈ lw_all := in_all 26 (by decide +kernel) (by decide +kernel)
set_option maxRecDepth 20000 in
theorem wd_27 : (.selects RX6 yX6_books yX6_books : Cond) ∈ lw_all := in_all 27 (by decide +kernel) (by decide +kernel)
set_option maxRecDepth 20000 in
theorem wd_28 : (.selects RX6 yX6_spotOf yX6_spotOf : Cond) ∈ lw_all := in_all 28 (by decide +kernel) (by decide +kernel)
set_option maxRecDepth 20000 in
theorem wd_29 : (.selects RX6 yX6_writes yX6_writes : Cond) ∈ lw_all := in_all 29 (by decide +kernel) (by decide +kernel)
set_option maxRecDepth 20000 in
theorem wd_30 : (.selects RX6 yX6_letterOf yX6_letterOf : Cond) ∈ lw_all := in_all 30 (by decide +kernel) (by decide +kernel)
set_option maxRecDepth 20000 in
theorem wd_31 : (.selects RX6 yX6_cashes yX6_cashes : Cond) ∈ lw_all := in_all 31 (by decide +kernel) (by decide +kernel)
set_option maxRecDepth 20000 in
theorem wd_32 : (.selects RX6 yX6_voids yX6_voids : Cond) ∈ lw_all := in_all 32 (by decide +kernel) (by decide +kernel)
set_option maxRecDepth 20000 in
theorem wd_33 : (.selects RX6 yX6_isCheque yX6_isCheque : Cond) ∈ lw_all := in_all 33 (by decide +kernel) (by decide +kernel)
set_option maxRecDepth 20000 in
theorem wd_34 : (.selects RX6 yX6_serialAt yX6_serialAt : Cond) ∈ lw_all := in_all 34 (by decide +kernel) (by decide +kernel)
set_option maxRecDepth 20000 in
theorem wd_35 : (.selects RX6 yX6_isWhole yX6_isWhole : Cond) ∈ lw_all := in_all 35 (by decide +kernel) (by decide +kernel)
set_option maxRecDepth 20000 in
theorem wd_36 : (.selects RX6 yX6_isOrder yX6_isOrder : Cond) ∈ lw_all := in_all 36 (by decide +kernel) (by decide +kernel)
set_option maxRecDepth 20000 in
theorem wd_37 : (.selects RX6 yX6_sees yX6_sees : Cond) ∈ lw_all := in_all 37 (by decide +kernel) (by decide +kernel)
set_option maxRecDepth 20000 in
theorem wd_38 : (.selects RX6 yX6_isSix yX6_isSix : Cond) ∈ lw_all := in_all 38 (by decide +kernel) (by decide +kernel)
set_option maxRecDepth 20000 in
theorem wd_39 : (.selects RX6 yX6_takes yX6_takes : Cond) ∈ lw_all := in_all 39 (by decide +kernel) (by decide +kernel)
set_option maxRecDepth 20000 in
theorem wd_40 : (.selects RX6 yX6_isNumber yX6_isNumber : Cond) ∈ lw_all := in_all 40 (by decide +kernel) (by decide +kernel)
set_option maxRecDepth 20000 in
theorem wd_41 : (.selects RX6 yX6_isSign yX6_isSign : Cond) ∈ lw_all := in_all 41 (by decide +kernel) (by decide +kernel)
set_option maxRecDepth 20000 in
theorem wd_42 : (.selects RX6 yX6_isDone yX6_isDone : Cond) ∈ lw_all := in_all 42 (by decide +kernel) (by decide +kernel)
set_option maxRecDepth 20000 in
theorem wd_43 : (.selects RX6 yX6_aboutCheque yX6_aboutCheque : Cond) ∈ lw_all := in_all 43 (by decide +kernel) (by decide +kernel)
set_option maxRecDepth 20000 in
theorem wd_44 : (.selects RX6 yX6_runFrom yX6_runFrom : Cond) ∈ lw_all := in_all 44 (by decide +kernel) (by decide +kernel)
set_option maxRecDepth 20000 in
theorem wd_45 : (.selects RX6 yX6_aboutBook yX6_aboutBook : Cond) ∈ lw_all := in_all 45 (by decide +kernel) (by decide +kernel)
set_option maxRecDepth 20000 in
theorem wd_46 : (.selects RX6 yX6_amounts yX6_amounts : Cond) ∈ lw_all := in_all 46 (by decide +kernel) (by decide +kernel)
set_option maxRecDepth 20000 in
theorem wd_47 : (.selects RX6 yX6_firstBlank yX6_firstBlank : Cond) ∈ lw_all := in_all 47 (by decide +kernel) (by decide +kernel)
set_option maxRecDepth 20000 in
theorem wd_48 : (.selects RX6 yX6_ofKind yX6_ofKind : Cond) ∈ lw_all := in_all 48 (by decide +kernel) (by decide +kernel)
set_option maxRecDepth 20000 in
theorem wd_49 : (.selects RX6 yX6_counted yX6_counted : Cond) ∈ lw_all := in_all 49 (by decide +kernel) (by decide +kernel)
set_option maxRecDepth 20000 in
theorem wd_50 : (.selects RX6 yX6_cheques yX6_cheques : Cond) ∈ lw_all := in_all 50 (by decide +kernel) (by decide +kernel)
set_option maxRecDepth 20000 in
theorem wd_51 : (.selects RX6 yX6_next yX6_next : Cond) ∈ lw_all := in_all 51 (by decide +kernel) (by decide +kernel)
set_option maxRecDepth 20000 in
theorem wd_52 : (.selects RX6 yX6_missedDigits yX6_missedDigits : Cond) ∈ lw_all := in_all 52 (by decide +kernel) (by decide +kernel)
set_option maxRecDepth 20000 in
theorem wd_53 : (.selects RX6 yX6_isLeft yX6_isLeft : Cond) ∈ lw_all := in_all 53 (by decide +kernel) (by decide +kernel)
set_option maxRecDepth 20000 in
theorem wd_54 : (.selects RX6 yX6_missedSwaps yX6_missedSwaps : Cond) ∈ lw_all := in_all 54 (by decide +kernel) (by decide +kernel)
set_option maxRecDepth 20000 in
theorem wd_55 : (.selects RX6 yX6_weakAt yX6_weakAt : Cond) ∈ lw_all := in_all 55 (by decide +kernel) (by decide +kernel)
set_option maxRecDepth 20000 in
theorem wd_56 : (.selects RX6 yX6_pairs yX6_pairs : Cond) ∈ lw_all := in_all 56 (by decide +kernel) (by decide +kernel)
set_option maxRecDepth 20000 in
theorem wd_57 : (.selects RX6 yX6_weakOf yX6_weakOf : Cond) ∈ lw_all := in_all 57 (by decide +kernel) (by decide +kernel)
set_option maxRecDepth 20000 in
theorem wd_58 : (.selects RX6 yX6_meantBy yX6_meantBy : Cond) ∈ lw_all := in_all 58 (by decide +kernel) (by decide +kernel)
set_option maxRecDepth 20000 in
theorem wd_59 : (.selects RX6 yX6_slipOf yX6_slipOf : Cond) ∈ lw_all := in_all 59 (by decide +kernel) (by decide +kernel)
set_option maxRecDepth 20000 in
theorem wd_60 : (.initialized RL : Cond) ∈ lw_all := in_all 60 (by decide +kernel) (by decide +kernel)
set_option maxRecDepth 20000 in
theorem wd_61 : (.initialized RX5 : Cond) ∈ lw_all := in_all 61 (by decide +kernel) (by decide +kernel)
set_option maxRecDepth 20000 in
theorem wd_62 : (.initialized RX4 : Cond) ∈ lw_all := in_all 62 (by decide +kernel) (by decide +kernel)
set_option maxRecDepth 20000 in
theorem wd_63 : (.initialized RX2 : Cond) ∈ lw_all := in_all 63 (by decide +kernel) (by decide +kernel)
set_option maxRecDepth 20000 in
theorem wd_64 : (.initialized RX0 : Cond) ∈ lw_all := in_all 64 (by decide +kernel) (by decide +kernel)
set_option maxRecDepth 20000 in
theorem wd_65 : (.initialized RX1 : Cond) ∈ lw_all := in_all 65 (by decide +kernel) (by decide +kernel)
set_option maxRecDepth 20000 in
theorem wd_66 : (.initialized RX3 : Cond) ∈ lw_all := in_all 66 (by decide +kernel) (by decide +kernel)
set_option maxRecDepth 20000 in
theorem wd_67 : (.initialized RX6 : Cond) ∈ lw_all := in_all 67 (by decide +kernel) (by decide +kernel)
set_option maxRecDepth 20000 in
theorem wd_68 : (.initialized "java/lang/Throwable" : Cond) ∈ lw_all := in_all 68 (by decide +kernel) (by decide +kernel)
set_option maxRecDepth 20000 in
theorem wd_69 : (.initialized "java/lang/Exception" : Cond) ∈ lw_all := in_all 69 (by decide +kernel) (by decide +kernel)
set_option maxRecDepth 20000 in
theorem wd_70 : (.initialized "java/lang/RuntimeException" : Cond) ∈ lw_all := in_all 70 (by decide +kernel) (by decide +kernel)
set_option maxRecDepth 20000 in
theorem wd_71 : (.initialized "java/lang/IndexOutOfBoundsException" : Cond) ∈ lw_all := in_all 71 (by decide +kernel) (by decide +kernel)
set_option maxRecDepth 20000 in
theorem wd_72 : (.initialized "java/lang/IllegalArgumentException" : Cond) ∈ lw_all := in_all 72 (by decide +kernel) (by decide +kernel)
set_option maxRecDepth 20000 in
theorem wd_73 : (.initialized "java/lang/IllegalStateException" : Cond) ∈ lw_all := in_all 73 (by decide +kernel) (by decide +kernel)
set_option maxRecDepth 20000 in
theorem wd_74 : (.initialized "java/lang/Math" : Cond) ∈ lw_all := in_all 74 (by decide +kernel) (by decide +kernel)
set_option maxRecDepth 20000 in
theorem wd_75 : (.classLink RL 8 RX5 : Cond) ∈ lw_all := in_all 75 (by decide +kernel) (by decide +kernel)
set_option maxRecDepth 20000 in
theorem wd_76 : (.instantiable RX5 3 : Cond) ∈ lw_all := in_all 76 (by decide +kernel) (by decide +kernel)
set_option maxRecDepth 20000 in
theorem wd_77 : (.methodLink RL 86 yX5_init : Cond) ∈ lw_all := in_all 77 (by decide +kernel) (by decide +kernel)
set_option maxRecDepth 20000 in
theorem wd_78 : (.instanceMethod yX5_init : Cond) ∈ lw_all := in_all 78 (by decide +kernel) (by decide +kernel)
set_option maxRecDepth 20000 in
theorem wd_79 : (.code yX5_init cX5_init 1 none : Cond) ∈ lw_all := in_all 79 (by decide +kernel) (by decide +kernel)
set_option maxRecDepth 20000 in
theorem wd_80 : (.methodLink RX5 1 objectInit : Cond) ∈ lw_all := in_all 80 (by decide +kernel) (by decide +kernel)
set_option maxRecDepth 20000 in
theorem wd_81 : (.instanceMethod objectInit : Cond) ∈ lw_all := in_all 81 (by decide +kernel) (by decide +kernel)
set_option maxRecDepth 20000 in
theorem wd_82 : (.code objectInit object_method_1_code 1 none : Cond) ∈ lw_all := in_all 82 (by decide +kernel) (by decide +kernel)
set_option maxRecDepth 20000 in
theorem wd_83 : (.classLink RX5 7 RX4 : Cond) ∈ lw_all := in_all 83 (by decide +kernel) (by decide +kernel)
set_option maxRecDepth 20000 in
theorem wd_84 : (.instantiable RX4 3 : Cond) ∈ lw_all := in_all 84 (by decide +kernel) (by decide +kernel)
set_option maxRecDepth 20000 in
theorem wd_86 : (.instanceMethod yX4_init : Cond) ∈ lw_all := in_all 86 (by decide +kernel) (by decide +kernel)
set_option maxRecDepth 20000 in
theorem wd_87 : (.code yX4_init cX4_init 1 none : Cond) ∈ lw_all := in_all 87 (by decide +kernel) (by decide +kernel)
set_option maxRecDepth 20000 in
theorem wd_88 : (.methodLink RX4 3 objectInit : Cond) ∈ lw_all := in_all 88 (by decide +kernel) (by decide +kernel)
set_option maxRecDepth 20000 in
theorem wd_89 : (.classLink RX4 9 RX2 : Cond) ∈ lw_all := in_all 89 (by decide +kernel) (by decide +kernel)
set_option maxRecDepth 20000 in
theorem wd_90 : (.instantiable RX2 2 : Cond) ∈ lw_all := in_all 90 (by decide +kernel) (by decide +kernel)
set_option maxRecDepth 20000 in
theorem wd_91 : (.methodLink RX4 11 yX2_init : Cond) ∈ lw_all := in_all 91 (by decide +kernel) (by decide +kernel)
set_option maxRecDepth 20000 in
theorem wd_92 : (.instanceMethod yX2_init : Cond) ∈ lw_all := in_all 92 (by decide +kernel) (by decide +kernel)
set_option maxRecDepth 20000 in
theorem wd_93 : (.code yX2_init cX2_init 2 none : Cond) ∈ lw_all := in_all 93 (by decide +kernel) (by decide +kernel)
set_option maxRecDepth 20000 in
theorem wd_94 : (.methodLink RX2 3 objectInit : Cond) ∈ lw_all := in_all 94 (by decide +kernel) (by decide +kernel)
set_option maxRecDepth 20000 in
theorem wd_95 : (.fieldLink RX2 9 "ChequeSerials$Letters" "weights" "[I" : Cond) ∈ lw_all := in_all 95 (by decide +kernel) (by decide +kernel)
set_option maxRecDepth 20000 in
theorem wd_96 : (.fieldLink RX2 15 "ChequeSerials$Letters" "modulus" "I" : Cond) ∈ lw_all := in_all 96 (by decide +kernel) (by decide +kernel)
set_option maxRecDepth 20000 in
theorem wd_97 : (.fieldLink RX5 61 "ChequeSerials$Letters" "modulus" "I" : Cond) ∈ lw_all := in_all 97 (by decide +kernel) (by decide +kernel)
set_option maxRecDepth 20000 in
theorem wd_103 : (.arrayClass .int : Cond) ∈ lw_all := in_all 103 (by decide +kernel) (by decide +kernel)
set_option maxRecDepth 20000 in
theorem wd_104 : (.classLink RX4 18 RX0 : Cond) ∈ lw_all := in_all 104 (by decide +kernel) (by decide +kernel)
set_option maxRecDepth 20000 in
theorem wd_105 : (.instantiable RX0 5 : Cond) ∈ lw_all := in_all 105 (by decide +kernel) (by decide +kernel)
set_option maxRecDepth 20000 in
theorem wd_107 : (.instanceMethod yX0_init : Cond) ∈ lw_all := in_all 107 (by decide +kernel) (by decide +kernel)
set_option maxRecDepth 20000 in
theorem wd_108 : (.code yX0_init cX0_init 1 none : Cond) ∈ lw_all := in_all 108 (by decide +kernel) (by decide +kernel)
set_option maxRecDepth 20000 in
theorem wd_109 : (.methodLink RX0 3 objectInit : Cond) ∈ lw_all := in_all 109 (by decide +kernel) (by decide +kernel)
set_option maxRecDepth 20000 in
theorem wd_110 : (.fieldLink RX0 9 "ChequeSerials$Books" "firsts" "[I" : Cond) ∈ lw_all := in_all 110 (by decide +kernel) (by decide +kernel)
set_option maxRecDepth 20000 in
theorem wd_111 : (.fieldLink RX0 15 "ChequeSerials$Books" "sizes" "[I" : Cond) ∈ lw_all := in_all 111 (by decide +kernel) (by decide +kernel)
set_option maxRecDepth 20000 in
theorem wd_112 : (.fieldLink RX0 18 "ChequeSerials$Books" "kinds" "[I" : Cond) ∈ lw_all := in_all 112 (by decide +kernel) (by decide +kernel)
set_option maxRecDepth 20000 in
theorem wd_113 : (.fieldLink RX0 21 "ChequeSerials$Books" "amounts" "[I" : Cond) ∈ lw_all := in_all 113 (by decide +kernel) (by decide +kernel)
set_option maxRecDepth 20000 in
theorem wd_114 : (.fieldLink RX0 28 "ChequeSerials$Books" "held" "I" : Cond) ∈ lw_all := in_all 114 (by decide +kernel) (by decide +kernel)
set_option maxRecDepth 20000 in
theorem wd_115 : (.fieldLink RX4 57 "ChequeSerials$Books" "held" "I" : Cond) ∈ lw_all := in_all 115 (by decide +kernel) (by decide +kernel)
set_option maxRecDepth 20000 in
theorem wd_116 : (.fieldLink RX5 151 "ChequeSerials$Books" "held" "I" : Cond) ∈ lw_all := in_all 116 (by decide +kernel) (by decide +kernel)
set_option maxRecDepth 20000 in
theorem wd_128 : (.fieldLink RX4 12 "ChequeSerials$State" "letters" "LChequeSerials$Letters;" : Cond) ∈ lw_all := in_all 128 (by decide +kernel) (by decide +kernel)
set_option maxRecDepth 20000 in
theorem wd_129 : (.fieldLink RX5 45 "ChequeSerials$State" "letters" "LChequeSerials$Letters;" : Cond) ∈ lw_all := in_all 129 (by decide +kernel) (by decide +kernel)
set_option maxRecDepth 20000 in
theorem wd_130 : (.fieldLink RX4 21 "ChequeSerials$State" "books" "LChequeSerials$Books;" : Cond) ∈ lw_all := in_all 130 (by decide +kernel) (by decide +kernel)
set_option maxRecDepth 20000 in
theorem wd_131 : (.fieldLink RX5 72 "ChequeSerials$State" "books" "LChequeSerials$Books;" : Cond) ∈ lw_all := in_all 131 (by decide +kernel) (by decide +kernel)
set_option maxRecDepth 20000 in
theorem wd_132 : (.fieldLink RX4 32 "ChequeSerials$State" "refusals" "I" : Cond) ∈ lw_all := in_all 132 (by decide +kernel) (by decide +kernel)
set_option maxRecDepth 20000 in
theorem wd_133 : (.fieldLink RX5 188 "ChequeSerials$State" "refusals" "I" : Cond) ∈ lw_all := in_all 133 (by decide +kernel) (by decide +kernel)
set_option maxRecDepth 20000 in
theorem wd_141 : (.classLink RX5 16 RX1 : Cond) ∈ lw_all := in_all 141 (by decide +kernel) (by decide +kernel)
set_option maxRecDepth 20000 in
theorem wd_142 : (.instantiable RX1 4 : Cond) ∈ lw_all := in_all 142 (by decide +kernel) (by decide +kernel)
set_option maxRecDepth 20000 in
theorem wd_143 : (.methodLink RX5 18 yX1_init : Cond) ∈ lw_all := in_all 143 (by decide +kernel) (by decide +kernel)
set_option maxRecDepth 20000 in
theorem wd_144 : (.instanceMethod yX1_init : Cond) ∈ lw_all := in_all 144 (by decide +kernel) (by decide +kernel)
set_option maxRecDepth 20000 in
theorem wd_145 : (.code yX1_init cX1_init 2 none : Cond) ∈ lw_all := in_all 145 (by decide +kernel) (by decide +kernel)
set_option maxRecDepth 20000 in
theorem wd_146 : (.methodLink RX1 3 objectInit : Cond) ∈ lw_all := in_all 146 (by decide +kernel) (by decide +kernel)
set_option maxRecDepth 20000 in
theorem wd_147 : (.classLink RX1 9 RX4 : Cond) ∈ lw_all := in_all 147 (by decide +kernel) (by decide +kernel)
set_option maxRecDepth 20000 in
theorem wd_150 : (.fieldLink RX1 11 "ChequeSerials$History" "saved" "[LChequeSerials$State;" : Cond) ∈ lw_all := in_all 150 (by decide +kernel) (by decide +kernel)
set_option maxRecDepth 20000 in
theorem wd_151 : (.fieldLink RX1 17 "ChequeSerials$History" "slots" "[LChequeSerials$State;" : Cond) ∈ lw_all := in_all 151 (by decide +kernel) (by decide +kernel)
set_option maxRecDepth 20000 in
theorem wd_152 : (.fieldLink RX1 20 "ChequeSerials$History" "filled" "[Z" : Cond) ∈ lw_all := in_all 152 (by decide +kernel) (by decide +kernel)
set_option maxRecDepth 20000 in
theorem wd_153 : (.fieldLink RX1 25 "ChequeSerials$History" "depth" "I" : Cond) ∈ lw_all := in_all 153 (by decide +kernel) (by decide +kernel)
set_option maxRecDepth 20000 in
theorem wd_154 : (.fieldLink RX5 136 "ChequeSerials$History" "depth" "I" : Cond) ∈ lw_all := in_all 154 (by decide +kernel) (by decide +kernel)
set_option maxRecDepth 20000 in
theorem wd_164 : (.arrayClass .boolean : Cond) ∈ lw_all := in_all 164 (by decide +kernel) (by decide +kernel)
set_option maxRecDepth 20000 in
theorem wd_165 : (.classLink RX5 23 RX3 : Cond) ∈ lw_all := in_all 165 (by decide +kernel) (by decide +kernel)
set_option maxRecDepth 20000 in
theorem wd_166 : (.instantiable RX3 2 : Cond) ∈ lw_all := in_all 166 (by decide +kernel) (by decide +kernel)
set_option maxRecDepth 20000 in
theorem wd_168 : (.instanceMethod yX3_init : Cond) ∈ lw_all := in_all 168 (by decide +kernel) (by decide +kernel)
set_option maxRecDepth 20000 in
theorem wd_169 : (.code yX3_init cX3_init 1 none : Cond) ∈ lw_all := in_all 169 (by decide +kernel) (by decide +kernel)
set_option maxRecDepth 20000 in
theorem wd_170 : (.methodLink RX3 3 objectInit : Cond) ∈ lw_all := in_all 170 (by decide +kernel) (by decide +kernel)
set_option maxRecDepth 20000 in
theorem wd_171 : (.fieldLink RX3 9 "ChequeSerials$OrderText" "signs" "[I" : Cond) ∈ lw_all := in_all 171 (by decide +kernel) (by decide +kernel)
set_option maxRecDepth 20000 in
theorem wd_172 : (.fieldLink RX3 15 "ChequeSerials$OrderText" "length" "I" : Cond) ∈ lw_all := in_all 172 (by decide +kernel) (by decide +kernel)
set_option maxRecDepth 20000 in
theorem wd_173 : (.fieldLink RX5 191 "ChequeSerials$OrderText" "length" "I" : Cond) ∈ lw_all := in_all 173 (by decide +kernel) (by decide +kernel)
set_option maxRecDepth 20000 in
theorem wd_179 : (.fieldLink RX5 10 "ChequeSerials" "now" "LChequeSerials$State;" : Cond) ∈ lw_all := in_all 179 (by decide +kernel) (by decide +kernel)
set_option maxRecDepth 20000 in
theorem wd_180 : (.fieldLink RX5 19 "ChequeSerials" "history" "LChequeSerials$History;" : Cond) ∈ lw_all := in_all 180 (by decide +kernel) (by decide +kernel)
set_option maxRecDepth 20000 in
theorem wd_181 : (.fieldLink RX5 26 "ChequeSerials" "orders" "LChequeSerials$OrderText;" : Cond) ∈ lw_all := in_all 181 (by decide +kernel) (by decide +kernel)
set_option maxRecDepth 20000 in
theorem wd_189 : (.methodLink RL 118 yX5_clearBuffer : Cond) ∈ lw_all := in_all 189 (by decide +kernel) (by decide +kernel)
set_option maxRecDepth 20000 in
theorem wd_190 : (.instanceMethod yX5_clearBuffer : Cond) ∈ lw_all := in_all 190 (by decide +kernel) (by decide +kernel)
set_option maxRecDepth 20000 in
theorem wd_191 : (.selects RX5 yX5_clearBuffer yX5_clearBuffer : Cond) ∈ lw_all := in_all 191 (by decide +kernel) (by decide +kernel)
set_option maxRecDepth 20000 in
theorem wd_192 : (.code yX5_clearBuffer cX5_clearBuffer 1 (some .int) : Cond) ∈ lw_all := in_all 192 (by decide +kernel) (by decide +kernel)
set_option maxRecDepth 20000 in
theorem wd_193 : (.methodLink RX5 121 yX3_clear : Cond) ∈ lw_all := in_all 193 (by decide +kernel) (by decide +kernel)
set_option maxRecDepth 20000 in
theorem wd_194 : (.instanceMethod yX3_clear : Cond) ∈ lw_all := in_all 194 (by decide +kernel) (by decide +kernel)
set_option maxRecDepth 20000 in
theorem wd_195 : (.selects RX3 yX3_clear yX3_clear : Cond) ∈ lw_all := in_all 195 (by decide +kernel) (by decide +kernel)
set_option maxRecDepth 20000 in
theorem wd_196 : (.code yX3_clear cX3_clear 2 (some .int) : Cond) ∈ lw_all := in_all 196 (by decide +kernel) (by decide +kernel)
set_option maxRecDepth 20000 in
theorem wd_197 : (.methodLink RL 122 yX5_firstError : Cond) ∈ lw_all := in_all 197 (by decide +kernel) (by decide +kernel)
set_option maxRecDepth 20000 in
theorem wd_198 : (.instanceMethod yX5_firstError : Cond) ∈ lw_all := in_all 198 (by decide +kernel) (by decide +kernel)
set_option maxRecDepth 20000 in
theorem wd_199 : (.selects RX5 yX5_firstError yX5_firstError : Cond) ∈ lw_all := in_all 199 (by decide +kernel) (by decide +kernel)
set_option maxRecDepth 20000 in
theorem wd_200 : (.code yX5_firstError cX5_firstError 1 (some .int) : Cond) ∈ lw_all := in_all 200 (by decide +kernel) (by decide +kernel)
set_option maxRecDepth 20000 in
theorem wd_201 : (.methodLink RX5 125 yX3_errorIndex : Cond) ∈ lw_all := in_all 201 (by decide +kernel) (by decide +kernel)
set_option maxRecDepth 20000 in
theorem wd_202 : (.instanceMethod yX3_errorIndex : Cond) ∈ lw_all := in_all 202 (by decide +kernel) (by decide +kernel)
set_option maxRecDepth 20000 in
theorem wd_203 : (.selects RX3 yX3_errorIndex yX3_errorIndex : Cond) ∈ lw_all := in_all 203 (by decide +kernel) (by decide +kernel)
set_option maxRecDepth 20000 in
theorem wd_204 : (.code yX3_errorIndex cX3_errorIndex 3 (some .int) : Cond) ∈ lw_all := in_all 204 (by decide +kernel) (by decide +kernel)
set_option maxRecDepth 20000 in
theorem wd_205 : (.methodLink RX3 23 yX3_fits : Cond) ∈ lw_all := in_all 205 (by decide +kernel) (by decide +kernel)
set_option maxRecDepth 20000 in
theorem wd_207 : (.instanceMethod yX3_fits : Cond) ∈ lw_all := in_all 207 (by decide +kernel) (by decide +kernel)
set_option maxRecDepth 20000 in
theorem wd_208 : (.code yX3_fits cX3_fits 5 (some .boolean) : Cond) ∈ lw_all := in_all 208 (by decide +kernel) (by decide +kernel)
set_option maxRecDepth 20000 in
theorem wd_209 : (.methodLink RX3 19 yX3_signAt : Cond) ∈ lw_all := in_all 209 (by decide +kernel) (by decide +kernel)
set_option maxRecDepth 20000 in
theorem wd_210 : (.instanceMethod yX3_signAt : Cond) ∈ lw_all := in_all 210 (by decide +kernel) (by decide +kernel)
set_option maxRecDepth 20000 in
theorem wd_211 : (.selects RX3 yX3_signAt yX3_signAt : Cond) ∈ lw_all := in_all 211 (by decide +kernel) (by decide +kernel)
set_option maxRecDepth 20000 in
theorem wd_212 : (.code yX3_signAt cX3_signAt 2 (some .int) : Cond) ∈ lw_all := in_all 212 (by decide +kernel) (by decide +kernel)
set_option maxRecDepth 20000 in
theorem wd_213 : (.methodLink RX3 31 yX3_isWhole : Cond) ∈ lw_all := in_all 213 (by decide +kernel) (by decide +kernel)
set_option maxRecDepth 20000 in
theorem wd_215 : (.instanceMethod yX3_isWhole : Cond) ∈ lw_all := in_all 215 (by decide +kernel) (by decide +kernel)
set_option maxRecDepth 20000 in
theorem wd_216 : (.code yX3_isWhole cX3_isWhole 4 (some .boolean) : Cond) ∈ lw_all := in_all 216 (by decide +kernel) (by decide +kernel)
set_option maxRecDepth 20000 in
theorem wd_217 : (.methodLink RX3 34 yX3_isDigit : Cond) ∈ lw_all := in_all 217 (by decide +kernel) (by decide +kernel)
set_option maxRecDepth 20000 in
theorem wd_218 : (.static yX3_isDigit : Cond) ∈ lw_all := in_all 218 (by decide +kernel) (by decide +kernel)
set_option maxRecDepth 20000 in
theorem wd_219 : (.code yX3_isDigit cX3_isDigit 1 (some .boolean) : Cond) ∈ lw_all := in_all 219 (by decide +kernel) (by decide +kernel)
set_option maxRecDepth 20000 in
theorem wd_220 : (.methodLink RX3 38 yX3_endsHead : Cond) ∈ lw_all := in_all 220 (by decide +kernel) (by decide +kernel)
set_option maxRecDepth 20000 in
theorem wd_221 : (.static yX3_endsHead : Cond) ∈ lw_all := in_all 221 (by decide +kernel) (by decide +kernel)
set_option maxRecDepth 20000 in
theorem wd_222 : (.code yX3_endsHead cX3_endsHead 2 (some .boolean) : Cond) ∈ lw_all := in_all 222 (by decide +kernel) (by decide +kernel)
set_option maxRecDepth 20000 in
theorem wd_223 : (.methodLink RX3 41 yX3_fitsBehindHead : Cond) ∈ lw_all := in_all 223 (by decide +kernel) (by decide +kernel)
set_option maxRecDepth 20000 in
theorem wd_225 : (.instanceMethod yX3_fitsBehindHead : Cond) ∈ lw_all := in_all 225 (by decide +kernel) (by decide +kernel)
set_option maxRecDepth 20000 in
theorem wd_226 : (.code yX3_fitsBehindHead cX3_fitsBehindHead 4 (some .boolean) : Cond) ∈ lw_all := in_all 226 (by decide +kernel) (by decide +kernel)
set_option maxRecDepth 20000 in
theorem wd_227 : (.methodLink RX3 44 yX3_numberIn : Cond) ∈ lw_all := in_all 227 (by decide +kernel) (by decide +kernel)
set_option maxRecDepth 20000 in
theorem wd_228 : (.instanceMethod yX3_numberIn : Cond) ∈ lw_all := in_all 228 (by decide +kernel) (by decide +kernel)
set_option maxRecDepth 20000 in
theorem wd_229 : (.selects RX3 yX3_numberIn yX3_numberIn : Cond) ∈ lw_all := in_all 229 (by decide +kernel) (by decide +kernel)
set_option maxRecDepth 20000 in
theorem wd_230 : (.code yX3_numberIn cX3_numberIn 5 (some .int) : Cond) ∈ lw_all := in_all 230 (by decide +kernel) (by decide +kernel)
set_option maxRecDepth 20000 in
theorem wd_231 : (.methodLink RL 173 yX5_cashed : Cond) ∈ lw_all := in_all 231 (by decide +kernel) (by decide +kernel)
set_option maxRecDepth 20000 in
theorem wd_232 : (.instanceMethod yX5_cashed : Cond) ∈ lw_all := in_all 232 (by decide +kernel) (by decide +kernel)
set_option maxRecDepth 20000 in
theorem wd_233 : (.selects RX5 yX5_cashed yX5_cashed : Cond) ∈ lw_all := in_all 233 (by decide +kernel) (by decide +kernel)
set_option maxRecDepth 20000 in
theorem wd_234 : (.code yX5_cashed cX5_cashed 2 (some .double) : Cond) ∈ lw_all := in_all 234 (by decide +kernel) (by decide +kernel)
set_option maxRecDepth 20000 in
theorem wd_235 : (.methodLink RX5 194 yX0_numberOfAll : Cond) ∈ lw_all := in_all 235 (by decide +kernel) (by decide +kernel)
set_option maxRecDepth 20000 in
theorem wd_236 : (.instanceMethod yX0_numberOfAll : Cond) ∈ lw_all := in_all 236 (by decide +kernel) (by decide +kernel)
set_option maxRecDepth 20000 in
theorem wd_237 : (.selects RX0 yX0_numberOfAll yX0_numberOfAll : Cond) ∈ lw_all := in_all 237 (by decide +kernel) (by decide +kernel)
set_option maxRecDepth 20000 in
theorem wd_238 : (.code yX0_numberOfAll cX0_numberOfAll 4 (some .int) : Cond) ∈ lw_all := in_all 238 (by decide +kernel) (by decide +kernel)
set_option maxRecDepth 20000 in
theorem wd_239 : (.methodLink RX0 70 yX0_numberOf : Cond) ∈ lw_all := in_all 239 (by decide +kernel) (by decide +kernel)
set_option maxRecDepth 20000 in
theorem wd_240 : (.instanceMethod yX0_numberOf : Cond) ∈ lw_all := in_all 240 (by decide +kernel) (by decide +kernel)
set_option maxRecDepth 20000 in
theorem wd_241 : (.selects RX0 yX0_numberOf yX0_numberOf : Cond) ∈ lw_all := in_all 241 (by decide +kernel) (by decide +kernel)
set_option maxRecDepth 20000 in
theorem wd_242 : (.code yX0_numberOf cX0_numberOf 3 (some .int) : Cond) ∈ lw_all := in_all 242 (by decide +kernel) (by decide +kernel)
set_option maxRecDepth 20000 in
theorem wd_243 : (.methodLink RX0 32 yX0_firstOf : Cond) ∈ lw_all := in_all 243 (by decide +kernel) (by decide +kernel)
set_option maxRecDepth 20000 in
theorem wd_244 : (.instanceMethod yX0_firstOf : Cond) ∈ lw_all := in_all 244 (by decide +kernel) (by decide +kernel)
set_option maxRecDepth 20000 in
theorem wd_245 : (.selects RX0 yX0_firstOf yX0_firstOf : Cond) ∈ lw_all := in_all 245 (by decide +kernel) (by decide +kernel)
set_option maxRecDepth 20000 in
theorem wd_246 : (.code yX0_firstOf cX0_firstOf 2 (some .int) : Cond) ∈ lw_all := in_all 246 (by decide +kernel) (by decide +kernel)
set_option maxRecDepth 20000 in
theorem wd_247 : (.methodLink RX0 36 yX0_sizeOf : Cond) ∈ lw_all := in_all 247 (by decide +kernel) (by decide +kernel)
set_option maxRecDepth 20000 in
theorem wd_248 : (.instanceMethod yX0_sizeOf : Cond) ∈ lw_all := in_all 248 (by decide +kernel) (by decide +kernel)
set_option maxRecDepth 20000 in
theorem wd_249 : (.selects RX0 yX0_sizeOf yX0_sizeOf : Cond) ∈ lw_all := in_all 249 (by decide +kernel) (by decide +kernel)
set_option maxRecDepth 20000 in
theorem wd_250 : (.code yX0_sizeOf cX0_sizeOf 2 (some .int) : Cond) ∈ lw_all := in_all 250 (by decide +kernel) (by decide +kernel)
set_option maxRecDepth 20000 in
theorem wd_251 : (.methodLink RX0 61 yX0_amountsOf : Cond) ∈ lw_all := in_all 251 (by decide +kernel) (by decide +kernel)
set_option maxRecDepth 20000 in
theorem wd_253 : (.instanceMethod yX0_amountsOf : Cond) ∈ lw_all := in_all 253 (by decide +kernel) (by decide +kernel)
set_option maxRecDepth 20000 in
theorem wd_254 : (.code yX0_amountsOf cX0_amountsOf 7 (some .int) : Cond) ∈ lw_all := in_all 254 (by decide +kernel) (by decide +kernel)
set_option maxRecDepth 20000 in
theorem wd_255 : (.methodLink RX0 58 yX0_kindAt : Cond) ∈ lw_all := in_all 255 (by decide +kernel) (by decide +kernel)
set_option maxRecDepth 20000 in
theorem wd_256 : (.instanceMethod yX0_kindAt : Cond) ∈ lw_all := in_all 256 (by decide +kernel) (by decide +kernel)
set_option maxRecDepth 20000 in
theorem wd_257 : (.selects RX0 yX0_kindAt yX0_kindAt : Cond) ∈ lw_all := in_all 257 (by decide +kernel) (by decide +kernel)
set_option maxRecDepth 20000 in
theorem wd_258 : (.code yX0_kindAt cX0_kindAt 2 (some .int) : Cond) ∈ lw_all := in_all 258 (by decide +kernel) (by decide +kernel)
set_option maxRecDepth 20000 in
theorem wd_259 : (.methodLink RX0 43 yX0_amountAt : Cond) ∈ lw_all := in_all 259 (by decide +kernel) (by decide +kernel)
set_option maxRecDepth 20000 in
theorem wd_260 : (.instanceMethod yX0_amountAt : Cond) ∈ lw_all := in_all 260 (by decide +kernel) (by decide +kernel)
set_option maxRecDepth 20000 in
theorem wd_261 : (.selects RX0 yX0_amountAt yX0_amountAt : Cond) ∈ lw_all := in_all 261 (by decide +kernel) (by decide +kernel)
set_option maxRecDepth 20000 in
theorem wd_262 : (.code yX0_amountAt cX0_amountAt 2 (some .int) : Cond) ∈ lw_all := in_all 262 (by decide +kernel) (by decide +kernel)
set_option maxRecDepth 20000 in
theorem wd_263 : (.methodLink RX0 64 yX0_firstBlankOf : Cond) ∈ lw_all := in_all 263 (by decide +kernel) (by decide +kernel)
set_option maxRecDepth 20000 in
theorem wd_265 : (.instanceMethod yX0_firstBlankOf : Cond) ∈ lw_all := in_all 265 (by decide +kernel) (by decide +kernel)
set_option maxRecDepth 20000 in
theorem wd_266 : (.code yX0_firstBlankOf cX0_firstBlankOf 4 (some .int) : Cond) ∈ lw_all := in_all 266 (by decide +kernel) (by decide +kernel)
set_option maxRecDepth 20000 in
theorem wd_267 : (.methodLink RX0 67 yX0_chequesOf : Cond) ∈ lw_all := in_all 267 (by decide +kernel) (by decide +kernel)
set_option maxRecDepth 20000 in
theorem wd_269 : (.instanceMethod yX0_chequesOf : Cond) ∈ lw_all := in_all 269 (by decide +kernel) (by decide +kernel)
set_option maxRecDepth 20000 in
theorem wd_270 : (.code yX0_chequesOf cX0_chequesOf 6 (some .int) : Cond) ∈ lw_all := in_all 270 (by decide +kernel) (by decide +kernel)
set_option maxRecDepth 20000 in
theorem wd_271 : (.methodLink RL 90 yL_weight : Cond) ∈ lw_all := in_all 271 (by decide +kernel) (by decide +kernel)
set_option maxRecDepth 20000 in
theorem wd_272 : (.static yL_weight : Cond) ∈ lw_all := in_all 272 (by decide +kernel) (by decide +kernel)
set_option maxRecDepth 20000 in
theorem wd_274 : (.classLink RL 13 "java/lang/IndexOutOfBoundsException" : Cond) ∈ lw_all := in_all 274 (by decide +kernel) (by decide +kernel)
set_option maxRecDepth 20000 in
theorem wd_275 : (.classLink RL 15 "java/lang/IllegalArgumentException" : Cond) ∈ lw_all := in_all 275 (by decide +kernel) (by decide +kernel)
set_option maxRecDepth 20000 in
theorem wd_276 : (.methodLink RL 7 yX5_weight : Cond) ∈ lw_all := in_all 276 (by decide +kernel) (by decide +kernel)
set_option maxRecDepth 20000 in
theorem wd_277 : (.instanceMethod yX5_weight : Cond) ∈ lw_all := in_all 277 (by decide +kernel) (by decide +kernel)
set_option maxRecDepth 20000 in
theorem wd_278 : (.selects RX5 yX5_weight yX5_weight : Cond) ∈ lw_all := in_all 278 (by decide +kernel) (by decide +kernel)
set_option maxRecDepth 20000 in
theorem wd_279 : (.code yX5_weight cX5_weight 4 (some .int) : Cond) ∈ lw_all := in_all 279 (by decide +kernel) (by decide +kernel)
set_option maxRecDepth 20000 in
theorem wd_280 : (.methodLink RX5 30 yX5_throwIfNoPosition : Cond) ∈ lw_all := in_all 280 (by decide +kernel) (by decide +kernel)
set_option maxRecDepth 20000 in
theorem wd_281 : (.static yX5_throwIfNoPosition : Cond) ∈ lw_all := in_all 281 (by decide +kernel) (by decide +kernel)
set_option maxRecDepth 20000 in
theorem wd_282 : (.code yX5_throwIfNoPosition cX5_throwIfNoPosition 1 none : Cond) ∈ lw_all := in_all 282 (by decide +kernel) (by decide +kernel)
set_option maxRecDepth 20000 in
theorem wd_283 : (.classLink RX5 163 "java/lang/IndexOutOfBoundsException" : Cond) ∈ lw_all := in_all 283 (by decide +kernel) (by decide +kernel)
set_option maxRecDepth 20000 in
theorem wd_284 : (.instantiable "java/lang/IndexOutOfBoundsException" 6 : Cond) ∈ lw_all := in_all 284 (by decide +kernel) (by decide +kernel)
set_option maxRecDepth 20000 in
theorem wd_292 : (.selects "java/lang/IndexOutOfBoundsException" ⟨"java/lang/Throwable", "fillInStackTrace", "(I)Ljava/lang/Throwable;"⟩ ⟨"java/lang/Throwable", "fillInStackTrace", "(I)Ljava/lang/Throwable;"⟩ : Cond) ∈ lw_all := in_all 292 (by decide +kernel) (by decide +kernel)
set_option maxRecDepth 20000 in
theorem wd_293 : (.selects "java/lang/IndexOutOfBoundsException" ⟨"java/lang/Throwable", "fillInStackTrace", "()Ljava/lang/Throwable;"⟩ ⟨"java/lang/Throwable", "fillInStackTrace", "()Ljava/lang/Throwable;"⟩ : Cond) ∈ lw_all := in_all 293 (by decide +kernel) (by decide +kernel)
set_option maxRecDepth 20000 in
theorem wd_304 : (.fieldLink "java/lang/Throwable" 198 "java/lang/Throwable" "backtrace" "Ljava/lang/Object;" : Cond) ∈ lw_all := in_all 304 (by decide +kernel) (by decide +kernel)
set_option maxRecDepth 20000 in
theorem wd_306 : (.instanceMethod ⟨"java/lang/Throwable", "<init>", "()V"⟩ : Cond) ∈ lw_all := in_all 306 (by decide +kernel) (by decide +kernel)
set_option maxRecDepth 20000 in
theorem wd_307 : (.code ⟨"java/lang/Throwable", "<init>", "()V"⟩ prog_16_method_1_code 1 none : Cond) ∈ lw_all := in_all 307 (by decide +kernel) (by decide +kernel)
set_option maxRecDepth 20000 in
theorem wd_308 : (.methodLink "java/lang/Throwable" 1 objectInit : Cond) ∈ lw_all := in_all 308 (by decide +kernel) (by decide +kernel)
set_option maxRecDepth 20000 in
theorem wd_309 : (.fieldLink "java/lang/Throwable" 13 "java/lang/Throwable" "UNASSIGNED_STACK" "[Ljava/lang/StackTraceElement;" : Cond) ∈ lw_all := in_all 309 (by decide +kernel) (by decide +kernel)
set_option maxRecDepth 20000 in
theorem wd_311 : (.fieldLink "java/lang/Throwable" 20 "java/lang/Throwable" "SUPPRESSED_SENTINEL" "Ljava/util/List;" : Cond) ∈ lw_all := in_all 311 (by decide +kernel) (by decide +kernel)
set_option maxRecDepth 20000 in
theorem wd_313 : (.methodLink "java/lang/Throwable" 27 ⟨"java/lang/Throwable", "fillInStackTrace", "()Ljava/lang/Throwable;"⟩ : Cond) ∈ lw_all := in_all 313 (by decide +kernel) (by decide +kernel)
set_option maxRecDepth 20000 in
theorem wd_314 : (.instanceMethod ⟨"java/lang/Throwable", "fillInStackTrace", "()Ljava/lang/Throwable;"⟩ : Cond) ∈ lw_all := in_all 314 (by decide +kernel) (by decide +kernel)
set_option maxRecDepth 20000 in
theorem wd_316 : (.selects "java/lang/IllegalArgumentException" ⟨"java/lang/Throwable", "fillInStackTrace", "()Ljava/lang/Throwable;"⟩ ⟨"java/lang/Throwable", "fillInStackTrace", "()Ljava/lang/Throwable;"⟩ : Cond) ∈ lw_all := in_all 316 (by decide +kernel) (by decide +kernel)
set_option maxRecDepth 20000 in
theorem wd_317 : (.selects "java/lang/IllegalStateException" ⟨"java/lang/Throwable", "fillInStackTrace", "()Ljava/lang/Throwable;"⟩ ⟨"java/lang/Throwable", "fillInStackTrace", "()Ljava/lang/Throwable;"⟩ : Cond) ∈ lw_all := in_all 317 (by decide +kernel) (by decide +kernel)
set_option maxRecDepth 20000 in
theorem wd_319 : (.methodLink "java/lang/Throwable" 202 ⟨"java/lang/Throwable", "fillInStackTrace", "(I)Ljava/lang/Throwable;"⟩ : Cond) ∈ lw_all := in_all 319 (by decide +kernel) (by decide +kernel)
set_option maxRecDepth 20000 in
theorem wd_321 : (.instanceMethod ⟨"java/lang/Throwable", "fillInStackTrace", "(I)Ljava/lang/Throwable;"⟩ : Cond) ∈ lw_all := in_all 321 (by decide +kernel) (by decide +kernel)
set_option maxRecDepth 20000 in
theorem wd_322 : (.instantiable "java/lang/Throwable" 6 : Cond) ∈ lw_all := in_all 322 (by decide +kernel) (by decide +kernel)
set_option maxRecDepth 20000 in
theorem wd_325 : (.methodLink RX5 167 ⟨"java/lang/IndexOutOfBoundsException", "<init>", "(Ljava/lang/String;)V"⟩ : Cond) ∈ lw_all := in_all 325 (by decide +kernel) (by decide +kernel)
set_option maxRecDepth 20000 in
theorem wd_326 : (.instanceMethod ⟨"java/lang/IndexOutOfBoundsException", "<init>", "(Ljava/lang/String;)V"⟩ : Cond) ∈ lw_all := in_all 326 (by decide +kernel) (by decide +kernel)
set_option maxRecDepth 20000 in
theorem wd_327 : (.code ⟨"java/lang/IndexOutOfBoundsException", "<init>", "(Ljava/lang/String;)V"⟩ prog_12_method_2_code 2 none : Cond) ∈ lw_all := in_all 327 (by decide +kernel) (by decide +kernel)
set_option maxRecDepth 20000 in
theorem wd_328 : (.methodLink "java/lang/IndexOutOfBoundsException" 7 ⟨"java/lang/RuntimeException", "<init>", "(Ljava/lang/String;)V"⟩ : Cond) ∈ lw_all := in_all 328 (by decide +kernel) (by decide +kernel)
set_option maxRecDepth 20000 in
theorem wd_329 : (.instanceMethod ⟨"java/lang/RuntimeException", "<init>", "(Ljava/lang/String;)V"⟩ : Cond) ∈ lw_all := in_all 329 (by decide +kernel) (by decide +kernel)
set_option maxRecDepth 20000 in
theorem wd_330 : (.code ⟨"java/lang/RuntimeException", "<init>", "(Ljava/lang/String;)V"⟩ prog_14_method_2_code 2 none : Cond) ∈ lw_all := in_all 330 (by decide +kernel) (by decide +kernel)
set_option maxRecDepth 20000 in
theorem wd_331 : (.methodLink "java/lang/RuntimeException" 7 ⟨"java/lang/Exception", "<init>", "(Ljava/lang/String;)V"⟩ : Cond) ∈ lw_all := in_all 331 (by decide +kernel) (by decide +kernel)
set_option maxRecDepth 20000 in
theorem wd_332 : (.instanceMethod ⟨"java/lang/Exception", "<init>", "(Ljava/lang/String;)V"⟩ : Cond) ∈ lw_all := in_all 332 (by decide +kernel) (by decide +kernel)
set_option maxRecDepth 20000 in
theorem wd_333 : (.code ⟨"java/lang/Exception", "<init>", "(Ljava/lang/String;)V"⟩ prog_9_method_2_code 2 none : Cond) ∈ lw_all := in_all 333 (by decide +kernel) (by decide +kernel)
set_option maxRecDepth 20000 in
theorem wd_334 : (.methodLink "java/lang/Exception" 7 ⟨"java/lang/Throwable", "<init>", "(Ljava/lang/String;)V"⟩ : Cond) ∈ lw_all := in_all 334 (by decide +kernel) (by decide +kernel)
set_option maxRecDepth 20000 in
theorem wd_335 : (.instanceMethod ⟨"java/lang/Throwable", "<init>", "(Ljava/lang/String;)V"⟩ : Cond) ∈ lw_all := in_all 335 (by decide +kernel) (by decide +kernel)
set_option maxRecDepth 20000 in
theorem wd_336 : (.code ⟨"java/lang/Throwable", "<init>", "(Ljava/lang/String;)V"⟩ prog_16_method_2_code 2 none : Cond) ∈ lw_all := in_all 336 (by decide +kernel) (by decide +kernel)
set_option maxRecDepth 20000 in
theorem wd_338 : (.fieldLink "java/lang/Throwable" 31 "java/lang/Throwable" "detailMessage" "Ljava/lang/String;" : Cond) ∈ lw_all := in_all 338 (by decide +kernel) (by decide +kernel)
set_option maxRecDepth 20000 in
theorem wd_339 : (.fieldLink "java/lang/Throwable" 7 "java/lang/Throwable" "cause" "Ljava/lang/Throwable;" : Cond) ∈ lw_all := in_all 339 (by decide +kernel) (by decide +kernel)
set_option maxRecDepth 20000 in
theorem wd_340 : (.fieldLink "java/lang/Throwable" 17 "java/lang/Throwable" "stackTrace" "[Ljava/lang/StackTraceElement;" : Cond) ∈ lw_all := in_all 340 (by decide +kernel) (by decide +kernel)
set_option maxRecDepth 20000 in
theorem wd_341 : (.fieldLink "java/lang/Throwable" 24 "java/lang/Throwable" "suppressedExceptions" "Ljava/util/List;" : Cond) ∈ lw_all := in_all 341 (by decide +kernel) (by decide +kernel)
set_option maxRecDepth 20000 in
theorem wd_350 : (.arrayClass .byte : Cond) ∈ lw_all := in_all 350 (by decide +kernel) (by decide +kernel)
set_option maxRecDepth 20000 in
theorem wd_351 : (.classLink RX5 34 "java/lang/IllegalArgumentException" : Cond) ∈ lw_all := in_all 351 (by decide +kernel) (by decide +kernel)
set_option maxRecDepth 20000 in
theorem wd_352 : (.instantiable "java/lang/IllegalArgumentException" 6 : Cond) ∈ lw_all := in_all 352 (by decide +kernel) (by decide +kernel)
set_option maxRecDepth 20000 in
theorem wd_354 : (.selects "java/lang/IllegalArgumentException" ⟨"java/lang/Throwable", "fillInStackTrace", "(I)Ljava/lang/Throwable;"⟩ ⟨"java/lang/Throwable", "fillInStackTrace", "(I)Ljava/lang/Throwable;"⟩ : Cond) ∈ lw_all := in_all 354 (by decide +kernel) (by decide +kernel)
set_option maxRecDepth 20000 in
theorem wd_361 : (.methodLink RX5 38 ⟨"java/lang/IllegalArgumentException", "<init>", "(Ljava/lang/String;)V"⟩ : Cond) ∈ lw_all := in_all 361 (by decide +kernel) (by decide +kernel)
set_option maxRecDepth 20000 in
theorem wd_362 : (.instanceMethod ⟨"java/lang/IllegalArgumentException", "<init>", "(Ljava/lang/String;)V"⟩ : Cond) ∈ lw_all := in_all 362 (by decide +kernel) (by decide +kernel)
set_option maxRecDepth 20000 in
theorem wd_363 : (.code ⟨"java/lang/IllegalArgumentException", "<init>", "(Ljava/lang/String;)V"⟩ prog_10_method_2_code 2 none : Cond) ∈ lw_all := in_all 363 (by decide +kernel) (by decide +kernel)
set_option maxRecDepth 20000 in
theorem wd_364 : (.methodLink "java/lang/IllegalArgumentException" 7 ⟨"java/lang/RuntimeException", "<init>", "(Ljava/lang/String;)V"⟩ : Cond) ∈ lw_all := in_all 364 (by decide +kernel) (by decide +kernel)
set_option maxRecDepth 20000 in
theorem wd_367 : (.methodLink RX5 41 yX1_save : Cond) ∈ lw_all := in_all 367 (by decide +kernel) (by decide +kernel)
set_option maxRecDepth 20000 in
theorem wd_368 : (.instanceMethod yX1_save : Cond) ∈ lw_all := in_all 368 (by decide +kernel) (by decide +kernel)
set_option maxRecDepth 20000 in
theorem wd_369 : (.selects RX1 yX1_save yX1_save : Cond) ∈ lw_all := in_all 369 (by decide +kernel) (by decide +kernel)
set_option maxRecDepth 20000 in
theorem wd_370 : (.code yX1_save cX1_save 2 none : Cond) ∈ lw_all := in_all 370 (by decide +kernel) (by decide +kernel)
set_option maxRecDepth 20000 in
theorem wd_371 : (.methodLink RX1 29 yX1_dropOldest : Cond) ∈ lw_all := in_all 371 (by decide +kernel) (by decide +kernel)
set_option maxRecDepth 20000 in
theorem wd_373 : (.instanceMethod yX1_dropOldest : Cond) ∈ lw_all := in_all 373 (by decide +kernel) (by decide +kernel)
set_option maxRecDepth 20000 in
theorem wd_374 : (.code yX1_dropOldest cX1_dropOldest 3 none : Cond) ∈ lw_all := in_all 374 (by decide +kernel) (by decide +kernel)
set_option maxRecDepth 20000 in
theorem wd_375 : (.methodLink RX1 32 yX1_copyState : Cond) ∈ lw_all := in_all 375 (by decide +kernel) (by decide +kernel)
set_option maxRecDepth 20000 in
theorem wd_376 : (.static yX1_copyState : Cond) ∈ lw_all := in_all 376 (by decide +kernel) (by decide +kernel)
set_option maxRecDepth 20000 in
theorem wd_377 : (.code yX1_copyState cX1_copyState 2 none : Cond) ∈ lw_all := in_all 377 (by decide +kernel) (by decide +kernel)
set_option maxRecDepth 20000 in
theorem wd_378 : (.methodLink RX1 36 yX4_copyFrom : Cond) ∈ lw_all := in_all 378 (by decide +kernel) (by decide +kernel)
set_option maxRecDepth 20000 in
theorem wd_379 : (.instanceMethod yX4_copyFrom : Cond) ∈ lw_all := in_all 379 (by decide +kernel) (by decide +kernel)
set_option maxRecDepth 20000 in
theorem wd_380 : (.selects RX4 yX4_copyFrom yX4_copyFrom : Cond) ∈ lw_all := in_all 380 (by decide +kernel) (by decide +kernel)
set_option maxRecDepth 20000 in
theorem wd_381 : (.code yX4_copyFrom cX4_copyFrom 2 none : Cond) ∈ lw_all := in_all 381 (by decide +kernel) (by decide +kernel)
set_option maxRecDepth 20000 in
theorem wd_382 : (.methodLink RX4 25 yX2_copyFrom : Cond) ∈ lw_all := in_all 382 (by decide +kernel) (by decide +kernel)
set_option maxRecDepth 20000 in
theorem wd_383 : (.instanceMethod yX2_copyFrom : Cond) ∈ lw_all := in_all 383 (by decide +kernel) (by decide +kernel)
set_option maxRecDepth 20000 in
theorem wd_384 : (.selects RX2 yX2_copyFrom yX2_copyFrom : Cond) ∈ lw_all := in_all 384 (by decide +kernel) (by decide +kernel)
set_option maxRecDepth 20000 in
theorem wd_385 : (.code yX2_copyFrom cX2_copyFrom 2 none : Cond) ∈ lw_all := in_all 385 (by decide +kernel) (by decide +kernel)
set_option maxRecDepth 20000 in
theorem wd_387 : (.static yX5_copyRow : Cond) ∈ lw_all := in_all 387 (by decide +kernel) (by decide +kernel)
set_option maxRecDepth 20000 in
theorem wd_388 : (.code yX5_copyRow cX5_copyRow 3 none : Cond) ∈ lw_all := in_all 388 (by decide +kernel) (by decide +kernel)
set_option maxRecDepth 20000 in
theorem wd_389 : (.methodLink RX4 29 yX0_copyFrom : Cond) ∈ lw_all := in_all 389 (by decide +kernel) (by decide +kernel)
set_option maxRecDepth 20000 in
theorem wd_390 : (.instanceMethod yX0_copyFrom : Cond) ∈ lw_all := in_all 390 (by decide +kernel) (by decide +kernel)
set_option maxRecDepth 20000 in
theorem wd_391 : (.selects RX0 yX0_copyFrom yX0_copyFrom : Cond) ∈ lw_all := in_all 391 (by decide +kernel) (by decide +kernel)
set_option maxRecDepth 20000 in
theorem wd_392 : (.code yX0_copyFrom cX0_copyFrom 2 none : Cond) ∈ lw_all := in_all 392 (by decide +kernel) (by decide +kernel)
set_option maxRecDepth 20000 in
theorem wd_394 : (.methodLink RX5 49 yX2_weightAt : Cond) ∈ lw_all := in_all 394 (by decide +kernel) (by decide +kernel)
set_option maxRecDepth 20000 in
theorem wd_395 : (.instanceMethod yX2_weightAt : Cond) ∈ lw_all := in_all 395 (by decide +kernel) (by decide +kernel)
set_option maxRecDepth 20000 in
theorem wd_396 : (.selects RX2 yX2_weightAt yX2_weightAt : Cond) ∈ lw_all := in_all 396 (by decide +kernel) (by decide +kernel)
set_option maxRecDepth 20000 in
theorem wd_397 : (.code yX2_weightAt cX2_weightAt 2 (some .int) : Cond) ∈ lw_all := in_all 397 (by decide +kernel) (by decide +kernel)
set_option maxRecDepth 20000 in
theorem wd_398 : (.methodLink RX5 55 yX2_setWeight : Cond) ∈ lw_all := in_all 398 (by decide +kernel) (by decide +kernel)
set_option maxRecDepth 20000 in
theorem wd_399 : (.instanceMethod yX2_setWeight : Cond) ∈ lw_all := in_all 399 (by decide +kernel) (by decide +kernel)
set_option maxRecDepth 20000 in
theorem wd_400 : (.selects RX2 yX2_setWeight yX2_setWeight : Cond) ∈ lw_all := in_all 400 (by decide +kernel) (by decide +kernel)
set_option maxRecDepth 20000 in
theorem wd_401 : (.code yX2_setWeight cX2_setWeight 3 none : Cond) ∈ lw_all := in_all 401 (by decide +kernel) (by decide +kernel)
set_option maxRecDepth 20000 in
theorem wd_402 : (.methodLink RL 99 yL_modulus : Cond) ∈ lw_all := in_all 402 (by decide +kernel) (by decide +kernel)
set_option maxRecDepth 20000 in
theorem wd_403 : (.static yL_modulus : Cond) ∈ lw_all := in_all 403 (by decide +kernel) (by decide +kernel)
set_option maxRecDepth 20000 in
theorem wd_405 : (.methodLink RL 17 yX5_modulus : Cond) ∈ lw_all := in_all 405 (by decide +kernel) (by decide +kernel)
set_option maxRecDepth 20000 in
theorem wd_406 : (.instanceMethod yX5_modulus : Cond) ∈ lw_all := in_all 406 (by decide +kernel) (by decide +kernel)
set_option maxRecDepth 20000 in
theorem wd_407 : (.selects RX5 yX5_modulus yX5_modulus : Cond) ∈ lw_all := in_all 407 (by decide +kernel) (by decide +kernel)
set_option maxRecDepth 20000 in
theorem wd_408 : (.code yX5_modulus cX5_modulus 3 (some .int) : Cond) ∈ lw_all := in_all 408 (by decide +kernel) (by decide +kernel)
set_option maxRecDepth 20000 in
theorem wd_410 : (.methodLink RL 103 yL_book : Cond) ∈ lw_all := in_all 410 (by decide +kernel) (by decide +kernel)
set_option maxRecDepth 20000 in
theorem wd_411 : (.static yL_book : Cond) ∈ lw_all := in_all 411 (by decide +kernel) (by decide +kernel)
set_option maxRecDepth 20000 in
theorem wd_413 : (.classLink RL 24 "java/lang/IllegalStateException" : Cond) ∈ lw_all := in_all 413 (by decide +kernel) (by decide +kernel)
set_option maxRecDepth 20000 in
theorem wd_414 : (.methodLink RL 21 yX5_book : Cond) ∈ lw_all := in_all 414 (by decide +kernel) (by decide +kernel)
set_option maxRecDepth 20000 in
theorem wd_415 : (.instanceMethod yX5_book : Cond) ∈ lw_all := in_all 415 (by decide +kernel) (by decide +kernel)
set_option maxRecDepth 20000 in
theorem wd_416 : (.selects RX5 yX5_book yX5_book : Cond) ∈ lw_all := in_all 416 (by decide +kernel) (by decide +kernel)
set_option maxRecDepth 20000 in
theorem wd_417 : (.code yX5_book cX5_book 3 (some .int) : Cond) ∈ lw_all := in_all 417 (by decide +kernel) (by decide +kernel)
set_option maxRecDepth 20000 in
theorem wd_418 : (.methodLink RX5 65 yX5_faultOfBook : Cond) ∈ lw_all := in_all 418 (by decide +kernel) (by decide +kernel)
set_option maxRecDepth 20000 in
theorem wd_420 : (.instanceMethod yX5_faultOfBook : Cond) ∈ lw_all := in_all 420 (by decide +kernel) (by decide +kernel)
set_option maxRecDepth 20000 in
theorem wd_421 : (.code yX5_faultOfBook cX5_faultOfBook 3 (some .int) : Cond) ∈ lw_all := in_all 421 (by decide +kernel) (by decide +kernel)
set_option maxRecDepth 20000 in
theorem wd_422 : (.methodLink RX5 242 yX5_isSerial : Cond) ∈ lw_all := in_all 422 (by decide +kernel) (by decide +kernel)
set_option maxRecDepth 20000 in
theorem wd_423 : (.static yX5_isSerial : Cond) ∈ lw_all := in_all 423 (by decide +kernel) (by decide +kernel)
set_option maxRecDepth 20000 in
theorem wd_424 : (.code yX5_isSerial cX5_isSerial 1 (some .boolean) : Cond) ∈ lw_all := in_all 424 (by decide +kernel) (by decide +kernel)
set_option maxRecDepth 20000 in
theorem wd_425 : (.constant RX5 259 (1000000) : Cond) ∈ lw_all := in_all 425 (by decide +kernel) (by decide +kernel)
set_option maxRecDepth 20000 in
theorem wd_426 : (.methodLink RX5 260 yX0_canTake : Cond) ∈ lw_all := in_all 426 (by decide +kernel) (by decide +kernel)
set_option maxRecDepth 20000 in
theorem wd_427 : (.instanceMethod yX0_canTake : Cond) ∈ lw_all := in_all 427 (by decide +kernel) (by decide +kernel)
set_option maxRecDepth 20000 in
theorem wd_428 : (.selects RX0 yX0_canTake yX0_canTake : Cond) ∈ lw_all := in_all 428 (by decide +kernel) (by decide +kernel)
set_option maxRecDepth 20000 in
theorem wd_429 : (.code yX0_canTake cX0_canTake 5 (some .boolean) : Cond) ∈ lw_all := in_all 429 (by decide +kernel) (by decide +kernel)
set_option maxRecDepth 20000 in
theorem wd_430 : (.methodLink RX5 69 yX5_throwIfFaulty : Cond) ∈ lw_all := in_all 430 (by decide +kernel) (by decide +kernel)
set_option maxRecDepth 20000 in
theorem wd_431 : (.static yX5_throwIfFaulty : Cond) ∈ lw_all := in_all 431 (by decide +kernel) (by decide +kernel)
set_option maxRecDepth 20000 in
theorem wd_432 : (.code yX5_throwIfFaulty cX5_throwIfFaulty 1 none : Cond) ∈ lw_all := in_all 432 (by decide +kernel) (by decide +kernel)
set_option maxRecDepth 20000 in
theorem wd_435 : (.classLink RX5 114 "java/lang/IllegalStateException" : Cond) ∈ lw_all := in_all 435 (by decide +kernel) (by decide +kernel)
set_option maxRecDepth 20000 in
theorem wd_436 : (.instantiable "java/lang/IllegalStateException" 6 : Cond) ∈ lw_all := in_all 436 (by decide +kernel) (by decide +kernel)
set_option maxRecDepth 20000 in
theorem wd_438 : (.selects "java/lang/IllegalStateException" ⟨"java/lang/Throwable", "fillInStackTrace", "(I)Ljava/lang/Throwable;"⟩ ⟨"java/lang/Throwable", "fillInStackTrace", "(I)Ljava/lang/Throwable;"⟩ : Cond) ∈ lw_all := in_all 438 (by decide +kernel) (by decide +kernel)
set_option maxRecDepth 20000 in
theorem wd_445 : (.methodLink RX5 118 ⟨"java/lang/IllegalStateException", "<init>", "(Ljava/lang/String;)V"⟩ : Cond) ∈ lw_all := in_all 445 (by decide +kernel) (by decide +kernel)
set_option maxRecDepth 20000 in
theorem wd_446 : (.instanceMethod ⟨"java/lang/IllegalStateException", "<init>", "(Ljava/lang/String;)V"⟩ : Cond) ∈ lw_all := in_all 446 (by decide +kernel) (by decide +kernel)
set_option maxRecDepth 20000 in
theorem wd_447 : (.code ⟨"java/lang/IllegalStateException", "<init>", "(Ljava/lang/String;)V"⟩ prog_11_method_2_code 2 none : Cond) ∈ lw_all := in_all 447 (by decide +kernel) (by decide +kernel)
set_option maxRecDepth 20000 in
theorem wd_448 : (.methodLink "java/lang/IllegalStateException" 7 ⟨"java/lang/RuntimeException", "<init>", "(Ljava/lang/String;)V"⟩ : Cond) ∈ lw_all := in_all 448 (by decide +kernel) (by decide +kernel)
set_option maxRecDepth 20000 in
theorem wd_451 : (.methodLink RX5 76 yX0_add : Cond) ∈ lw_all := in_all 451 (by decide +kernel) (by decide +kernel)
set_option maxRecDepth 20000 in
theorem wd_452 : (.instanceMethod yX0_add : Cond) ∈ lw_all := in_all 452 (by decide +kernel) (by decide +kernel)
set_option maxRecDepth 20000 in
theorem wd_453 : (.selects RX0 yX0_add yX0_add : Cond) ∈ lw_all := in_all 453 (by decide +kernel) (by decide +kernel)
set_option maxRecDepth 20000 in
theorem wd_454 : (.code yX0_add cX0_add 5 (some .int) : Cond) ∈ lw_all := in_all 454 (by decide +kernel) (by decide +kernel)
set_option maxRecDepth 20000 in
theorem wd_455 : (.methodLink RX0 39 yX0_setCell : Cond) ∈ lw_all := in_all 455 (by decide +kernel) (by decide +kernel)
set_option maxRecDepth 20000 in
theorem wd_457 : (.instanceMethod yX0_setCell : Cond) ∈ lw_all := in_all 457 (by decide +kernel) (by decide +kernel)
set_option maxRecDepth 20000 in
theorem wd_458 : (.code yX0_setCell cX0_setCell 4 none : Cond) ∈ lw_all := in_all 458 (by decide +kernel) (by decide +kernel)
set_option maxRecDepth 20000 in
theorem wd_459 : (.methodLink RL 106 yL_write : Cond) ∈ lw_all := in_all 459 (by decide +kernel) (by decide +kernel)
set_option maxRecDepth 20000 in
theorem wd_460 : (.static yL_write : Cond) ∈ lw_all := in_all 460 (by decide +kernel) (by decide +kernel)
set_option maxRecDepth 20000 in
theorem wd_462 : (.methodLink RL 26 yX5_write : Cond) ∈ lw_all := in_all 462 (by decide +kernel) (by decide +kernel)
set_option maxRecDepth 20000 in
theorem wd_463 : (.instanceMethod yX5_write : Cond) ∈ lw_all := in_all 463 (by decide +kernel) (by decide +kernel)
set_option maxRecDepth 20000 in
theorem wd_464 : (.selects RX5 yX5_write yX5_write : Cond) ∈ lw_all := in_all 464 (by decide +kernel) (by decide +kernel)
set_option maxRecDepth 20000 in
theorem wd_465 : (.code yX5_write cX5_write 3 (some .int) : Cond) ∈ lw_all := in_all 465 (by decide +kernel) (by decide +kernel)
set_option maxRecDepth 20000 in
theorem wd_466 : (.methodLink RX5 81 yX5_faultOfWriting : Cond) ∈ lw_all := in_all 466 (by decide +kernel) (by decide +kernel)
set_option maxRecDepth 20000 in
theorem wd_468 : (.instanceMethod yX5_faultOfWriting : Cond) ∈ lw_all := in_all 468 (by decide +kernel) (by decide +kernel)
set_option maxRecDepth 20000 in
theorem wd_469 : (.code yX5_faultOfWriting cX5_faultOfWriting 4 (some .int) : Cond) ∈ lw_all := in_all 469 (by decide +kernel) (by decide +kernel)
set_option maxRecDepth 20000 in
theorem wd_470 : (.methodLink RX5 84 yX0_cellOf : Cond) ∈ lw_all := in_all 470 (by decide +kernel) (by decide +kernel)
set_option maxRecDepth 20000 in
theorem wd_471 : (.instanceMethod yX0_cellOf : Cond) ∈ lw_all := in_all 471 (by decide +kernel) (by decide +kernel)
set_option maxRecDepth 20000 in
theorem wd_472 : (.selects RX0 yX0_cellOf yX0_cellOf : Cond) ∈ lw_all := in_all 472 (by decide +kernel) (by decide +kernel)
set_option maxRecDepth 20000 in
theorem wd_473 : (.code yX0_cellOf cX0_cellOf 4 (some .int) : Cond) ∈ lw_all := in_all 473 (by decide +kernel) (by decide +kernel)
set_option maxRecDepth 20000 in
theorem wd_474 : (.methodLink RX5 168 yX0_kindAt : Cond) ∈ lw_all := in_all 474 (by decide +kernel) (by decide +kernel)
set_option maxRecDepth 20000 in
theorem wd_475 : (.methodLink RX5 87 yX0_makeWritten : Cond) ∈ lw_all := in_all 475 (by decide +kernel) (by decide +kernel)
set_option maxRecDepth 20000 in
theorem wd_476 : (.instanceMethod yX0_makeWritten : Cond) ∈ lw_all := in_all 476 (by decide +kernel) (by decide +kernel)
set_option maxRecDepth 20000 in
theorem wd_477 : (.selects RX0 yX0_makeWritten yX0_makeWritten : Cond) ∈ lw_all := in_all 477 (by decide +kernel) (by decide +kernel)
set_option maxRecDepth 20000 in
theorem wd_478 : (.code yX0_makeWritten cX0_makeWritten 3 none : Cond) ∈ lw_all := in_all 478 (by decide +kernel) (by decide +kernel)
set_option maxRecDepth 20000 in
theorem wd_479 : (.methodLink RX5 90 yX2_letterOf : Cond) ∈ lw_all := in_all 479 (by decide +kernel) (by decide +kernel)
set_option maxRecDepth 20000 in
theorem wd_480 : (.instanceMethod yX2_letterOf : Cond) ∈ lw_all := in_all 480 (by decide +kernel) (by decide +kernel)
set_option maxRecDepth 20000 in
theorem wd_481 : (.selects RX2 yX2_letterOf yX2_letterOf : Cond) ∈ lw_all := in_all 481 (by decide +kernel) (by decide +kernel)
set_option maxRecDepth 20000 in
theorem wd_482 : (.code yX2_letterOf cX2_letterOf 5 (some .int) : Cond) ∈ lw_all := in_all 482 (by decide +kernel) (by decide +kernel)
set_option maxRecDepth 20000 in
theorem wd_483 : (.methodLink RX2 23 yX2_weightAt : Cond) ∈ lw_all := in_all 483 (by decide +kernel) (by decide +kernel)
set_option maxRecDepth 20000 in
theorem wd_484 : (.methodLink RX2 27 yX2_restOf : Cond) ∈ lw_all := in_all 484 (by decide +kernel) (by decide +kernel)
set_option maxRecDepth 20000 in
theorem wd_486 : (.instanceMethod yX2_restOf : Cond) ∈ lw_all := in_all 486 (by decide +kernel) (by decide +kernel)
set_option maxRecDepth 20000 in
theorem wd_487 : (.code yX2_restOf cX2_restOf 3 (some .int) : Cond) ∈ lw_all := in_all 487 (by decide +kernel) (by decide +kernel)
set_option maxRecDepth 20000 in
theorem wd_488 : (.methodLink RL 109 yL_cash : Cond) ∈ lw_all := in_all 488 (by decide +kernel) (by decide +kernel)
set_option maxRecDepth 20000 in
theorem wd_489 : (.static yL_cash : Cond) ∈ lw_all := in_all 489 (by decide +kernel) (by decide +kernel)
set_option maxRecDepth 20000 in
theorem wd_491 : (.methodLink RL 29 yX5_cash : Cond) ∈ lw_all := in_all 491 (by decide +kernel) (by decide +kernel)
set_option maxRecDepth 20000 in
theorem wd_492 : (.instanceMethod yX5_cash : Cond) ∈ lw_all := in_all 492 (by decide +kernel) (by decide +kernel)
set_option maxRecDepth 20000 in
theorem wd_493 : (.selects RX5 yX5_cash yX5_cash : Cond) ∈ lw_all := in_all 493 (by decide +kernel) (by decide +kernel)
set_option maxRecDepth 20000 in
theorem wd_494 : (.code yX5_cash cX5_cash 3 (some .int) : Cond) ∈ lw_all := in_all 494 (by decide +kernel) (by decide +kernel)
set_option maxRecDepth 20000 in
theorem wd_495 : (.methodLink RX5 93 yX5_throwIfNoSerial : Cond) ∈ lw_all := in_all 495 (by decide +kernel) (by decide +kernel)
set_option maxRecDepth 20000 in
theorem wd_496 : (.static yX5_throwIfNoSerial : Cond) ∈ lw_all := in_all 496 (by decide +kernel) (by decide +kernel)
set_option maxRecDepth 20000 in
theorem wd_497 : (.code yX5_throwIfNoSerial cX5_throwIfNoSerial 1 none : Cond) ∈ lw_all := in_all 497 (by decide +kernel) (by decide +kernel)
set_option maxRecDepth 20000 in
theorem wd_499 : (.methodLink RX5 96 yX5_throwIfNoLetter : Cond) ∈ lw_all := in_all 499 (by decide +kernel) (by decide +kernel)
set_option maxRecDepth 20000 in
theorem wd_500 : (.static yX5_throwIfNoLetter : Cond) ∈ lw_all := in_all 500 (by decide +kernel) (by decide +kernel)
set_option maxRecDepth 20000 in
theorem wd_501 : (.code yX5_throwIfNoLetter cX5_throwIfNoLetter 1 none : Cond) ∈ lw_all := in_all 501 (by decide +kernel) (by decide +kernel)
set_option maxRecDepth 20000 in
theorem wd_503 : (.methodLink RX5 99 yX4_cashByReading : Cond) ∈ lw_all := in_all 503 (by decide +kernel) (by decide +kernel)
set_option maxRecDepth 20000 in
theorem wd_504 : (.instanceMethod yX4_cashByReading : Cond) ∈ lw_all := in_all 504 (by decide +kernel) (by decide +kernel)
set_option maxRecDepth 20000 in
theorem wd_505 : (.selects RX4 yX4_cashByReading yX4_cashByReading : Cond) ∈ lw_all := in_all 505 (by decide +kernel) (by decide +kernel)
set_option maxRecDepth 20000 in
theorem wd_506 : (.code yX4_cashByReading cX4_cashByReading 5 (some .int) : Cond) ∈ lw_all := in_all 506 (by decide +kernel) (by decide +kernel)
set_option maxRecDepth 20000 in
theorem wd_507 : (.methodLink RX4 36 yX4_reasonAgainstCashing : Cond) ∈ lw_all := in_all 507 (by decide +kernel) (by decide +kernel)
set_option maxRecDepth 20000 in
theorem wd_509 : (.instanceMethod yX4_reasonAgainstCashing : Cond) ∈ lw_all := in_all 509 (by decide +kernel) (by decide +kernel)
set_option maxRecDepth 20000 in
theorem wd_510 : (.code yX4_reasonAgainstCashing cX4_reasonAgainstCashing 4 (some .int) : Cond) ∈ lw_all := in_all 510 (by decide +kernel) (by decide +kernel)
set_option maxRecDepth 20000 in
theorem wd_511 : (.methodLink RX4 51 yX2_letterOf : Cond) ∈ lw_all := in_all 511 (by decide +kernel) (by decide +kernel)
set_option maxRecDepth 20000 in
theorem wd_512 : (.methodLink RX4 40 yX0_cellOf : Cond) ∈ lw_all := in_all 512 (by decide +kernel) (by decide +kernel)
set_option maxRecDepth 20000 in
theorem wd_513 : (.methodLink RX4 54 yX0_kindAt : Cond) ∈ lw_all := in_all 513 (by decide +kernel) (by decide +kernel)
set_option maxRecDepth 20000 in
theorem wd_514 : (.methodLink RX4 44 yX0_makeCashed : Cond) ∈ lw_all := in_all 514 (by decide +kernel) (by decide +kernel)
set_option maxRecDepth 20000 in
theorem wd_515 : (.instanceMethod yX0_makeCashed : Cond) ∈ lw_all := in_all 515 (by decide +kernel) (by decide +kernel)
set_option maxRecDepth 20000 in
theorem wd_516 : (.selects RX0 yX0_makeCashed yX0_makeCashed : Cond) ∈ lw_all := in_all 516 (by decide +kernel) (by decide +kernel)
set_option maxRecDepth 20000 in
theorem wd_517 : (.code yX0_makeCashed cX0_makeCashed 2 none : Cond) ∈ lw_all := in_all 517 (by decide +kernel) (by decide +kernel)
set_option maxRecDepth 20000 in
theorem wd_518 : (.methodLink RX4 48 yX0_amountAt : Cond) ∈ lw_all := in_all 518 (by decide +kernel) (by decide +kernel)
set_option maxRecDepth 20000 in
theorem wd_519 : (.methodLink RL 112 yL_voidRun : Cond) ∈ lw_all := in_all 519 (by decide +kernel) (by decide +kernel)
set_option maxRecDepth 20000 in
theorem wd_520 : (.static yL_voidRun : Cond) ∈ lw_all := in_all 520 (by decide +kernel) (by decide +kernel)
set_option maxRecDepth 20000 in
theorem wd_522 : (.methodLink RL 32 yX5_voidRun : Cond) ∈ lw_all := in_all 522 (by decide +kernel) (by decide +kernel)
set_option maxRecDepth 20000 in
theorem wd_523 : (.instanceMethod yX5_voidRun : Cond) ∈ lw_all := in_all 523 (by decide +kernel) (by decide +kernel)
set_option maxRecDepth 20000 in
theorem wd_524 : (.selects RX5 yX5_voidRun yX5_voidRun : Cond) ∈ lw_all := in_all 524 (by decide +kernel) (by decide +kernel)
set_option maxRecDepth 20000 in
theorem wd_525 : (.code yX5_voidRun cX5_voidRun 3 (some .int) : Cond) ∈ lw_all := in_all 525 (by decide +kernel) (by decide +kernel)
set_option maxRecDepth 20000 in
theorem wd_526 : (.methodLink RX5 102 yX5_faultOfRun : Cond) ∈ lw_all := in_all 526 (by decide +kernel) (by decide +kernel)
set_option maxRecDepth 20000 in
theorem wd_527 : (.static yX5_faultOfRun : Cond) ∈ lw_all := in_all 527 (by decide +kernel) (by decide +kernel)
set_option maxRecDepth 20000 in
theorem wd_528 : (.code yX5_faultOfRun cX5_faultOfRun 2 (some .int) : Cond) ∈ lw_all := in_all 528 (by decide +kernel) (by decide +kernel)
set_option maxRecDepth 20000 in
theorem wd_529 : (.methodLink RX5 105 yX0_makeRunVoid : Cond) ∈ lw_all := in_all 529 (by decide +kernel) (by decide +kernel)
set_option maxRecDepth 20000 in
theorem wd_530 : (.instanceMethod yX0_makeRunVoid : Cond) ∈ lw_all := in_all 530 (by decide +kernel) (by decide +kernel)
set_option maxRecDepth 20000 in
theorem wd_531 : (.selects RX0 yX0_makeRunVoid yX0_makeRunVoid : Cond) ∈ lw_all := in_all 531 (by decide +kernel) (by decide +kernel)
set_option maxRecDepth 20000 in
theorem wd_532 : (.code yX0_makeRunVoid cX0_makeRunVoid 8 (some .int) : Cond) ∈ lw_all := in_all 532 (by decide +kernel) (by decide +kernel)
set_option maxRecDepth 20000 in
theorem wd_533 : (.methodLink RX0 46 Lib.Math.min.name : Cond) ∈ lw_all := in_all 533 (by decide +kernel) (by decide +kernel)
set_option maxRecDepth 20000 in
theorem wd_534 : (.static Lib.Math.min.name : Cond) ∈ lw_all := in_all 534 (by decide +kernel) (by decide +kernel)
set_option maxRecDepth 20000 in
theorem wd_535 : (.code Lib.Math.min.name Lib.Math.min.code 2 (some .int) : Cond) ∈ lw_all := in_all 535 (by decide +kernel) (by decide +kernel)
set_option maxRecDepth 20000 in
theorem wd_536 : (.methodLink RX0 52 Lib.Math.max.name : Cond) ∈ lw_all := in_all 536 (by decide +kernel) (by decide +kernel)
set_option maxRecDepth 20000 in
theorem wd_537 : (.static Lib.Math.max.name : Cond) ∈ lw_all := in_all 537 (by decide +kernel) (by decide +kernel)
set_option maxRecDepth 20000 in
theorem wd_538 : (.code Lib.Math.max.name Lib.Math.max.code 2 (some .int) : Cond) ∈ lw_all := in_all 538 (by decide +kernel) (by decide +kernel)
set_option maxRecDepth 20000 in
theorem wd_539 : (.methodLink RX0 55 yX0_makeVoid : Cond) ∈ lw_all := in_all 539 (by decide +kernel) (by decide +kernel)
set_option maxRecDepth 20000 in
theorem wd_541 : (.instanceMethod yX0_makeVoid : Cond) ∈ lw_all := in_all 541 (by decide +kernel) (by decide +kernel)
set_option maxRecDepth 20000 in
theorem wd_542 : (.code yX0_makeVoid cX0_makeVoid 3 (some .int) : Cond) ∈ lw_all := in_all 542 (by decide +kernel) (by decide +kernel)
set_option maxRecDepth 20000 in
theorem wd_543 : (.methodLink RL 115 yL_append : Cond) ∈ lw_all := in_all 543 (by decide +kernel) (by decide +kernel)
set_option maxRecDepth 20000 in
theorem wd_544 : (.static yL_append : Cond) ∈ lw_all := in_all 544 (by decide +kernel) (by decide +kernel)
set_option maxRecDepth 20000 in
theorem wd_546 : (.methodLink RL 35 yX5_append : Cond) ∈ lw_all := in_all 546 (by decide +kernel) (by decide +kernel)
set_option maxRecDepth 20000 in
theorem wd_547 : (.instanceMethod yX5_append : Cond) ∈ lw_all := in_all 547 (by decide +kernel) (by decide +kernel)
set_option maxRecDepth 20000 in
theorem wd_548 : (.selects RX5 yX5_append yX5_append : Cond) ∈ lw_all := in_all 548 (by decide +kernel) (by decide +kernel)
set_option maxRecDepth 20000 in
theorem wd_549 : (.code yX5_append cX5_append 2 (some .int) : Cond) ∈ lw_all := in_all 549 (by decide +kernel) (by decide +kernel)
set_option maxRecDepth 20000 in
theorem wd_551 : (.methodLink RX5 110 yX3_isFull : Cond) ∈ lw_all := in_all 551 (by decide +kernel) (by decide +kernel)
set_option maxRecDepth 20000 in
theorem wd_552 : (.instanceMethod yX3_isFull : Cond) ∈ lw_all := in_all 552 (by decide +kernel) (by decide +kernel)
set_option maxRecDepth 20000 in
theorem wd_553 : (.selects RX3 yX3_isFull yX3_isFull : Cond) ∈ lw_all := in_all 553 (by decide +kernel) (by decide +kernel)
set_option maxRecDepth 20000 in
theorem wd_554 : (.code yX3_isFull cX3_isFull 1 (some .boolean) : Cond) ∈ lw_all := in_all 554 (by decide +kernel) (by decide +kernel)
set_option maxRecDepth 20000 in
theorem wd_556 : (.methodLink RX5 119 yX3_add : Cond) ∈ lw_all := in_all 556 (by decide +kernel) (by decide +kernel)
set_option maxRecDepth 20000 in
theorem wd_557 : (.instanceMethod yX3_add : Cond) ∈ lw_all := in_all 557 (by decide +kernel) (by decide +kernel)
set_option maxRecDepth 20000 in
theorem wd_558 : (.selects RX3 yX3_add yX3_add : Cond) ∈ lw_all := in_all 558 (by decide +kernel) (by decide +kernel)
set_option maxRecDepth 20000 in
theorem wd_559 : (.code yX3_add cX3_add 2 (some .int) : Cond) ∈ lw_all := in_all 559 (by decide +kernel) (by decide +kernel)
set_option maxRecDepth 20000 in
theorem wd_560 : (.methodLink RL 126 yL_execute : Cond) ∈ lw_all := in_all 560 (by decide +kernel) (by decide +kernel)
set_option maxRecDepth 20000 in
theorem wd_561 : (.static yL_execute : Cond) ∈ lw_all := in_all 561 (by decide +kernel) (by decide +kernel)
set_option maxRecDepth 20000 in
theorem wd_563 : (.methodLink RL 38 yX5_execute : Cond) ∈ lw_all := in_all 563 (by decide +kernel) (by decide +kernel)
set_option maxRecDepth 20000 in
theorem wd_564 : (.instanceMethod yX5_execute : Cond) ∈ lw_all := in_all 564 (by decide +kernel) (by decide +kernel)
set_option maxRecDepth 20000 in
theorem wd_565 : (.selects RX5 yX5_execute yX5_execute : Cond) ∈ lw_all := in_all 565 (by decide +kernel) (by decide +kernel)
set_option maxRecDepth 20000 in
theorem wd_566 : (.code yX5_execute cX5_execute 2 (some .int) : Cond) ∈ lw_all := in_all 566 (by decide +kernel) (by decide +kernel)
set_option maxRecDepth 20000 in
theorem wd_567 : (.methodLink RX5 128 yX3_isComplete : Cond) ∈ lw_all := in_all 567 (by decide +kernel) (by decide +kernel)
set_option maxRecDepth 20000 in
theorem wd_568 : (.instanceMethod yX3_isComplete : Cond) ∈ lw_all := in_all 568 (by decide +kernel) (by decide +kernel)
set_option maxRecDepth 20000 in
theorem wd_569 : (.selects RX3 yX3_isComplete yX3_isComplete : Cond) ∈ lw_all := in_all 569 (by decide +kernel) (by decide +kernel)
set_option maxRecDepth 20000 in
theorem wd_570 : (.code yX3_isComplete cX3_isComplete 3 (some .boolean) : Cond) ∈ lw_all := in_all 570 (by decide +kernel) (by decide +kernel)
set_option maxRecDepth 20000 in
theorem wd_571 : (.methodLink RX3 27 yX3_errorIndex : Cond) ∈ lw_all := in_all 571 (by decide +kernel) (by decide +kernel)
set_option maxRecDepth 20000 in
theorem wd_573 : (.methodLink RX5 133 yX5_runOrders : Cond) ∈ lw_all := in_all 573 (by decide +kernel) (by decide +kernel)
set_option maxRecDepth 20000 in
theorem wd_575 : (.instanceMethod yX5_runOrders : Cond) ∈ lw_all := in_all 575 (by decide +kernel) (by decide +kernel)
set_option maxRecDepth 20000 in
theorem wd_576 : (.code yX5_runOrders cX5_runOrders 5 (some .int) : Cond) ∈ lw_all := in_all 576 (by decide +kernel) (by decide +kernel)
set_option maxRecDepth 20000 in
theorem wd_577 : (.methodLink RX5 264 yX3_signAt : Cond) ∈ lw_all := in_all 577 (by decide +kernel) (by decide +kernel)
set_option maxRecDepth 20000 in
theorem wd_578 : (.methodLink RX5 267 yX5_runOrder : Cond) ∈ lw_all := in_all 578 (by decide +kernel) (by decide +kernel)
set_option maxRecDepth 20000 in
theorem wd_580 : (.instanceMethod yX5_runOrder : Cond) ∈ lw_all := in_all 580 (by decide +kernel) (by decide +kernel)
set_option maxRecDepth 20000 in
theorem wd_581 : (.code yX5_runOrder cX5_runOrder 5 (some .boolean) : Cond) ∈ lw_all := in_all 581 (by decide +kernel) (by decide +kernel)
set_option maxRecDepth 20000 in
theorem wd_582 : (.methodLink RX5 270 yX3_numberIn : Cond) ∈ lw_all := in_all 582 (by decide +kernel) (by decide +kernel)
set_option maxRecDepth 20000 in
theorem wd_583 : (.methodLink RX5 273 yX5_runBook : Cond) ∈ lw_all := in_all 583 (by decide +kernel) (by decide +kernel)
set_option maxRecDepth 20000 in
theorem wd_585 : (.instanceMethod yX5_runBook : Cond) ∈ lw_all := in_all 585 (by decide +kernel) (by decide +kernel)
set_option maxRecDepth 20000 in
theorem wd_586 : (.code yX5_runBook cX5_runBook 3 (some .boolean) : Cond) ∈ lw_all := in_all 586 (by decide +kernel) (by decide +kernel)
set_option maxRecDepth 20000 in
theorem wd_587 : (.methodLink RX5 276 yX5_runWriting : Cond) ∈ lw_all := in_all 587 (by decide +kernel) (by decide +kernel)
set_option maxRecDepth 20000 in
theorem wd_589 : (.instanceMethod yX5_runWriting : Cond) ∈ lw_all := in_all 589 (by decide +kernel) (by decide +kernel)
set_option maxRecDepth 20000 in
theorem wd_590 : (.code yX5_runWriting cX5_runWriting 3 (some .boolean) : Cond) ∈ lw_all := in_all 590 (by decide +kernel) (by decide +kernel)
set_option maxRecDepth 20000 in
theorem wd_591 : (.methodLink RX5 279 yX5_runVoiding : Cond) ∈ lw_all := in_all 591 (by decide +kernel) (by decide +kernel)
set_option maxRecDepth 20000 in
theorem wd_593 : (.instanceMethod yX5_runVoiding : Cond) ∈ lw_all := in_all 593 (by decide +kernel) (by decide +kernel)
set_option maxRecDepth 20000 in
theorem wd_594 : (.code yX5_runVoiding cX5_runVoiding 3 (some .boolean) : Cond) ∈ lw_all := in_all 594 (by decide +kernel) (by decide +kernel)
set_option maxRecDepth 20000 in
theorem wd_595 : (.methodLink RL 130 yL_undo : Cond) ∈ lw_all := in_all 595 (by decide +kernel) (by decide +kernel)
set_option maxRecDepth 20000 in
theorem wd_596 : (.static yL_undo : Cond) ∈ lw_all := in_all 596 (by decide +kernel) (by decide +kernel)
set_option maxRecDepth 20000 in
theorem wd_598 : (.methodLink RL 42 yX5_undo : Cond) ∈ lw_all := in_all 598 (by decide +kernel) (by decide +kernel)
set_option maxRecDepth 20000 in
theorem wd_599 : (.instanceMethod yX5_undo : Cond) ∈ lw_all := in_all 599 (by decide +kernel) (by decide +kernel)
set_option maxRecDepth 20000 in
theorem wd_600 : (.selects RX5 yX5_undo yX5_undo : Cond) ∈ lw_all := in_all 600 (by decide +kernel) (by decide +kernel)
set_option maxRecDepth 20000 in
theorem wd_601 : (.code yX5_undo cX5_undo 1 (some .int) : Cond) ∈ lw_all := in_all 601 (by decide +kernel) (by decide +kernel)
set_option maxRecDepth 20000 in
theorem wd_603 : (.methodLink RX5 141 yX1_restoreLast : Cond) ∈ lw_all := in_all 603 (by decide +kernel) (by decide +kernel)
set_option maxRecDepth 20000 in
theorem wd_604 : (.instanceMethod yX1_restoreLast : Cond) ∈ lw_all := in_all 604 (by decide +kernel) (by decide +kernel)
set_option maxRecDepth 20000 in
theorem wd_605 : (.selects RX1 yX1_restoreLast yX1_restoreLast : Cond) ∈ lw_all := in_all 605 (by decide +kernel) (by decide +kernel)
set_option maxRecDepth 20000 in
theorem wd_606 : (.code yX1_restoreLast cX1_restoreLast 3 none : Cond) ∈ lw_all := in_all 606 (by decide +kernel) (by decide +kernel)
set_option maxRecDepth 20000 in
theorem wd_607 : (.methodLink RL 133 yL_keep : Cond) ∈ lw_all := in_all 607 (by decide +kernel) (by decide +kernel)
set_option maxRecDepth 20000 in
theorem wd_608 : (.static yL_keep : Cond) ∈ lw_all := in_all 608 (by decide +kernel) (by decide +kernel)
set_option maxRecDepth 20000 in
theorem wd_610 : (.methodLink RL 45 yX5_keep : Cond) ∈ lw_all := in_all 610 (by decide +kernel) (by decide +kernel)
set_option maxRecDepth 20000 in
theorem wd_611 : (.instanceMethod yX5_keep : Cond) ∈ lw_all := in_all 611 (by decide +kernel) (by decide +kernel)
set_option maxRecDepth 20000 in
theorem wd_612 : (.selects RX5 yX5_keep yX5_keep : Cond) ∈ lw_all := in_all 612 (by decide +kernel) (by decide +kernel)
set_option maxRecDepth 20000 in
theorem wd_613 : (.code yX5_keep cX5_keep 2 (some .int) : Cond) ∈ lw_all := in_all 613 (by decide +kernel) (by decide +kernel)
set_option maxRecDepth 20000 in
theorem wd_614 : (.methodLink RX5 144 yX5_throwIfNoSlot : Cond) ∈ lw_all := in_all 614 (by decide +kernel) (by decide +kernel)
set_option maxRecDepth 20000 in
theorem wd_615 : (.static yX5_throwIfNoSlot : Cond) ∈ lw_all := in_all 615 (by decide +kernel) (by decide +kernel)
set_option maxRecDepth 20000 in
theorem wd_616 : (.code yX5_throwIfNoSlot cX5_throwIfNoSlot 1 none : Cond) ∈ lw_all := in_all 616 (by decide +kernel) (by decide +kernel)
set_option maxRecDepth 20000 in
theorem wd_618 : (.methodLink RX5 147 yX1_putIntoSlot : Cond) ∈ lw_all := in_all 618 (by decide +kernel) (by decide +kernel)
set_option maxRecDepth 20000 in
theorem wd_619 : (.instanceMethod yX1_putIntoSlot : Cond) ∈ lw_all := in_all 619 (by decide +kernel) (by decide +kernel)
set_option maxRecDepth 20000 in
theorem wd_620 : (.selects RX1 yX1_putIntoSlot yX1_putIntoSlot : Cond) ∈ lw_all := in_all 620 (by decide +kernel) (by decide +kernel)
set_option maxRecDepth 20000 in
theorem wd_621 : (.code yX1_putIntoSlot cX1_putIntoSlot 3 none : Cond) ∈ lw_all := in_all 621 (by decide +kernel) (by decide +kernel)
set_option maxRecDepth 20000 in
theorem wd_622 : (.methodLink RL 136 yL_goBack : Cond) ∈ lw_all := in_all 622 (by decide +kernel) (by decide +kernel)
set_option maxRecDepth 20000 in
theorem wd_623 : (.static yL_goBack : Cond) ∈ lw_all := in_all 623 (by decide +kernel) (by decide +kernel)
set_option maxRecDepth 20000 in
theorem wd_625 : (.methodLink RL 48 yX5_goBack : Cond) ∈ lw_all := in_all 625 (by decide +kernel) (by decide +kernel)
set_option maxRecDepth 20000 in
theorem wd_626 : (.instanceMethod yX5_goBack : Cond) ∈ lw_all := in_all 626 (by decide +kernel) (by decide +kernel)
set_option maxRecDepth 20000 in
theorem wd_627 : (.selects RX5 yX5_goBack yX5_goBack : Cond) ∈ lw_all := in_all 627 (by decide +kernel) (by decide +kernel)
set_option maxRecDepth 20000 in
theorem wd_628 : (.code yX5_goBack cX5_goBack 2 (some .int) : Cond) ∈ lw_all := in_all 628 (by decide +kernel) (by decide +kernel)
set_option maxRecDepth 20000 in
theorem wd_629 : (.methodLink RX5 154 yX1_isSlotFilled : Cond) ∈ lw_all := in_all 629 (by decide +kernel) (by decide +kernel)
set_option maxRecDepth 20000 in
theorem wd_630 : (.instanceMethod yX1_isSlotFilled : Cond) ∈ lw_all := in_all 630 (by decide +kernel) (by decide +kernel)
set_option maxRecDepth 20000 in
theorem wd_631 : (.selects RX1 yX1_isSlotFilled yX1_isSlotFilled : Cond) ∈ lw_all := in_all 631 (by decide +kernel) (by decide +kernel)
set_option maxRecDepth 20000 in
theorem wd_632 : (.code yX1_isSlotFilled cX1_isSlotFilled 2 (some .boolean) : Cond) ∈ lw_all := in_all 632 (by decide +kernel) (by decide +kernel)
set_option maxRecDepth 20000 in
theorem wd_634 : (.methodLink RX5 160 yX1_restoreSlot : Cond) ∈ lw_all := in_all 634 (by decide +kernel) (by decide +kernel)
set_option maxRecDepth 20000 in
theorem wd_635 : (.instanceMethod yX1_restoreSlot : Cond) ∈ lw_all := in_all 635 (by decide +kernel) (by decide +kernel)
set_option maxRecDepth 20000 in
theorem wd_636 : (.selects RX1 yX1_restoreSlot yX1_restoreSlot : Cond) ∈ lw_all := in_all 636 (by decide +kernel) (by decide +kernel)
set_option maxRecDepth 20000 in
theorem wd_637 : (.code yX1_restoreSlot cX1_restoreSlot 3 none : Cond) ∈ lw_all := in_all 637 (by decide +kernel) (by decide +kernel)
set_option maxRecDepth 20000 in
theorem wd_638 : (.methodLink RL 139 yL_letter : Cond) ∈ lw_all := in_all 638 (by decide +kernel) (by decide +kernel)
set_option maxRecDepth 20000 in
theorem wd_639 : (.static yL_letter : Cond) ∈ lw_all := in_all 639 (by decide +kernel) (by decide +kernel)
set_option maxRecDepth 20000 in
theorem wd_641 : (.methodLink RL 51 yX5_letter : Cond) ∈ lw_all := in_all 641 (by decide +kernel) (by decide +kernel)
set_option maxRecDepth 20000 in
theorem wd_642 : (.instanceMethod yX5_letter : Cond) ∈ lw_all := in_all 642 (by decide +kernel) (by decide +kernel)
set_option maxRecDepth 20000 in
theorem wd_643 : (.selects RX5 yX5_letter yX5_letter : Cond) ∈ lw_all := in_all 643 (by decide +kernel) (by decide +kernel)
set_option maxRecDepth 20000 in
theorem wd_644 : (.code yX5_letter cX5_letter 2 (some .int) : Cond) ∈ lw_all := in_all 644 (by decide +kernel) (by decide +kernel)
set_option maxRecDepth 20000 in
theorem wd_645 : (.methodLink RL 142 yL_cheque : Cond) ∈ lw_all := in_all 645 (by decide +kernel) (by decide +kernel)
set_option maxRecDepth 20000 in
theorem wd_646 : (.static yL_cheque : Cond) ∈ lw_all := in_all 646 (by decide +kernel) (by decide +kernel)
set_option maxRecDepth 20000 in
theorem wd_648 : (.methodLink RL 54 yX5_cheque : Cond) ∈ lw_all := in_all 648 (by decide +kernel) (by decide +kernel)
set_option maxRecDepth 20000 in
theorem wd_649 : (.instanceMethod yX5_cheque : Cond) ∈ lw_all := in_all 649 (by decide +kernel) (by decide +kernel)
set_option maxRecDepth 20000 in
theorem wd_650 : (.selects RX5 yX5_cheque yX5_cheque : Cond) ∈ lw_all := in_all 650 (by decide +kernel) (by decide +kernel)
set_option maxRecDepth 20000 in
theorem wd_651 : (.code yX5_cheque cX5_cheque 4 (some .int) : Cond) ∈ lw_all := in_all 651 (by decide +kernel) (by decide +kernel)
set_option maxRecDepth 20000 in
theorem wd_653 : (.methodLink RX5 171 yX0_amountAt : Cond) ∈ lw_all := in_all 653 (by decide +kernel) (by decide +kernel)
set_option maxRecDepth 20000 in
theorem wd_654 : (.methodLink RX5 174 yX0_sameKindFrom : Cond) ∈ lw_all := in_all 654 (by decide +kernel) (by decide +kernel)
set_option maxRecDepth 20000 in
theorem wd_655 : (.instanceMethod yX0_sameKindFrom : Cond) ∈ lw_all := in_all 655 (by decide +kernel) (by decide +kernel)
set_option maxRecDepth 20000 in
theorem wd_656 : (.selects RX0 yX0_sameKindFrom yX0_sameKindFrom : Cond) ∈ lw_all := in_all 656 (by decide +kernel) (by decide +kernel)
set_option maxRecDepth 20000 in
theorem wd_657 : (.code yX0_sameKindFrom cX0_sameKindFrom 7 (some .int) : Cond) ∈ lw_all := in_all 657 (by decide +kernel) (by decide +kernel)
set_option maxRecDepth 20000 in
theorem wd_659 : (.methodLink RL 145 yL_bookOf : Cond) ∈ lw_all := in_all 659 (by decide +kernel) (by decide +kernel)
set_option maxRecDepth 20000 in
theorem wd_660 : (.static yL_bookOf : Cond) ∈ lw_all := in_all 660 (by decide +kernel) (by decide +kernel)
set_option maxRecDepth 20000 in
theorem wd_662 : (.methodLink RL 57 yX5_bookOf : Cond) ∈ lw_all := in_all 662 (by decide +kernel) (by decide +kernel)
set_option maxRecDepth 20000 in
theorem wd_663 : (.instanceMethod yX5_bookOf : Cond) ∈ lw_all := in_all 663 (by decide +kernel) (by decide +kernel)
set_option maxRecDepth 20000 in
theorem wd_664 : (.selects RX5 yX5_bookOf yX5_bookOf : Cond) ∈ lw_all := in_all 664 (by decide +kernel) (by decide +kernel)
set_option maxRecDepth 20000 in
theorem wd_665 : (.code yX5_bookOf cX5_bookOf 3 (some .int) : Cond) ∈ lw_all := in_all 665 (by decide +kernel) (by decide +kernel)
set_option maxRecDepth 20000 in
theorem wd_668 : (.methodLink RX5 183 yX0_numberOf : Cond) ∈ lw_all := in_all 668 (by decide +kernel) (by decide +kernel)
set_option maxRecDepth 20000 in
theorem wd_669 : (.methodLink RL 148 yL_count : Cond) ∈ lw_all := in_all 669 (by decide +kernel) (by decide +kernel)
set_option maxRecDepth 20000 in
theorem wd_670 : (.static yL_count : Cond) ∈ lw_all := in_all 670 (by decide +kernel) (by decide +kernel)
set_option maxRecDepth 20000 in
theorem wd_672 : (.methodLink RL 60 yX5_count : Cond) ∈ lw_all := in_all 672 (by decide +kernel) (by decide +kernel)
set_option maxRecDepth 20000 in
theorem wd_673 : (.instanceMethod yX5_count : Cond) ∈ lw_all := in_all 673 (by decide +kernel) (by decide +kernel)
set_option maxRecDepth 20000 in
theorem wd_674 : (.selects RX5 yX5_count yX5_count : Cond) ∈ lw_all := in_all 674 (by decide +kernel) (by decide +kernel)
set_option maxRecDepth 20000 in
theorem wd_675 : (.code yX5_count cX5_count 2 (some .int) : Cond) ∈ lw_all := in_all 675 (by decide +kernel) (by decide +kernel)
set_option maxRecDepth 20000 in
theorem wd_677 : (.methodLink RL 151 yL_ranked : Cond) ∈ lw_all := in_all 677 (by decide +kernel) (by decide +kernel)
set_option maxRecDepth 20000 in
theorem wd_678 : (.static yL_ranked : Cond) ∈ lw_all := in_all 678 (by decide +kernel) (by decide +kernel)
set_option maxRecDepth 20000 in
theorem wd_680 : (.methodLink RL 63 yX5_ranked : Cond) ∈ lw_all := in_all 680 (by decide +kernel) (by decide +kernel)
set_option maxRecDepth 20000 in
theorem wd_681 : (.instanceMethod yX5_ranked : Cond) ∈ lw_all := in_all 681 (by decide +kernel) (by decide +kernel)
set_option maxRecDepth 20000 in
theorem wd_682 : (.selects RX5 yX5_ranked yX5_ranked : Cond) ∈ lw_all := in_all 682 (by decide +kernel) (by decide +kernel)
set_option maxRecDepth 20000 in
theorem wd_683 : (.code yX5_ranked cX5_ranked 2 (some .int) : Cond) ∈ lw_all := in_all 683 (by decide +kernel) (by decide +kernel)
set_option maxRecDepth 20000 in
theorem wd_685 : (.methodLink RX5 199 yX0_serialOfRank : Cond) ∈ lw_all := in_all 685 (by decide +kernel) (by decide +kernel)
set_option maxRecDepth 20000 in
theorem wd_686 : (.instanceMethod yX0_serialOfRank : Cond) ∈ lw_all := in_all 686 (by decide +kernel) (by decide +kernel)
set_option maxRecDepth 20000 in
theorem wd_687 : (.selects RX0 yX0_serialOfRank yX0_serialOfRank : Cond) ∈ lw_all := in_all 687 (by decide +kernel) (by decide +kernel)
set_option maxRecDepth 20000 in
theorem wd_688 : (.code yX0_serialOfRank cX0_serialOfRank 6 (some .int) : Cond) ∈ lw_all := in_all 688 (by decide +kernel) (by decide +kernel)
set_option maxRecDepth 20000 in
theorem wd_689 : (.methodLink RX0 76 yX0_bookOfRank : Cond) ∈ lw_all := in_all 689 (by decide +kernel) (by decide +kernel)
set_option maxRecDepth 20000 in
theorem wd_690 : (.instanceMethod yX0_bookOfRank : Cond) ∈ lw_all := in_all 690 (by decide +kernel) (by decide +kernel)
set_option maxRecDepth 20000 in
theorem wd_691 : (.selects RX0 yX0_bookOfRank yX0_bookOfRank : Cond) ∈ lw_all := in_all 691 (by decide +kernel) (by decide +kernel)
set_option maxRecDepth 20000 in
theorem wd_692 : (.code yX0_bookOfRank cX0_bookOfRank 3 (some .int) : Cond) ∈ lw_all := in_all 692 (by decide +kernel) (by decide +kernel)
set_option maxRecDepth 20000 in
theorem wd_693 : (.methodLink RX0 73 yX0_booksBefore : Cond) ∈ lw_all := in_all 693 (by decide +kernel) (by decide +kernel)
set_option maxRecDepth 20000 in
theorem wd_695 : (.instanceMethod yX0_booksBefore : Cond) ∈ lw_all := in_all 695 (by decide +kernel) (by decide +kernel)
set_option maxRecDepth 20000 in
theorem wd_696 : (.code yX0_booksBefore cX0_booksBefore 4 (some .int) : Cond) ∈ lw_all := in_all 696 (by decide +kernel) (by decide +kernel)
set_option maxRecDepth 20000 in
theorem wd_697 : (.methodLink RL 154 yL_missed : Cond) ∈ lw_all := in_all 697 (by decide +kernel) (by decide +kernel)
set_option maxRecDepth 20000 in
theorem wd_698 : (.static yL_missed : Cond) ∈ lw_all := in_all 698 (by decide +kernel) (by decide +kernel)
set_option maxRecDepth 20000 in
theorem wd_700 : (.methodLink RL 66 yX5_missed : Cond) ∈ lw_all := in_all 700 (by decide +kernel) (by decide +kernel)
set_option maxRecDepth 20000 in
theorem wd_701 : (.instanceMethod yX5_missed : Cond) ∈ lw_all := in_all 701 (by decide +kernel) (by decide +kernel)
set_option maxRecDepth 20000 in
theorem wd_702 : (.selects RX5 yX5_missed yX5_missed : Cond) ∈ lw_all := in_all 702 (by decide +kernel) (by decide +kernel)
set_option maxRecDepth 20000 in
theorem wd_703 : (.code yX5_missed cX5_missed 3 (some .int) : Cond) ∈ lw_all := in_all 703 (by decide +kernel) (by decide +kernel)
set_option maxRecDepth 20000 in
theorem wd_704 : (.methodLink RX5 202 yX5_throwIfNoSlipKind : Cond) ∈ lw_all := in_all 704 (by decide +kernel) (by decide +kernel)
set_option maxRecDepth 20000 in
theorem wd_705 : (.static yX5_throwIfNoSlipKind : Cond) ∈ lw_all := in_all 705 (by decide +kernel) (by decide +kernel)
set_option maxRecDepth 20000 in
theorem wd_706 : (.code yX5_throwIfNoSlipKind cX5_throwIfNoSlipKind 1 none : Cond) ∈ lw_all := in_all 706 (by decide +kernel) (by decide +kernel)
set_option maxRecDepth 20000 in
theorem wd_708 : (.methodLink RX5 205 yX2_hiddenMisreadings : Cond) ∈ lw_all := in_all 708 (by decide +kernel) (by decide +kernel)
set_option maxRecDepth 20000 in
theorem wd_709 : (.instanceMethod yX2_hiddenMisreadings : Cond) ∈ lw_all := in_all 709 (by decide +kernel) (by decide +kernel)
set_option maxRecDepth 20000 in
theorem wd_710 : (.selects RX2 yX2_hiddenMisreadings yX2_hiddenMisreadings : Cond) ∈ lw_all := in_all 710 (by decide +kernel) (by decide +kernel)
set_option maxRecDepth 20000 in
theorem wd_711 : (.code yX2_hiddenMisreadings cX2_hiddenMisreadings 7 (some .int) : Cond) ∈ lw_all := in_all 711 (by decide +kernel) (by decide +kernel)
set_option maxRecDepth 20000 in
theorem wd_712 : (.methodLink RX2 44 yX2_digitAt : Cond) ∈ lw_all := in_all 712 (by decide +kernel) (by decide +kernel)
set_option maxRecDepth 20000 in
theorem wd_713 : (.static yX2_digitAt : Cond) ∈ lw_all := in_all 713 (by decide +kernel) (by decide +kernel)
set_option maxRecDepth 20000 in
theorem wd_714 : (.code yX2_digitAt cX2_digitAt 4 (some .int) : Cond) ∈ lw_all := in_all 714 (by decide +kernel) (by decide +kernel)
set_option maxRecDepth 20000 in
theorem wd_715 : (.methodLink RX2 40 yX2_factorAt : Cond) ∈ lw_all := in_all 715 (by decide +kernel) (by decide +kernel)
set_option maxRecDepth 20000 in
theorem wd_716 : (.instanceMethod yX2_factorAt : Cond) ∈ lw_all := in_all 716 (by decide +kernel) (by decide +kernel)
set_option maxRecDepth 20000 in
theorem wd_717 : (.selects RX2 yX2_factorAt yX2_factorAt : Cond) ∈ lw_all := in_all 717 (by decide +kernel) (by decide +kernel)
set_option maxRecDepth 20000 in
theorem wd_718 : (.code yX2_factorAt cX2_factorAt 4 (some .int) : Cond) ∈ lw_all := in_all 718 (by decide +kernel) (by decide +kernel)
set_option maxRecDepth 20000 in
theorem wd_719 : (.methodLink RX2 30 yX2_isHidden : Cond) ∈ lw_all := in_all 719 (by decide +kernel) (by decide +kernel)
set_option maxRecDepth 20000 in
theorem wd_721 : (.instanceMethod yX2_isHidden : Cond) ∈ lw_all := in_all 721 (by decide +kernel) (by decide +kernel)
set_option maxRecDepth 20000 in
theorem wd_722 : (.code yX2_isHidden cX2_isHidden 3 (some .boolean) : Cond) ∈ lw_all := in_all 722 (by decide +kernel) (by decide +kernel)
set_option maxRecDepth 20000 in
theorem wd_723 : (.methodLink RX5 208 yX2_hiddenSwaps : Cond) ∈ lw_all := in_all 723 (by decide +kernel) (by decide +kernel)
set_option maxRecDepth 20000 in
theorem wd_724 : (.instanceMethod yX2_hiddenSwaps : Cond) ∈ lw_all := in_all 724 (by decide +kernel) (by decide +kernel)
set_option maxRecDepth 20000 in
theorem wd_725 : (.selects RX2 yX2_hiddenSwaps yX2_hiddenSwaps : Cond) ∈ lw_all := in_all 725 (by decide +kernel) (by decide +kernel)
set_option maxRecDepth 20000 in
theorem wd_726 : (.code yX2_hiddenSwaps cX2_hiddenSwaps 6 (some .int) : Cond) ∈ lw_all := in_all 726 (by decide +kernel) (by decide +kernel)
set_option maxRecDepth 20000 in
theorem wd_727 : (.methodLink RL 157 yL_weak : Cond) ∈ lw_all := in_all 727 (by decide +kernel) (by decide +kernel)
set_option maxRecDepth 20000 in
theorem wd_728 : (.static yL_weak : Cond) ∈ lw_all := in_all 728 (by decide +kernel) (by decide +kernel)
set_option maxRecDepth 20000 in
theorem wd_730 : (.methodLink RL 69 yX5_weak : Cond) ∈ lw_all := in_all 730 (by decide +kernel) (by decide +kernel)
set_option maxRecDepth 20000 in
theorem wd_731 : (.instanceMethod yX5_weak : Cond) ∈ lw_all := in_all 731 (by decide +kernel) (by decide +kernel)
set_option maxRecDepth 20000 in
theorem wd_732 : (.selects RX5 yX5_weak yX5_weak : Cond) ∈ lw_all := in_all 732 (by decide +kernel) (by decide +kernel)
set_option maxRecDepth 20000 in
theorem wd_733 : (.code yX5_weak cX5_weak 5 (some .int) : Cond) ∈ lw_all := in_all 733 (by decide +kernel) (by decide +kernel)
set_option maxRecDepth 20000 in
theorem wd_734 : (.methodLink RX5 211 yX5_positionsOf : Cond) ∈ lw_all := in_all 734 (by decide +kernel) (by decide +kernel)
set_option maxRecDepth 20000 in
theorem wd_735 : (.static yX5_positionsOf : Cond) ∈ lw_all := in_all 735 (by decide +kernel) (by decide +kernel)
set_option maxRecDepth 20000 in
theorem wd_736 : (.code yX5_positionsOf cX5_positionsOf 1 (some .int) : Cond) ∈ lw_all := in_all 736 (by decide +kernel) (by decide +kernel)
set_option maxRecDepth 20000 in
theorem wd_738 : (.methodLink RX5 218 yX2_factorAt : Cond) ∈ lw_all := in_all 738 (by decide +kernel) (by decide +kernel)
set_option maxRecDepth 20000 in
theorem wd_739 : (.methodLink RX5 221 yX2_hiddenPairsTried : Cond) ∈ lw_all := in_all 739 (by decide +kernel) (by decide +kernel)
set_option maxRecDepth 20000 in
theorem wd_740 : (.instanceMethod yX2_hiddenPairsTried : Cond) ∈ lw_all := in_all 740 (by decide +kernel) (by decide +kernel)
set_option maxRecDepth 20000 in
theorem wd_741 : (.selects RX2 yX2_hiddenPairsTried yX2_hiddenPairsTried : Cond) ∈ lw_all := in_all 741 (by decide +kernel) (by decide +kernel)
set_option maxRecDepth 20000 in
theorem wd_742 : (.code yX2_hiddenPairsTried cX2_hiddenPairsTried 5 (some .int) : Cond) ∈ lw_all := in_all 742 (by decide +kernel) (by decide +kernel)
set_option maxRecDepth 20000 in
theorem wd_743 : (.methodLink RX5 224 yX2_hiddenPairs : Cond) ∈ lw_all := in_all 743 (by decide +kernel) (by decide +kernel)
set_option maxRecDepth 20000 in
theorem wd_744 : (.instanceMethod yX2_hiddenPairs : Cond) ∈ lw_all := in_all 744 (by decide +kernel) (by decide +kernel)
set_option maxRecDepth 20000 in
theorem wd_745 : (.selects RX2 yX2_hiddenPairs yX2_hiddenPairs : Cond) ∈ lw_all := in_all 745 (by decide +kernel) (by decide +kernel)
set_option maxRecDepth 20000 in
theorem wd_746 : (.code yX2_hiddenPairs cX2_hiddenPairs 4 (some .int) : Cond) ∈ lw_all := in_all 746 (by decide +kernel) (by decide +kernel)
set_option maxRecDepth 20000 in
theorem wd_747 : (.methodLink RL 161 yL_finds : Cond) ∈ lw_all := in_all 747 (by decide +kernel) (by decide +kernel)
set_option maxRecDepth 20000 in
theorem wd_748 : (.static yL_finds : Cond) ∈ lw_all := in_all 748 (by decide +kernel) (by decide +kernel)
set_option maxRecDepth 20000 in
theorem wd_750 : (.methodLink RL 73 yX5_finds : Cond) ∈ lw_all := in_all 750 (by decide +kernel) (by decide +kernel)
set_option maxRecDepth 20000 in
theorem wd_751 : (.instanceMethod yX5_finds : Cond) ∈ lw_all := in_all 751 (by decide +kernel) (by decide +kernel)
set_option maxRecDepth 20000 in
theorem wd_752 : (.selects RX5 yX5_finds yX5_finds : Cond) ∈ lw_all := in_all 752 (by decide +kernel) (by decide +kernel)
set_option maxRecDepth 20000 in
theorem wd_753 : (.code yX5_finds cX5_finds 2 (some .boolean) : Cond) ∈ lw_all := in_all 753 (by decide +kernel) (by decide +kernel)
set_option maxRecDepth 20000 in
theorem wd_754 : (.methodLink RX5 227 yX2_hidesNothing : Cond) ∈ lw_all := in_all 754 (by decide +kernel) (by decide +kernel)
set_option maxRecDepth 20000 in
theorem wd_755 : (.instanceMethod yX2_hidesNothing : Cond) ∈ lw_all := in_all 755 (by decide +kernel) (by decide +kernel)
set_option maxRecDepth 20000 in
theorem wd_756 : (.selects RX2 yX2_hidesNothing yX2_hidesNothing : Cond) ∈ lw_all := in_all 756 (by decide +kernel) (by decide +kernel)
set_option maxRecDepth 20000 in
theorem wd_757 : (.code yX2_hidesNothing cX2_hidesNothing 3 (some .boolean) : Cond) ∈ lw_all := in_all 757 (by decide +kernel) (by decide +kernel)
set_option maxRecDepth 20000 in
theorem wd_759 : (.methodLink RX2 34 yX2_hiddenPairs : Cond) ∈ lw_all := in_all 759 (by decide +kernel) (by decide +kernel)
set_option maxRecDepth 20000 in
theorem wd_760 : (.methodLink RL 164 yL_bestWeight : Cond) ∈ lw_all := in_all 760 (by decide +kernel) (by decide +kernel)
set_option maxRecDepth 20000 in
theorem wd_761 : (.static yL_bestWeight : Cond) ∈ lw_all := in_all 761 (by decide +kernel) (by decide +kernel)
set_option maxRecDepth 20000 in
theorem wd_763 : (.methodLink RL 77 yX5_bestWeight : Cond) ∈ lw_all := in_all 763 (by decide +kernel) (by decide +kernel)
set_option maxRecDepth 20000 in
theorem wd_764 : (.instanceMethod yX5_bestWeight : Cond) ∈ lw_all := in_all 764 (by decide +kernel) (by decide +kernel)
set_option maxRecDepth 20000 in
theorem wd_765 : (.selects RX5 yX5_bestWeight yX5_bestWeight : Cond) ∈ lw_all := in_all 765 (by decide +kernel) (by decide +kernel)
set_option maxRecDepth 20000 in
theorem wd_766 : (.code yX5_bestWeight cX5_bestWeight 6 (some .int) : Cond) ∈ lw_all := in_all 766 (by decide +kernel) (by decide +kernel)
set_option maxRecDepth 20000 in
theorem wd_767 : (.methodLink RX5 230 yX2_hiddenPairsWith : Cond) ∈ lw_all := in_all 767 (by decide +kernel) (by decide +kernel)
set_option maxRecDepth 20000 in
theorem wd_768 : (.instanceMethod yX2_hiddenPairsWith : Cond) ∈ lw_all := in_all 768 (by decide +kernel) (by decide +kernel)
set_option maxRecDepth 20000 in
theorem wd_769 : (.selects RX2 yX2_hiddenPairsWith yX2_hiddenPairsWith : Cond) ∈ lw_all := in_all 769 (by decide +kernel) (by decide +kernel)
set_option maxRecDepth 20000 in
theorem wd_770 : (.code yX2_hiddenPairsWith cX2_hiddenPairsWith 7 (some .int) : Cond) ∈ lw_all := in_all 770 (by decide +kernel) (by decide +kernel)
set_option maxRecDepth 20000 in
theorem wd_771 : (.methodLink RL 167 yL_meant : Cond) ∈ lw_all := in_all 771 (by decide +kernel) (by decide +kernel)
set_option maxRecDepth 20000 in
theorem wd_772 : (.static yL_meant : Cond) ∈ lw_all := in_all 772 (by decide +kernel) (by decide +kernel)
set_option maxRecDepth 20000 in
theorem wd_774 : (.methodLink RL 80 yX5_meant : Cond) ∈ lw_all := in_all 774 (by decide +kernel) (by decide +kernel)
set_option maxRecDepth 20000 in
theorem wd_775 : (.instanceMethod yX5_meant : Cond) ∈ lw_all := in_all 775 (by decide +kernel) (by decide +kernel)
set_option maxRecDepth 20000 in
theorem wd_776 : (.selects RX5 yX5_meant yX5_meant : Cond) ∈ lw_all := in_all 776 (by decide +kernel) (by decide +kernel)
set_option maxRecDepth 20000 in
theorem wd_777 : (.code yX5_meant cX5_meant 4 (some .int) : Cond) ∈ lw_all := in_all 777 (by decide +kernel) (by decide +kernel)
set_option maxRecDepth 20000 in
theorem wd_779 : (.methodLink RX5 235 yX4_meantCheques : Cond) ∈ lw_all := in_all 779 (by decide +kernel) (by decide +kernel)
set_option maxRecDepth 20000 in
theorem wd_780 : (.instanceMethod yX4_meantCheques : Cond) ∈ lw_all := in_all 780 (by decide +kernel) (by decide +kernel)
set_option maxRecDepth 20000 in
theorem wd_781 : (.selects RX4 yX4_meantCheques yX4_meantCheques : Cond) ∈ lw_all := in_all 781 (by decide +kernel) (by decide +kernel)
set_option maxRecDepth 20000 in
theorem wd_782 : (.code yX4_meantCheques cX4_meantCheques 9 (some .int) : Cond) ∈ lw_all := in_all 782 (by decide +kernel) (by decide +kernel)
set_option maxRecDepth 20000 in
theorem wd_783 : (.methodLink RX4 60 yX0_bookOfRank : Cond) ∈ lw_all := in_all 783 (by decide +kernel) (by decide +kernel)
set_option maxRecDepth 20000 in
theorem wd_784 : (.methodLink RX4 63 yX0_firstOf : Cond) ∈ lw_all := in_all 784 (by decide +kernel) (by decide +kernel)
set_option maxRecDepth 20000 in
theorem wd_785 : (.methodLink RX4 66 yX0_sizeOf : Cond) ∈ lw_all := in_all 785 (by decide +kernel) (by decide +kernel)
set_option maxRecDepth 20000 in
theorem wd_786 : (.methodLink RX4 69 yX2_slipKind : Cond) ∈ lw_all := in_all 786 (by decide +kernel) (by decide +kernel)
set_option maxRecDepth 20000 in
theorem wd_787 : (.instanceMethod yX2_slipKind : Cond) ∈ lw_all := in_all 787 (by decide +kernel) (by decide +kernel)
set_option maxRecDepth 20000 in
theorem wd_788 : (.selects RX2 yX2_slipKind yX2_slipKind : Cond) ∈ lw_all := in_all 788 (by decide +kernel) (by decide +kernel)
set_option maxRecDepth 20000 in
theorem wd_789 : (.code yX2_slipKind cX2_slipKind 5 (some .int) : Cond) ∈ lw_all := in_all 789 (by decide +kernel) (by decide +kernel)
set_option maxRecDepth 20000 in
theorem wd_790 : (.methodLink RX2 47 yX2_letterOf : Cond) ∈ lw_all := in_all 790 (by decide +kernel) (by decide +kernel)
set_option maxRecDepth 20000 in
theorem wd_791 : (.methodLink RX2 50 yX2_digitSlip : Cond) ∈ lw_all := in_all 791 (by decide +kernel) (by decide +kernel)
set_option maxRecDepth 20000 in
theorem wd_792 : (.static yX2_digitSlip : Cond) ∈ lw_all := in_all 792 (by decide +kernel) (by decide +kernel)
set_option maxRecDepth 20000 in
theorem wd_793 : (.code yX2_digitSlip cX2_digitSlip 5 (some .int) : Cond) ∈ lw_all := in_all 793 (by decide +kernel) (by decide +kernel)
set_option maxRecDepth 20000 in
theorem wd_794 : (.methodLink RX2 53 yX2_isSwapped : Cond) ∈ lw_all := in_all 794 (by decide +kernel) (by decide +kernel)
set_option maxRecDepth 20000 in
theorem wd_795 : (.static yX2_isSwapped : Cond) ∈ lw_all := in_all 795 (by decide +kernel) (by decide +kernel)
set_option maxRecDepth 20000 in
theorem wd_796 : (.code yX2_isSwapped cX2_isSwapped 3 (some .boolean) : Cond) ∈ lw_all := in_all 796 (by decide +kernel) (by decide +kernel)
set_option maxRecDepth 20000 in
theorem wd_797 : (.methodLink RL 170 yL_slip : Cond) ∈ lw_all := in_all 797 (by decide +kernel) (by decide +kernel)
set_option maxRecDepth 20000 in
theorem wd_798 : (.static yL_slip : Cond) ∈ lw_all := in_all 798 (by decide +kernel) (by decide +kernel)
set_option maxRecDepth 20000 in
theorem wd_800 : (.methodLink RL 83 yX5_slip : Cond) ∈ lw_all := in_all 800 (by decide +kernel) (by decide +kernel)
set_option maxRecDepth 20000 in
theorem wd_801 : (.instanceMethod yX5_slip : Cond) ∈ lw_all := in_all 801 (by decide +kernel) (by decide +kernel)
set_option maxRecDepth 20000 in
theorem wd_802 : (.selects RX5 yX5_slip yX5_slip : Cond) ∈ lw_all := in_all 802 (by decide +kernel) (by decide +kernel)
set_option maxRecDepth 20000 in
theorem wd_803 : (.code yX5_slip cX5_slip 4 (some .int) : Cond) ∈ lw_all := in_all 803 (by decide +kernel) (by decide +kernel)
set_option maxRecDepth 20000 in
theorem wd_804 : (.methodLink RX5 239 yX2_slipKind : Cond) ∈ lw_all := in_all 804 (by decide +kernel) (by decide +kernel)
set_option maxRecDepth 20000 in
theorem wd_805 : (.classLink RL 87 RX6 : Cond) ∈ lw_all := in_all 805 (by decide +kernel) (by decide +kernel)
set_option maxRecDepth 20000 in
theorem wd_806 : (.instantiable RX6 11 : Cond) ∈ lw_all := in_all 806 (by decide +kernel) (by decide +kernel)
set_option maxRecDepth 20000 in
theorem wd_807 : (.methodLink RL 89 yX6_init : Cond) ∈ lw_all := in_all 807 (by decide +kernel) (by decide +kernel)
set_option maxRecDepth 20000 in
theorem wd_808 : (.instanceMethod yX6_init : Cond) ∈ lw_all := in_all 808 (by decide +kernel) (by decide +kernel)
set_option maxRecDepth 20000 in
theorem wd_809 : (.code yX6_init cX6_init 2 none : Cond) ∈ lw_all := in_all 809 (by decide +kernel) (by decide +kernel)
set_option maxRecDepth 20000 in
theorem wd_810 : (.methodLink RX6 1 objectInit : Cond) ∈ lw_all := in_all 810 (by decide +kernel) (by decide +kernel)
set_option maxRecDepth 20000 in
theorem wd_811 : (.fieldLink RX6 7 "ChequeSerialsModel" "now" "[I" : Cond) ∈ lw_all := in_all 811 (by decide +kernel) (by decide +kernel)
set_option maxRecDepth 20000 in
theorem wd_812 : (.fieldLink RX6 13 "ChequeSerialsModel" "past" "[I" : Cond) ∈ lw_all := in_all 812 (by decide +kernel) (by decide +kernel)
set_option maxRecDepth 20000 in
theorem wd_813 : (.fieldLink RX6 37 "ChequeSerialsModel" "states" "I" : Cond) ∈ lw_all := in_all 813 (by decide +kernel) (by decide +kernel)
set_option maxRecDepth 20000 in
theorem wd_814 : (.fieldLink RX6 16 "ChequeSerialsModel" "kept" "[I" : Cond) ∈ lw_all := in_all 814 (by decide +kernel) (by decide +kernel)
set_option maxRecDepth 20000 in
theorem wd_815 : (.fieldLink RX6 19 "ChequeSerialsModel" "isKept" "[I" : Cond) ∈ lw_all := in_all 815 (by decide +kernel) (by decide +kernel)
set_option maxRecDepth 20000 in
theorem wd_816 : (.fieldLink RX6 22 "ChequeSerialsModel" "text" "[I" : Cond) ∈ lw_all := in_all 816 (by decide +kernel) (by decide +kernel)
set_option maxRecDepth 20000 in
theorem wd_817 : (.fieldLink RX6 100 "ChequeSerialsModel" "length" "I" : Cond) ∈ lw_all := in_all 817 (by decide +kernel) (by decide +kernel)
set_option maxRecDepth 20000 in
theorem wd_818 : (.fieldLink RX6 28 "ChequeSerialsModel" "thrown" "I" : Cond) ∈ lw_all := in_all 818 (by decide +kernel) (by decide +kernel)
set_option maxRecDepth 20000 in
theorem wd_819 : (.fieldLink RX6 103 "ChequeSerialsModel" "spot" "I" : Cond) ∈ lw_all := in_all 819 (by decide +kernel) (by decide +kernel)
set_option maxRecDepth 20000 in
theorem wd_820 : (.fieldLink RX6 25 "ChequeSerialsModel" "told" "[I" : Cond) ∈ lw_all := in_all 820 (by decide +kernel) (by decide +kernel)
set_option maxRecDepth 20000 in
theorem wd_821 : (.fieldLink RX6 109 "ChequeSerialsModel" "toldMany" "I" : Cond) ∈ lw_all := in_all 821 (by decide +kernel) (by decide +kernel)
set_option maxRecDepth 20000 in
theorem wd_845 : (.methodLink RL 96 yX6_thrown : Cond) ∈ lw_all := in_all 845 (by decide +kernel) (by decide +kernel)
set_option maxRecDepth 20000 in
theorem wd_846 : (.instanceMethod yX6_thrown : Cond) ∈ lw_all := in_all 846 (by decide +kernel) (by decide +kernel)
set_option maxRecDepth 20000 in
theorem wd_847 : (.selects RX6 yX6_thrown yX6_thrown : Cond) ∈ lw_all := in_all 847 (by decide +kernel) (by decide +kernel)
set_option maxRecDepth 20000 in
theorem wd_848 : (.code yX6_thrown cX6_thrown 1 (some .int) : Cond) ∈ lw_all := in_all 848 (by decide +kernel) (by decide +kernel)
set_option maxRecDepth 20000 in
theorem wd_849 : (.methodLink RL 95 yX6_weight : Cond) ∈ lw_all := in_all 849 (by decide +kernel) (by decide +kernel)
set_option maxRecDepth 20000 in
theorem wd_850 : (.instanceMethod yX6_weight : Cond) ∈ lw_all := in_all 850 (by decide +kernel) (by decide +kernel)
set_option maxRecDepth 20000 in
theorem wd_851 : (.selects RX6 yX6_weight yX6_weight : Cond) ∈ lw_all := in_all 851 (by decide +kernel) (by decide +kernel)
set_option maxRecDepth 20000 in
theorem wd_852 : (.code yX6_weight cX6_weight 4 (some .int) : Cond) ∈ lw_all := in_all 852 (by decide +kernel) (by decide +kernel)
set_option maxRecDepth 20000 in
theorem wd_853 : (.methodLink RX6 33 yX6_in : Cond) ∈ lw_all := in_all 853 (by decide +kernel) (by decide +kernel)
set_option maxRecDepth 20000 in
theorem wd_854 : (.static yX6_in : Cond) ∈ lw_all := in_all 854 (by decide +kernel) (by decide +kernel)
set_option maxRecDepth 20000 in
theorem wd_855 : (.code yX6_in cX6_in 3 (some .boolean) : Cond) ∈ lw_all := in_all 855 (by decide +kernel) (by decide +kernel)
set_option maxRecDepth 20000 in
theorem wd_856 : (.methodLink RX6 72 yX6_refuses : Cond) ∈ lw_all := in_all 856 (by decide +kernel) (by decide +kernel)
set_option maxRecDepth 20000 in
theorem wd_858 : (.instanceMethod yX6_refuses : Cond) ∈ lw_all := in_all 858 (by decide +kernel) (by decide +kernel)
set_option maxRecDepth 20000 in
theorem wd_859 : (.code yX6_refuses cX6_refuses 2 (some .int) : Cond) ∈ lw_all := in_all 859 (by decide +kernel) (by decide +kernel)
set_option maxRecDepth 20000 in
theorem wd_860 : (.methodLink RX6 75 yX6_saves : Cond) ∈ lw_all := in_all 860 (by decide +kernel) (by decide +kernel)
set_option maxRecDepth 20000 in
theorem wd_862 : (.instanceMethod yX6_saves : Cond) ∈ lw_all := in_all 862 (by decide +kernel) (by decide +kernel)
set_option maxRecDepth 20000 in
theorem wd_863 : (.code yX6_saves cX6_saves 2 none : Cond) ∈ lw_all := in_all 863 (by decide +kernel) (by decide +kernel)
set_option maxRecDepth 20000 in
theorem wd_864 : (.methodLink RX6 40 yX6_lays : Cond) ∈ lw_all := in_all 864 (by decide +kernel) (by decide +kernel)
set_option maxRecDepth 20000 in
theorem wd_865 : (.static yX6_lays : Cond) ∈ lw_all := in_all 865 (by decide +kernel) (by decide +kernel)
set_option maxRecDepth 20000 in
theorem wd_866 : (.code yX6_lays cX6_lays 5 none : Cond) ∈ lw_all := in_all 866 (by decide +kernel) (by decide +kernel)
set_option maxRecDepth 20000 in
theorem wd_867 : (.methodLink RL 102 yX6_modulus : Cond) ∈ lw_all := in_all 867 (by decide +kernel) (by decide +kernel)
set_option maxRecDepth 20000 in
theorem wd_868 : (.instanceMethod yX6_modulus : Cond) ∈ lw_all := in_all 868 (by decide +kernel) (by decide +kernel)
set_option maxRecDepth 20000 in
theorem wd_869 : (.selects RX6 yX6_modulus yX6_modulus : Cond) ∈ lw_all := in_all 869 (by decide +kernel) (by decide +kernel)
set_option maxRecDepth 20000 in
theorem wd_870 : (.code yX6_modulus cX6_modulus 3 (some .int) : Cond) ∈ lw_all := in_all 870 (by decide +kernel) (by decide +kernel)
set_option maxRecDepth 20000 in
theorem wd_871 : (.methodLink RL 105 yX6_book : Cond) ∈ lw_all := in_all 871 (by decide +kernel) (by decide +kernel)
set_option maxRecDepth 20000 in
theorem wd_872 : (.instanceMethod yX6_book : Cond) ∈ lw_all := in_all 872 (by decide +kernel) (by decide +kernel)
set_option maxRecDepth 20000 in
theorem wd_873 : (.selects RX6 yX6_book yX6_book : Cond) ∈ lw_all := in_all 873 (by decide +kernel) (by decide +kernel)
set_option maxRecDepth 20000 in
theorem wd_874 : (.code yX6_book cX6_book 3 (some .int) : Cond) ∈ lw_all := in_all 874 (by decide +kernel) (by decide +kernel)
set_option maxRecDepth 20000 in
theorem wd_875 : (.methodLink RX6 78 yX6_isSerial : Cond) ∈ lw_all := in_all 875 (by decide +kernel) (by decide +kernel)
set_option maxRecDepth 20000 in
theorem wd_876 : (.static yX6_isSerial : Cond) ∈ lw_all := in_all 876 (by decide +kernel) (by decide +kernel)
set_option maxRecDepth 20000 in
theorem wd_877 : (.code yX6_isSerial cX6_isSerial 1 (some .boolean) : Cond) ∈ lw_all := in_all 877 (by decide +kernel) (by decide +kernel)
set_option maxRecDepth 20000 in
theorem wd_878 : (.constant RX6 32 (999999) : Cond) ∈ lw_all := in_all 878 (by decide +kernel) (by decide +kernel)
set_option maxRecDepth 20000 in
theorem wd_879 : (.methodLink RX6 81 yX6_canBook : Cond) ∈ lw_all := in_all 879 (by decide +kernel) (by decide +kernel)
set_option maxRecDepth 20000 in
theorem wd_881 : (.instanceMethod yX6_canBook : Cond) ∈ lw_all := in_all 881 (by decide +kernel) (by decide +kernel)
set_option maxRecDepth 20000 in
theorem wd_882 : (.code yX6_canBook cX6_canBook 3 (some .boolean) : Cond) ∈ lw_all := in_all 882 (by decide +kernel) (by decide +kernel)
set_option maxRecDepth 20000 in
theorem wd_883 : (.methodLink RX6 55 yX6_isTaken : Cond) ∈ lw_all := in_all 883 (by decide +kernel) (by decide +kernel)
set_option maxRecDepth 20000 in
theorem wd_885 : (.instanceMethod yX6_isTaken : Cond) ∈ lw_all := in_all 885 (by decide +kernel) (by decide +kernel)
set_option maxRecDepth 20000 in
theorem wd_886 : (.code yX6_isTaken cX6_isTaken 5 (some .boolean) : Cond) ∈ lw_all := in_all 886 (by decide +kernel) (by decide +kernel)
set_option maxRecDepth 20000 in
theorem wd_887 : (.methodLink RX6 48 yX6_firstOf : Cond) ∈ lw_all := in_all 887 (by decide +kernel) (by decide +kernel)
set_option maxRecDepth 20000 in
theorem wd_889 : (.instanceMethod yX6_firstOf : Cond) ∈ lw_all := in_all 889 (by decide +kernel) (by decide +kernel)
set_option maxRecDepth 20000 in
theorem wd_890 : (.code yX6_firstOf cX6_firstOf 2 (some .int) : Cond) ∈ lw_all := in_all 890 (by decide +kernel) (by decide +kernel)
set_option maxRecDepth 20000 in
theorem wd_891 : (.methodLink RX6 52 yX6_countOf : Cond) ∈ lw_all := in_all 891 (by decide +kernel) (by decide +kernel)
set_option maxRecDepth 20000 in
theorem wd_893 : (.instanceMethod yX6_countOf : Cond) ∈ lw_all := in_all 893 (by decide +kernel) (by decide +kernel)
set_option maxRecDepth 20000 in
theorem wd_894 : (.code yX6_countOf cX6_countOf 2 (some .int) : Cond) ∈ lw_all := in_all 894 (by decide +kernel) (by decide +kernel)
set_option maxRecDepth 20000 in
theorem wd_895 : (.methodLink RX6 84 yX6_books : Cond) ∈ lw_all := in_all 895 (by decide +kernel) (by decide +kernel)
set_option maxRecDepth 20000 in
theorem wd_897 : (.instanceMethod yX6_books : Cond) ∈ lw_all := in_all 897 (by decide +kernel) (by decide +kernel)
set_option maxRecDepth 20000 in
theorem wd_898 : (.code yX6_books cX6_books 5 (some .int) : Cond) ∈ lw_all := in_all 898 (by decide +kernel) (by decide +kernel)
set_option maxRecDepth 20000 in
theorem wd_899 : (.methodLink RL 108 yX6_write : Cond) ∈ lw_all := in_all 899 (by decide +kernel) (by decide +kernel)
set_option maxRecDepth 20000 in
theorem wd_900 : (.instanceMethod yX6_write : Cond) ∈ lw_all := in_all 900 (by decide +kernel) (by decide +kernel)
set_option maxRecDepth 20000 in
theorem wd_901 : (.selects RX6 yX6_write yX6_write : Cond) ∈ lw_all := in_all 901 (by decide +kernel) (by decide +kernel)
set_option maxRecDepth 20000 in
theorem wd_902 : (.code yX6_write cX6_write 4 (some .int) : Cond) ∈ lw_all := in_all 902 (by decide +kernel) (by decide +kernel)
set_option maxRecDepth 20000 in
theorem wd_903 : (.methodLink RX6 59 yX6_spotOf : Cond) ∈ lw_all := in_all 903 (by decide +kernel) (by decide +kernel)
set_option maxRecDepth 20000 in
theorem wd_905 : (.instanceMethod yX6_spotOf : Cond) ∈ lw_all := in_all 905 (by decide +kernel) (by decide +kernel)
set_option maxRecDepth 20000 in
theorem wd_906 : (.code yX6_spotOf cX6_spotOf 5 (some .int) : Cond) ∈ lw_all := in_all 906 (by decide +kernel) (by decide +kernel)
set_option maxRecDepth 20000 in
theorem wd_907 : (.methodLink RX6 87 yX6_writes : Cond) ∈ lw_all := in_all 907 (by decide +kernel) (by decide +kernel)
set_option maxRecDepth 20000 in
theorem wd_909 : (.instanceMethod yX6_writes : Cond) ∈ lw_all := in_all 909 (by decide +kernel) (by decide +kernel)
set_option maxRecDepth 20000 in
theorem wd_910 : (.code yX6_writes cX6_writes 3 none : Cond) ∈ lw_all := in_all 910 (by decide +kernel) (by decide +kernel)
set_option maxRecDepth 20000 in
theorem wd_911 : (.methodLink RX6 62 yX6_letterOf : Cond) ∈ lw_all := in_all 911 (by decide +kernel) (by decide +kernel)
set_option maxRecDepth 20000 in
theorem wd_913 : (.instanceMethod yX6_letterOf : Cond) ∈ lw_all := in_all 913 (by decide +kernel) (by decide +kernel)
set_option maxRecDepth 20000 in
theorem wd_914 : (.code yX6_letterOf cX6_letterOf 4 (some .int) : Cond) ∈ lw_all := in_all 914 (by decide +kernel) (by decide +kernel)
set_option maxRecDepth 20000 in
theorem wd_915 : (.methodLink RX6 44 yX6_digit : Cond) ∈ lw_all := in_all 915 (by decide +kernel) (by decide +kernel)
set_option maxRecDepth 20000 in
theorem wd_916 : (.static yX6_digit : Cond) ∈ lw_all := in_all 916 (by decide +kernel) (by decide +kernel)
set_option maxRecDepth 20000 in
theorem wd_917 : (.code yX6_digit cX6_digit 4 (some .int) : Cond) ∈ lw_all := in_all 917 (by decide +kernel) (by decide +kernel)
set_option maxRecDepth 20000 in
theorem wd_918 : (.methodLink RL 111 yX6_cash : Cond) ∈ lw_all := in_all 918 (by decide +kernel) (by decide +kernel)
set_option maxRecDepth 20000 in
theorem wd_919 : (.instanceMethod yX6_cash : Cond) ∈ lw_all := in_all 919 (by decide +kernel) (by decide +kernel)
set_option maxRecDepth 20000 in
theorem wd_920 : (.selects RX6 yX6_cash yX6_cash : Cond) ∈ lw_all := in_all 920 (by decide +kernel) (by decide +kernel)
set_option maxRecDepth 20000 in
theorem wd_921 : (.code yX6_cash cX6_cash 3 (some .int) : Cond) ∈ lw_all := in_all 921 (by decide +kernel) (by decide +kernel)
set_option maxRecDepth 20000 in
theorem wd_922 : (.methodLink RX6 91 yX6_isLetter : Cond) ∈ lw_all := in_all 922 (by decide +kernel) (by decide +kernel)
set_option maxRecDepth 20000 in
theorem wd_923 : (.static yX6_isLetter : Cond) ∈ lw_all := in_all 923 (by decide +kernel) (by decide +kernel)
set_option maxRecDepth 20000 in
theorem wd_924 : (.code yX6_isLetter cX6_isLetter 1 (some .boolean) : Cond) ∈ lw_all := in_all 924 (by decide +kernel) (by decide +kernel)
set_option maxRecDepth 20000 in
theorem wd_925 : (.methodLink RX6 94 yX6_cashes : Cond) ∈ lw_all := in_all 925 (by decide +kernel) (by decide +kernel)
set_option maxRecDepth 20000 in
theorem wd_927 : (.instanceMethod yX6_cashes : Cond) ∈ lw_all := in_all 927 (by decide +kernel) (by decide +kernel)
set_option maxRecDepth 20000 in
theorem wd_928 : (.code yX6_cashes cX6_cashes 5 (some .int) : Cond) ∈ lw_all := in_all 928 (by decide +kernel) (by decide +kernel)
set_option maxRecDepth 20000 in
theorem wd_929 : (.methodLink RL 114 yX6_voidRun : Cond) ∈ lw_all := in_all 929 (by decide +kernel) (by decide +kernel)
set_option maxRecDepth 20000 in
theorem wd_930 : (.instanceMethod yX6_voidRun : Cond) ∈ lw_all := in_all 930 (by decide +kernel) (by decide +kernel)
set_option maxRecDepth 20000 in
theorem wd_931 : (.selects RX6 yX6_voidRun yX6_voidRun : Cond) ∈ lw_all := in_all 931 (by decide +kernel) (by decide +kernel)
set_option maxRecDepth 20000 in
theorem wd_932 : (.code yX6_voidRun cX6_voidRun 3 (some .int) : Cond) ∈ lw_all := in_all 932 (by decide +kernel) (by decide +kernel)
set_option maxRecDepth 20000 in
theorem wd_933 : (.methodLink RX6 97 yX6_voids : Cond) ∈ lw_all := in_all 933 (by decide +kernel) (by decide +kernel)
set_option maxRecDepth 20000 in
theorem wd_935 : (.instanceMethod yX6_voids : Cond) ∈ lw_all := in_all 935 (by decide +kernel) (by decide +kernel)
set_option maxRecDepth 20000 in
theorem wd_936 : (.code yX6_voids cX6_voids 6 (some .int) : Cond) ∈ lw_all := in_all 936 (by decide +kernel) (by decide +kernel)
set_option maxRecDepth 20000 in
theorem wd_937 : (.methodLink RX6 65 yX6_isCheque : Cond) ∈ lw_all := in_all 937 (by decide +kernel) (by decide +kernel)
set_option maxRecDepth 20000 in
theorem wd_939 : (.instanceMethod yX6_isCheque : Cond) ∈ lw_all := in_all 939 (by decide +kernel) (by decide +kernel)
set_option maxRecDepth 20000 in
theorem wd_940 : (.code yX6_isCheque cX6_isCheque 2 (some .boolean) : Cond) ∈ lw_all := in_all 940 (by decide +kernel) (by decide +kernel)
set_option maxRecDepth 20000 in
theorem wd_941 : (.methodLink RX6 69 yX6_serialAt : Cond) ∈ lw_all := in_all 941 (by decide +kernel) (by decide +kernel)
set_option maxRecDepth 20000 in
theorem wd_943 : (.instanceMethod yX6_serialAt : Cond) ∈ lw_all := in_all 943 (by decide +kernel) (by decide +kernel)
set_option maxRecDepth 20000 in
theorem wd_944 : (.code yX6_serialAt cX6_serialAt 2 (some .int) : Cond) ∈ lw_all := in_all 944 (by decide +kernel) (by decide +kernel)
set_option maxRecDepth 20000 in
theorem wd_945 : (.methodLink RL 117 yX6_append : Cond) ∈ lw_all := in_all 945 (by decide +kernel) (by decide +kernel)
set_option maxRecDepth 20000 in
theorem wd_946 : (.instanceMethod yX6_append : Cond) ∈ lw_all := in_all 946 (by decide +kernel) (by decide +kernel)
set_option maxRecDepth 20000 in
theorem wd_947 : (.selects RX6 yX6_append yX6_append : Cond) ∈ lw_all := in_all 947 (by decide +kernel) (by decide +kernel)
set_option maxRecDepth 20000 in
theorem wd_948 : (.code yX6_append cX6_append 2 (some .int) : Cond) ∈ lw_all := in_all 948 (by decide +kernel) (by decide +kernel)
set_option maxRecDepth 20000 in
theorem wd_949 : (.methodLink RL 121 yX6_clearBuffer : Cond) ∈ lw_all := in_all 949 (by decide +kernel) (by decide +kernel)
set_option maxRecDepth 20000 in
theorem wd_950 : (.instanceMethod yX6_clearBuffer : Cond) ∈ lw_all := in_all 950 (by decide +kernel) (by decide +kernel)
set_option maxRecDepth 20000 in
theorem wd_951 : (.selects RX6 yX6_clearBuffer yX6_clearBuffer : Cond) ∈ lw_all := in_all 951 (by decide +kernel) (by decide +kernel)
set_option maxRecDepth 20000 in
theorem wd_952 : (.code yX6_clearBuffer cX6_clearBuffer 2 (some .int) : Cond) ∈ lw_all := in_all 952 (by decide +kernel) (by decide +kernel)
set_option maxRecDepth 20000 in
theorem wd_953 : (.methodLink RL 125 yX6_firstError : Cond) ∈ lw_all := in_all 953 (by decide +kernel) (by decide +kernel)
set_option maxRecDepth 20000 in
theorem wd_954 : (.instanceMethod yX6_firstError : Cond) ∈ lw_all := in_all 954 (by decide +kernel) (by decide +kernel)
set_option maxRecDepth 20000 in
theorem wd_955 : (.selects RX6 yX6_firstError yX6_firstError : Cond) ∈ lw_all := in_all 955 (by decide +kernel) (by decide +kernel)
set_option maxRecDepth 20000 in
theorem wd_956 : (.code yX6_firstError cX6_firstError 1 (some .int) : Cond) ∈ lw_all := in_all 956 (by decide +kernel) (by decide +kernel)
set_option maxRecDepth 20000 in
theorem wd_957 : (.methodLink RX6 128 yX6_isWhole : Cond) ∈ lw_all := in_all 957 (by decide +kernel) (by decide +kernel)
set_option maxRecDepth 20000 in
theorem wd_959 : (.instanceMethod yX6_isWhole : Cond) ∈ lw_all := in_all 959 (by decide +kernel) (by decide +kernel)
set_option maxRecDepth 20000 in
theorem wd_960 : (.code yX6_isWhole cX6_isWhole 2 (some .boolean) : Cond) ∈ lw_all := in_all 960 (by decide +kernel) (by decide +kernel)
set_option maxRecDepth 20000 in
theorem wd_961 : (.methodLink RX6 125 yX6_isOrder : Cond) ∈ lw_all := in_all 961 (by decide +kernel) (by decide +kernel)
set_option maxRecDepth 20000 in
theorem wd_963 : (.instanceMethod yX6_isOrder : Cond) ∈ lw_all := in_all 963 (by decide +kernel) (by decide +kernel)
set_option maxRecDepth 20000 in
theorem wd_964 : (.code yX6_isOrder cX6_isOrder 2 (some .boolean) : Cond) ∈ lw_all := in_all 964 (by decide +kernel) (by decide +kernel)
set_option maxRecDepth 20000 in
theorem wd_965 : (.methodLink RX6 106 yX6_sees : Cond) ∈ lw_all := in_all 965 (by decide +kernel) (by decide +kernel)
set_option maxRecDepth 20000 in
theorem wd_967 : (.instanceMethod yX6_sees : Cond) ∈ lw_all := in_all 967 (by decide +kernel) (by decide +kernel)
set_option maxRecDepth 20000 in
theorem wd_968 : (.code yX6_sees cX6_sees 3 (some .boolean) : Cond) ∈ lw_all := in_all 968 (by decide +kernel) (by decide +kernel)
set_option maxRecDepth 20000 in
theorem wd_969 : (.methodLink RX6 112 yX6_isSix : Cond) ∈ lw_all := in_all 969 (by decide +kernel) (by decide +kernel)
set_option maxRecDepth 20000 in
theorem wd_971 : (.instanceMethod yX6_isSix : Cond) ∈ lw_all := in_all 971 (by decide +kernel) (by decide +kernel)
set_option maxRecDepth 20000 in
theorem wd_972 : (.code yX6_isSix cX6_isSix 4 (some .boolean) : Cond) ∈ lw_all := in_all 972 (by decide +kernel) (by decide +kernel)
set_option maxRecDepth 20000 in
theorem wd_973 : (.methodLink RX6 115 yX6_takes : Cond) ∈ lw_all := in_all 973 (by decide +kernel) (by decide +kernel)
set_option maxRecDepth 20000 in
theorem wd_975 : (.instanceMethod yX6_takes : Cond) ∈ lw_all := in_all 975 (by decide +kernel) (by decide +kernel)
set_option maxRecDepth 20000 in
theorem wd_976 : (.code yX6_takes cX6_takes 3 (some .boolean) : Cond) ∈ lw_all := in_all 976 (by decide +kernel) (by decide +kernel)
set_option maxRecDepth 20000 in
theorem wd_977 : (.methodLink RX6 118 yX6_isNumber : Cond) ∈ lw_all := in_all 977 (by decide +kernel) (by decide +kernel)
set_option maxRecDepth 20000 in
theorem wd_979 : (.instanceMethod yX6_isNumber : Cond) ∈ lw_all := in_all 979 (by decide +kernel) (by decide +kernel)
set_option maxRecDepth 20000 in
theorem wd_980 : (.code yX6_isNumber cX6_isNumber 3 (some .boolean) : Cond) ∈ lw_all := in_all 980 (by decide +kernel) (by decide +kernel)
set_option maxRecDepth 20000 in
theorem wd_981 : (.methodLink RX6 121 yX6_isSign : Cond) ∈ lw_all := in_all 981 (by decide +kernel) (by decide +kernel)
set_option maxRecDepth 20000 in
theorem wd_983 : (.instanceMethod yX6_isSign : Cond) ∈ lw_all := in_all 983 (by decide +kernel) (by decide +kernel)
set_option maxRecDepth 20000 in
theorem wd_984 : (.code yX6_isSign cX6_isSign 1 (some .boolean) : Cond) ∈ lw_all := in_all 984 (by decide +kernel) (by decide +kernel)
set_option maxRecDepth 20000 in
theorem wd_985 : (.methodLink RL 129 yX6_execute : Cond) ∈ lw_all := in_all 985 (by decide +kernel) (by decide +kernel)
set_option maxRecDepth 20000 in
theorem wd_986 : (.instanceMethod yX6_execute : Cond) ∈ lw_all := in_all 986 (by decide +kernel) (by decide +kernel)
set_option maxRecDepth 20000 in
theorem wd_987 : (.selects RX6 yX6_execute yX6_execute : Cond) ∈ lw_all := in_all 987 (by decide +kernel) (by decide +kernel)
set_option maxRecDepth 20000 in
theorem wd_988 : (.code yX6_execute cX6_execute 2 (some .int) : Cond) ∈ lw_all := in_all 988 (by decide +kernel) (by decide +kernel)
set_option maxRecDepth 20000 in
theorem wd_989 : (.methodLink RX6 131 yX6_isDone : Cond) ∈ lw_all := in_all 989 (by decide +kernel) (by decide +kernel)
set_option maxRecDepth 20000 in
theorem wd_991 : (.instanceMethod yX6_isDone : Cond) ∈ lw_all := in_all 991 (by decide +kernel) (by decide +kernel)
set_option maxRecDepth 20000 in
theorem wd_992 : (.code yX6_isDone cX6_isDone 6 (some .boolean) : Cond) ∈ lw_all := in_all 992 (by decide +kernel) (by decide +kernel)
set_option maxRecDepth 20000 in
theorem wd_993 : (.methodLink RL 132 yX6_undo : Cond) ∈ lw_all := in_all 993 (by decide +kernel) (by decide +kernel)
set_option maxRecDepth 20000 in
theorem wd_994 : (.instanceMethod yX6_undo : Cond) ∈ lw_all := in_all 994 (by decide +kernel) (by decide +kernel)
set_option maxRecDepth 20000 in
theorem wd_995 : (.selects RX6 yX6_undo yX6_undo : Cond) ∈ lw_all := in_all 995 (by decide +kernel) (by decide +kernel)
set_option maxRecDepth 20000 in
theorem wd_996 : (.code yX6_undo cX6_undo 1 (some .int) : Cond) ∈ lw_all := in_all 996 (by decide +kernel) (by decide +kernel)
set_option maxRecDepth 20000 in
theorem wd_997 : (.methodLink RL 135 yX6_keep : Cond) ∈ lw_all := in_all 997 (by decide +kernel) (by decide +kernel)
set_option maxRecDepth 20000 in
theorem wd_998 : (.instanceMethod yX6_keep : Cond) ∈ lw_all := in_all 998 (by decide +kernel) (by decide +kernel)
set_option maxRecDepth 20000 in
theorem wd_999 : (.selects RX6 yX6_keep yX6_keep : Cond) ∈ lw_all := in_all 999 (by decide +kernel) (by decide +kernel)
set_option maxRecDepth 20000 in
theorem wd_1000 : (.code yX6_keep cX6_keep 2 (some .int) : Cond) ∈ lw_all := in_all 1000 (by decide +kernel) (by decide +kernel)
set_option maxRecDepth 20000 in
theorem wd_1001 : (.methodLink RL 138 yX6_goBack : Cond) ∈ lw_all := in_all 1001 (by decide +kernel) (by decide +kernel)
set_option maxRecDepth 20000 in
theorem wd_1002 : (.instanceMethod yX6_goBack : Cond) ∈ lw_all := in_all 1002 (by decide +kernel) (by decide +kernel)
set_option maxRecDepth 20000 in
theorem wd_1003 : (.selects RX6 yX6_goBack yX6_goBack : Cond) ∈ lw_all := in_all 1003 (by decide +kernel) (by decide +kernel)
set_option maxRecDepth 20000 in
theorem wd_1004 : (.code yX6_goBack cX6_goBack 2 (some .int) : Cond) ∈ lw_all := in_all 1004 (by decide +kernel) (by decide +kernel)
set_option maxRecDepth 20000 in
theorem wd_1005 : (.methodLink RL 141 yX6_letter : Cond) ∈ lw_all := in_all 1005 (by decide +kernel) (by decide +kernel)
set_option maxRecDepth 20000 in
theorem wd_1006 : (.instanceMethod yX6_letter : Cond) ∈ lw_all := in_all 1006 (by decide +kernel) (by decide +kernel)
set_option maxRecDepth 20000 in
theorem wd_1007 : (.selects RX6 yX6_letter yX6_letter : Cond) ∈ lw_all := in_all 1007 (by decide +kernel) (by decide +kernel)
set_option maxRecDepth 20000 in
theorem wd_1008 : (.code yX6_letter cX6_letter 2 (some .int) : Cond) ∈ lw_all := in_all 1008 (by decide +kernel) (by decide +kernel)
set_option maxRecDepth 20000 in
theorem wd_1009 : (.methodLink RL 144 yX6_cheque : Cond) ∈ lw_all := in_all 1009 (by decide +kernel) (by decide +kernel)
set_option maxRecDepth 20000 in
theorem wd_1010 : (.instanceMethod yX6_cheque : Cond) ∈ lw_all := in_all 1010 (by decide +kernel) (by decide +kernel)
set_option maxRecDepth 20000 in
theorem wd_1011 : (.selects RX6 yX6_cheque yX6_cheque : Cond) ∈ lw_all := in_all 1011 (by decide +kernel) (by decide +kernel)
set_option maxRecDepth 20000 in
theorem wd_1012 : (.code yX6_cheque cX6_cheque 4 (some .int) : Cond) ∈ lw_all := in_all 1012 (by decide +kernel) (by decide +kernel)
set_option maxRecDepth 20000 in
theorem wd_1013 : (.methodLink RX6 137 yX6_aboutCheque : Cond) ∈ lw_all := in_all 1013 (by decide +kernel) (by decide +kernel)
set_option maxRecDepth 20000 in
theorem wd_1015 : (.instanceMethod yX6_aboutCheque : Cond) ∈ lw_all := in_all 1015 (by decide +kernel) (by decide +kernel)
set_option maxRecDepth 20000 in
theorem wd_1016 : (.code yX6_aboutCheque cX6_aboutCheque 3 (some .int) : Cond) ∈ lw_all := in_all 1016 (by decide +kernel) (by decide +kernel)
set_option maxRecDepth 20000 in
theorem wd_1017 : (.methodLink RX6 134 yX6_runFrom : Cond) ∈ lw_all := in_all 1017 (by decide +kernel) (by decide +kernel)
set_option maxRecDepth 20000 in
theorem wd_1019 : (.instanceMethod yX6_runFrom : Cond) ∈ lw_all := in_all 1019 (by decide +kernel) (by decide +kernel)
set_option maxRecDepth 20000 in
theorem wd_1020 : (.code yX6_runFrom cX6_runFrom 3 (some .int) : Cond) ∈ lw_all := in_all 1020 (by decide +kernel) (by decide +kernel)
set_option maxRecDepth 20000 in
theorem wd_1021 : (.methodLink RL 147 yX6_bookOf : Cond) ∈ lw_all := in_all 1021 (by decide +kernel) (by decide +kernel)
set_option maxRecDepth 20000 in
theorem wd_1022 : (.instanceMethod yX6_bookOf : Cond) ∈ lw_all := in_all 1022 (by decide +kernel) (by decide +kernel)
set_option maxRecDepth 20000 in
theorem wd_1023 : (.selects RX6 yX6_bookOf yX6_bookOf : Cond) ∈ lw_all := in_all 1023 (by decide +kernel) (by decide +kernel)
set_option maxRecDepth 20000 in
theorem wd_1024 : (.code yX6_bookOf cX6_bookOf 3 (some .int) : Cond) ∈ lw_all := in_all 1024 (by decide +kernel) (by decide +kernel)
set_option maxRecDepth 20000 in
theorem wd_1025 : (.methodLink RX6 150 yX6_aboutBook : Cond) ∈ lw_all := in_all 1025 (by decide +kernel) (by decide +kernel)
set_option maxRecDepth 20000 in
theorem wd_1027 : (.instanceMethod yX6_aboutBook : Cond) ∈ lw_all := in_all 1027 (by decide +kernel) (by decide +kernel)
set_option maxRecDepth 20000 in
theorem wd_1028 : (.code yX6_aboutBook cX6_aboutBook 4 (some .int) : Cond) ∈ lw_all := in_all 1028 (by decide +kernel) (by decide +kernel)
set_option maxRecDepth 20000 in
theorem wd_1029 : (.methodLink RX6 140 yX6_amounts : Cond) ∈ lw_all := in_all 1029 (by decide +kernel) (by decide +kernel)
set_option maxRecDepth 20000 in
theorem wd_1031 : (.instanceMethod yX6_amounts : Cond) ∈ lw_all := in_all 1031 (by decide +kernel) (by decide +kernel)
set_option maxRecDepth 20000 in
theorem wd_1032 : (.code yX6_amounts cX6_amounts 6 (some .int) : Cond) ∈ lw_all := in_all 1032 (by decide +kernel) (by decide +kernel)
set_option maxRecDepth 20000 in
theorem wd_1033 : (.methodLink RX6 144 yX6_firstBlank : Cond) ∈ lw_all := in_all 1033 (by decide +kernel) (by decide +kernel)
set_option maxRecDepth 20000 in
theorem wd_1035 : (.instanceMethod yX6_firstBlank : Cond) ∈ lw_all := in_all 1035 (by decide +kernel) (by decide +kernel)
set_option maxRecDepth 20000 in
theorem wd_1036 : (.code yX6_firstBlank cX6_firstBlank 3 (some .int) : Cond) ∈ lw_all := in_all 1036 (by decide +kernel) (by decide +kernel)
set_option maxRecDepth 20000 in
theorem wd_1037 : (.methodLink RX6 147 yX6_ofKind : Cond) ∈ lw_all := in_all 1037 (by decide +kernel) (by decide +kernel)
set_option maxRecDepth 20000 in
theorem wd_1039 : (.instanceMethod yX6_ofKind : Cond) ∈ lw_all := in_all 1039 (by decide +kernel) (by decide +kernel)
set_option maxRecDepth 20000 in
theorem wd_1040 : (.code yX6_ofKind cX6_ofKind 6 (some .int) : Cond) ∈ lw_all := in_all 1040 (by decide +kernel) (by decide +kernel)
set_option maxRecDepth 20000 in
theorem wd_1041 : (.methodLink RL 150 yX6_count : Cond) ∈ lw_all := in_all 1041 (by decide +kernel) (by decide +kernel)
set_option maxRecDepth 20000 in
theorem wd_1042 : (.instanceMethod yX6_count : Cond) ∈ lw_all := in_all 1042 (by decide +kernel) (by decide +kernel)
set_option maxRecDepth 20000 in
theorem wd_1043 : (.selects RX6 yX6_count yX6_count : Cond) ∈ lw_all := in_all 1043 (by decide +kernel) (by decide +kernel)
set_option maxRecDepth 20000 in
theorem wd_1044 : (.code yX6_count cX6_count 2 (some .int) : Cond) ∈ lw_all := in_all 1044 (by decide +kernel) (by decide +kernel)
set_option maxRecDepth 20000 in
theorem wd_1045 : (.methodLink RX6 157 yX6_counted : Cond) ∈ lw_all := in_all 1045 (by decide +kernel) (by decide +kernel)
set_option maxRecDepth 20000 in
theorem wd_1047 : (.instanceMethod yX6_counted : Cond) ∈ lw_all := in_all 1047 (by decide +kernel) (by decide +kernel)
set_option maxRecDepth 20000 in
theorem wd_1048 : (.code yX6_counted cX6_counted 3 (some .int) : Cond) ∈ lw_all := in_all 1048 (by decide +kernel) (by decide +kernel)
set_option maxRecDepth 20000 in
theorem wd_1049 : (.methodLink RX6 153 yX6_cheques : Cond) ∈ lw_all := in_all 1049 (by decide +kernel) (by decide +kernel)
set_option maxRecDepth 20000 in
theorem wd_1051 : (.instanceMethod yX6_cheques : Cond) ∈ lw_all := in_all 1051 (by decide +kernel) (by decide +kernel)
set_option maxRecDepth 20000 in
theorem wd_1052 : (.code yX6_cheques cX6_cheques 3 (some .int) : Cond) ∈ lw_all := in_all 1052 (by decide +kernel) (by decide +kernel)
set_option maxRecDepth 20000 in
theorem wd_1053 : (.methodLink RL 153 yX6_ranked : Cond) ∈ lw_all := in_all 1053 (by decide +kernel) (by decide +kernel)
set_option maxRecDepth 20000 in
theorem wd_1054 : (.instanceMethod yX6_ranked : Cond) ∈ lw_all := in_all 1054 (by decide +kernel) (by decide +kernel)
set_option maxRecDepth 20000 in
theorem wd_1055 : (.selects RX6 yX6_ranked yX6_ranked : Cond) ∈ lw_all := in_all 1055 (by decide +kernel) (by decide +kernel)
set_option maxRecDepth 20000 in
theorem wd_1056 : (.code yX6_ranked cX6_ranked 4 (some .int) : Cond) ∈ lw_all := in_all 1056 (by decide +kernel) (by decide +kernel)
set_option maxRecDepth 20000 in
theorem wd_1057 : (.methodLink RX6 160 yX6_next : Cond) ∈ lw_all := in_all 1057 (by decide +kernel) (by decide +kernel)
set_option maxRecDepth 20000 in
theorem wd_1059 : (.instanceMethod yX6_next : Cond) ∈ lw_all := in_all 1059 (by decide +kernel) (by decide +kernel)
set_option maxRecDepth 20000 in
theorem wd_1060 : (.code yX6_next cX6_next 5 (some .int) : Cond) ∈ lw_all := in_all 1060 (by decide +kernel) (by decide +kernel)
set_option maxRecDepth 20000 in
theorem wd_1061 : (.methodLink RL 156 yX6_missed : Cond) ∈ lw_all := in_all 1061 (by decide +kernel) (by decide +kernel)
set_option maxRecDepth 20000 in
theorem wd_1062 : (.instanceMethod yX6_missed : Cond) ∈ lw_all := in_all 1062 (by decide +kernel) (by decide +kernel)
set_option maxRecDepth 20000 in
theorem wd_1063 : (.selects RX6 yX6_missed yX6_missed : Cond) ∈ lw_all := in_all 1063 (by decide +kernel) (by decide +kernel)
set_option maxRecDepth 20000 in
theorem wd_1064 : (.code yX6_missed cX6_missed 3 (some .int) : Cond) ∈ lw_all := in_all 1064 (by decide +kernel) (by decide +kernel)
set_option maxRecDepth 20000 in
theorem wd_1065 : (.methodLink RX6 166 yX6_missedDigits : Cond) ∈ lw_all := in_all 1065 (by decide +kernel) (by decide +kernel)
set_option maxRecDepth 20000 in
theorem wd_1067 : (.instanceMethod yX6_missedDigits : Cond) ∈ lw_all := in_all 1067 (by decide +kernel) (by decide +kernel)
set_option maxRecDepth 20000 in
theorem wd_1068 : (.code yX6_missedDigits cX6_missedDigits 5 (some .int) : Cond) ∈ lw_all := in_all 1068 (by decide +kernel) (by decide +kernel)
set_option maxRecDepth 20000 in
theorem wd_1069 : (.methodLink RX6 163 yX6_isLeft : Cond) ∈ lw_all := in_all 1069 (by decide +kernel) (by decide +kernel)
set_option maxRecDepth 20000 in
theorem wd_1071 : (.instanceMethod yX6_isLeft : Cond) ∈ lw_all := in_all 1071 (by decide +kernel) (by decide +kernel)
set_option maxRecDepth 20000 in
theorem wd_1072 : (.code yX6_isLeft cX6_isLeft 3 (some .boolean) : Cond) ∈ lw_all := in_all 1072 (by decide +kernel) (by decide +kernel)
set_option maxRecDepth 20000 in
theorem wd_1073 : (.methodLink RX6 169 yX6_missedSwaps : Cond) ∈ lw_all := in_all 1073 (by decide +kernel) (by decide +kernel)
set_option maxRecDepth 20000 in
theorem wd_1075 : (.instanceMethod yX6_missedSwaps : Cond) ∈ lw_all := in_all 1075 (by decide +kernel) (by decide +kernel)
set_option maxRecDepth 20000 in
theorem wd_1076 : (.code yX6_missedSwaps cX6_missedSwaps 5 (some .int) : Cond) ∈ lw_all := in_all 1076 (by decide +kernel) (by decide +kernel)
set_option maxRecDepth 20000 in
theorem wd_1077 : (.methodLink RL 160 yX6_weak : Cond) ∈ lw_all := in_all 1077 (by decide +kernel) (by decide +kernel)
set_option maxRecDepth 20000 in
theorem wd_1078 : (.instanceMethod yX6_weak : Cond) ∈ lw_all := in_all 1078 (by decide +kernel) (by decide +kernel)
set_option maxRecDepth 20000 in
theorem wd_1079 : (.selects RX6 yX6_weak yX6_weak : Cond) ∈ lw_all := in_all 1079 (by decide +kernel) (by decide +kernel)
set_option maxRecDepth 20000 in
theorem wd_1080 : (.code yX6_weak cX6_weak 4 (some .int) : Cond) ∈ lw_all := in_all 1080 (by decide +kernel) (by decide +kernel)
set_option maxRecDepth 20000 in
theorem wd_1081 : (.methodLink RX6 175 yX6_weakAt : Cond) ∈ lw_all := in_all 1081 (by decide +kernel) (by decide +kernel)
set_option maxRecDepth 20000 in
theorem wd_1083 : (.instanceMethod yX6_weakAt : Cond) ∈ lw_all := in_all 1083 (by decide +kernel) (by decide +kernel)
set_option maxRecDepth 20000 in
theorem wd_1084 : (.code yX6_weakAt cX6_weakAt 3 (some .int) : Cond) ∈ lw_all := in_all 1084 (by decide +kernel) (by decide +kernel)
set_option maxRecDepth 20000 in
theorem wd_1085 : (.methodLink RX6 172 yX6_pairs : Cond) ∈ lw_all := in_all 1085 (by decide +kernel) (by decide +kernel)
set_option maxRecDepth 20000 in
theorem wd_1087 : (.instanceMethod yX6_pairs : Cond) ∈ lw_all := in_all 1087 (by decide +kernel) (by decide +kernel)
set_option maxRecDepth 20000 in
theorem wd_1088 : (.code yX6_pairs cX6_pairs 4 (some .int) : Cond) ∈ lw_all := in_all 1088 (by decide +kernel) (by decide +kernel)
set_option maxRecDepth 20000 in
theorem wd_1089 : (.methodLink RL 163 yX6_finds : Cond) ∈ lw_all := in_all 1089 (by decide +kernel) (by decide +kernel)
set_option maxRecDepth 20000 in
theorem wd_1090 : (.instanceMethod yX6_finds : Cond) ∈ lw_all := in_all 1090 (by decide +kernel) (by decide +kernel)
set_option maxRecDepth 20000 in
theorem wd_1091 : (.selects RX6 yX6_finds yX6_finds : Cond) ∈ lw_all := in_all 1091 (by decide +kernel) (by decide +kernel)
set_option maxRecDepth 20000 in
theorem wd_1092 : (.code yX6_finds cX6_finds 2 (some .boolean) : Cond) ∈ lw_all := in_all 1092 (by decide +kernel) (by decide +kernel)
set_option maxRecDepth 20000 in
theorem wd_1093 : (.methodLink RX6 178 yX6_weakOf : Cond) ∈ lw_all := in_all 1093 (by decide +kernel) (by decide +kernel)
set_option maxRecDepth 20000 in
theorem wd_1095 : (.instanceMethod yX6_weakOf : Cond) ∈ lw_all := in_all 1095 (by decide +kernel) (by decide +kernel)
set_option maxRecDepth 20000 in
theorem wd_1096 : (.code yX6_weakOf cX6_weakOf 4 (some .int) : Cond) ∈ lw_all := in_all 1096 (by decide +kernel) (by decide +kernel)
set_option maxRecDepth 20000 in
theorem wd_1097 : (.methodLink RL 166 yX6_bestWeight : Cond) ∈ lw_all := in_all 1097 (by decide +kernel) (by decide +kernel)
set_option maxRecDepth 20000 in
theorem wd_1098 : (.instanceMethod yX6_bestWeight : Cond) ∈ lw_all := in_all 1098 (by decide +kernel) (by decide +kernel)
set_option maxRecDepth 20000 in
theorem wd_1099 : (.selects RX6 yX6_bestWeight yX6_bestWeight : Cond) ∈ lw_all := in_all 1099 (by decide +kernel) (by decide +kernel)
set_option maxRecDepth 20000 in
theorem wd_1100 : (.code yX6_bestWeight cX6_bestWeight 8 (some .int) : Cond) ∈ lw_all := in_all 1100 (by decide +kernel) (by decide +kernel)
set_option maxRecDepth 20000 in
theorem wd_1101 : (.methodLink RL 169 yX6_meant : Cond) ∈ lw_all := in_all 1101 (by decide +kernel) (by decide +kernel)
set_option maxRecDepth 20000 in
theorem wd_1102 : (.instanceMethod yX6_meant : Cond) ∈ lw_all := in_all 1102 (by decide +kernel) (by decide +kernel)
set_option maxRecDepth 20000 in
theorem wd_1103 : (.selects RX6 yX6_meant yX6_meant : Cond) ∈ lw_all := in_all 1103 (by decide +kernel) (by decide +kernel)
set_option maxRecDepth 20000 in
theorem wd_1104 : (.code yX6_meant cX6_meant 4 (some .int) : Cond) ∈ lw_all := in_all 1104 (by decide +kernel) (by decide +kernel)
set_option maxRecDepth 20000 in
theorem wd_1105 : (.methodLink RX6 187 yX6_meantBy : Cond) ∈ lw_all := in_all 1105 (by decide +kernel) (by decide +kernel)
set_option maxRecDepth 20000 in
theorem wd_1107 : (.instanceMethod yX6_meantBy : Cond) ∈ lw_all := in_all 1107 (by decide +kernel) (by decide +kernel)
set_option maxRecDepth 20000 in
theorem wd_1108 : (.code yX6_meantBy cX6_meantBy 7 (some .int) : Cond) ∈ lw_all := in_all 1108 (by decide +kernel) (by decide +kernel)
set_option maxRecDepth 20000 in
theorem wd_1109 : (.methodLink RX6 184 yX6_slipOf : Cond) ∈ lw_all := in_all 1109 (by decide +kernel) (by decide +kernel)
set_option maxRecDepth 20000 in
theorem wd_1111 : (.instanceMethod yX6_slipOf : Cond) ∈ lw_all := in_all 1111 (by decide +kernel) (by decide +kernel)
set_option maxRecDepth 20000 in
theorem wd_1112 : (.code yX6_slipOf cX6_slipOf 5 (some .int) : Cond) ∈ lw_all := in_all 1112 (by decide +kernel) (by decide +kernel)
set_option maxRecDepth 20000 in
theorem wd_1113 : (.methodLink RX6 181 yX6_way : Cond) ∈ lw_all := in_all 1113 (by decide +kernel) (by decide +kernel)
set_option maxRecDepth 20000 in
theorem wd_1114 : (.static yX6_way : Cond) ∈ lw_all := in_all 1114 (by decide +kernel) (by decide +kernel)
set_option maxRecDepth 20000 in
theorem wd_1115 : (.code yX6_way cX6_way 6 (some .int) : Cond) ∈ lw_all := in_all 1115 (by decide +kernel) (by decide +kernel)
set_option maxRecDepth 20000 in
theorem wd_1116 : (.methodLink RL 172 yX6_slip : Cond) ∈ lw_all := in_all 1116 (by decide +kernel) (by decide +kernel)
set_option maxRecDepth 20000 in
theorem wd_1117 : (.instanceMethod yX6_slip : Cond) ∈ lw_all := in_all 1117 (by decide +kernel) (by decide +kernel)
set_option maxRecDepth 20000 in
theorem wd_1118 : (.selects RX6 yX6_slip yX6_slip : Cond) ∈ lw_all := in_all 1118 (by decide +kernel) (by decide +kernel)
set_option maxRecDepth 20000 in
theorem wd_1119 : (.code yX6_slip cX6_slip 4 (some .int) : Cond) ∈ lw_all := in_all 1119 (by decide +kernel) (by decide +kernel)
set_option maxRecDepth 20000 in
theorem wd_1120 : (.methodLink RL 177 yX6_cashed : Cond) ∈ lw_all := in_all 1120 (by decide +kernel) (by decide +kernel)
set_option maxRecDepth 20000 in
theorem wd_1121 : (.instanceMethod yX6_cashed : Cond) ∈ lw_all := in_all 1121 (by decide +kernel) (by decide +kernel)
set_option maxRecDepth 20000 in
theorem wd_1122 : (.selects RX6 yX6_cashed yX6_cashed : Cond) ∈ lw_all := in_all 1122 (by decide +kernel) (by decide +kernel)
set_option maxRecDepth 20000 in
theorem wd_1123 : (.code yX6_cashed cX6_cashed 4 (some .double) : Cond) ∈ lw_all := in_all 1123 (by decide +kernel) (by decide +kernel)
set_option maxRecDepth 20000 in
theorem wd_1124 : (.arrayClass .long : Cond) ∈ lw_all := in_all 1124 (by decide +kernel) (by decide +kernel)
abbrev wsX0_init : List Cond := .code yX0_init cX0_init 1 none :: lw_all
abbrev wsX0_copyFrom : List Cond := .code yX0_copyFrom cX0_copyFrom 2 none :: lw_all
abbrev wsX0_firstOf : List Cond := .code yX0_firstOf cX0_firstOf 2 (some .int) :: lw_all
abbrev wsX0_sizeOf : List Cond := .code yX0_sizeOf cX0_sizeOf 2 (some .int) :: lw_all
abbrev wsX0_canTake : List Cond := .code yX0_canTake cX0_canTake 5 (some .boolean) :: lw_all
abbrev wsX0_add : List Cond := .code yX0_add cX0_add 5 (some .int) :: lw_all
abbrev wsX0_cellOf : List Cond := .code yX0_cellOf cX0_cellOf 4 (some .int) :: lw_all
abbrev wsX0_kindAt : List Cond := .code yX0_kindAt cX0_kindAt 2 (some .int) :: lw_all
abbrev wsX0_amountAt : List Cond := .code yX0_amountAt cX0_amountAt 2 (some .int) :: lw_all
abbrev wsX0_setCell : List Cond := .code yX0_setCell cX0_setCell 4 none :: lw_all
abbrev wsX0_makeWritten : List Cond := .code yX0_makeWritten cX0_makeWritten 3 none :: lw_all
abbrev wsX0_makeCashed : List Cond := .code yX0_makeCashed cX0_makeCashed 2 none :: lw_all
abbrev wsX0_makeRunVoid : List Cond := .code yX0_makeRunVoid cX0_makeRunVoid 8 (some .int) :: lw_all
abbrev wsX0_makeVoid : List Cond := .code yX0_makeVoid cX0_makeVoid 3 (some .int) :: lw_all
abbrev wsX0_sameKindFrom : List Cond := .code yX0_sameKindFrom cX0_sameKindFrom 7 (some .int) :: lw_all
abbrev wsX0_numberOf : List Cond := .code yX0_numberOf cX0_numberOf 3 (some .int) :: lw_all
abbrev wsX0_numberOfAll : List Cond := .code yX0_numberOfAll cX0_numberOfAll 4 (some .int) :: lw_all
abbrev wsX0_chequesOf : List Cond := .code yX0_chequesOf cX0_chequesOf 6 (some .int) :: lw_all
abbrev wsX0_amountsOf : List Cond := .code yX0_amountsOf cX0_amountsOf 7 (some .int) :: lw_all
abbrev wsX0_firstBlankOf : List Cond := .code yX0_firstBlankOf cX0_firstBlankOf 4 (some .int) :: lw_all
abbrev wsX0_bookOfRank : List Cond := .code yX0_bookOfRank cX0_bookOfRank 3 (some .int) :: lw_all
abbrev wsX0_booksBefore : List Cond := .code yX0_booksBefore cX0_booksBefore 4 (some .int) :: lw_all
abbrev wsX0_serialOfRank : List Cond := .code yX0_serialOfRank cX0_serialOfRank 6 (some .int) :: lw_all
abbrev wsX1_init : List Cond := .code yX1_init cX1_init 2 none :: lw_all
abbrev wsX1_save : List Cond := .code yX1_save cX1_save 2 none :: lw_all
abbrev wsX1_dropOldest : List Cond := .code yX1_dropOldest cX1_dropOldest 3 none :: lw_all
abbrev wsX1_restoreLast : List Cond := .code yX1_restoreLast cX1_restoreLast 3 none :: lw_all
abbrev wsX1_isSlotFilled : List Cond := .code yX1_isSlotFilled cX1_isSlotFilled 2 (some .boolean) :: lw_all
abbrev wsX1_putIntoSlot : List Cond := .code yX1_putIntoSlot cX1_putIntoSlot 3 none :: lw_all
abbrev wsX1_restoreSlot : List Cond := .code yX1_restoreSlot cX1_restoreSlot 3 none :: lw_all
abbrev wsX1_copyState : List Cond := .code yX1_copyState cX1_copyState 2 none :: lw_all
abbrev wsX2_init : List Cond := .code yX2_init cX2_init 2 none :: lw_all
abbrev wsX2_copyFrom : List Cond := .code yX2_copyFrom cX2_copyFrom 2 none :: lw_all
abbrev wsX2_weightAt : List Cond := .code yX2_weightAt cX2_weightAt 2 (some .int) :: lw_all
abbrev wsX2_setWeight : List Cond := .code yX2_setWeight cX2_setWeight 3 none :: lw_all
abbrev wsX2_letterOf : List Cond := .code yX2_letterOf cX2_letterOf 5 (some .int) :: lw_all
abbrev wsX2_restOf : List Cond := .code yX2_restOf cX2_restOf 3 (some .int) :: lw_all
abbrev wsX2_digitAt : List Cond := .code yX2_digitAt cX2_digitAt 4 (some .int) :: lw_all
abbrev wsX2_factorAt : List Cond := .code yX2_factorAt cX2_factorAt 4 (some .int) :: lw_all
abbrev wsX2_isHidden : List Cond := .code yX2_isHidden cX2_isHidden 3 (some .boolean) :: lw_all
abbrev wsX2_hiddenPairsTried : List Cond := .code yX2_hiddenPairsTried cX2_hiddenPairsTried 5 (some .int) :: lw_all
abbrev wsX2_hiddenPairs : List Cond := .code yX2_hiddenPairs cX2_hiddenPairs 4 (some .int) :: lw_all
abbrev wsX2_hiddenPairsWith : List Cond := .code yX2_hiddenPairsWith cX2_hiddenPairsWith 7 (some .int) :: lw_all
abbrev wsX2_hidesNothing : List Cond := .code yX2_hidesNothing cX2_hidesNothing 3 (some .boolean) :: lw_all
abbrev wsX2_hiddenMisreadings : List Cond := .code yX2_hiddenMisreadings cX2_hiddenMisreadings 7 (some .int) :: lw_all
abbrev wsX2_hiddenSwaps : List Cond := .code yX2_hiddenSwaps cX2_hiddenSwaps 6 (some .int) :: lw_all
abbrev wsX2_slipKind : List Cond := .code yX2_slipKind cX2_slipKind 5 (some .int) :: lw_all
abbrev wsX2_digitSlip : List Cond := .code yX2_digitSlip cX2_digitSlip 5 (some .int) :: lw_all
abbrev wsX2_isSwapped : List Cond := .code yX2_isSwapped cX2_isSwapped 3 (some .boolean) :: lw_all
abbrev wsX3_init : List Cond := .code yX3_init cX3_init 1 none :: lw_all
abbrev wsX3_isFull : List Cond := .code yX3_isFull cX3_isFull 1 (some .boolean) :: lw_all
abbrev wsX3_add : List Cond := .code yX3_add cX3_add 2 (some .int) :: lw_all
abbrev wsX3_clear : List Cond := .code yX3_clear cX3_clear 2 (some .int) :: lw_all
abbrev wsX3_signAt : List Cond := .code yX3_signAt cX3_signAt 2 (some .int) :: lw_all
abbrev wsX3_numberIn : List Cond := .code yX3_numberIn cX3_numberIn 5 (some .int) :: lw_all
abbrev wsX3_errorIndex : List Cond := .code yX3_errorIndex cX3_errorIndex 3 (some .int) :: lw_all
abbrev wsX3_isComplete : List Cond := .code yX3_isComplete cX3_isComplete 3 (some .boolean) :: lw_all
abbrev wsX3_fits : List Cond := .code yX3_fits cX3_fits 5 (some .boolean) :: lw_all
abbrev wsX3_isWhole : List Cond := .code yX3_isWhole cX3_isWhole 4 (some .boolean) :: lw_all
abbrev wsX3_isDigit : List Cond := .code yX3_isDigit cX3_isDigit 1 (some .boolean) :: lw_all
abbrev wsX3_endsHead : List Cond := .code yX3_endsHead cX3_endsHead 2 (some .boolean) :: lw_all
abbrev wsX3_fitsBehindHead : List Cond := .code yX3_fitsBehindHead cX3_fitsBehindHead 4 (some .boolean) :: lw_all
abbrev wsX4_init : List Cond := .code yX4_init cX4_init 1 none :: lw_all
abbrev wsX4_copyFrom : List Cond := .code yX4_copyFrom cX4_copyFrom 2 none :: lw_all
abbrev wsX4_cashByReading : List Cond := .code yX4_cashByReading cX4_cashByReading 5 (some .int) :: lw_all
abbrev wsX4_reasonAgainstCashing : List Cond := .code yX4_reasonAgainstCashing cX4_reasonAgainstCashing 4 (some .int) :: lw_all
abbrev wsX4_meantCheques : List Cond := .code yX4_meantCheques cX4_meantCheques 9 (some .int) :: lw_all
abbrev wsX5_init : List Cond := .code yX5_init cX5_init 1 none :: lw_all
abbrev wsX5_weight : List Cond := .code yX5_weight cX5_weight 4 (some .int) :: lw_all
abbrev wsX5_modulus : List Cond := .code yX5_modulus cX5_modulus 3 (some .int) :: lw_all
abbrev wsX5_book : List Cond := .code yX5_book cX5_book 3 (some .int) :: lw_all
abbrev wsX5_write : List Cond := .code yX5_write cX5_write 3 (some .int) :: lw_all
abbrev wsX5_cash : List Cond := .code yX5_cash cX5_cash 3 (some .int) :: lw_all
abbrev wsX5_voidRun : List Cond := .code yX5_voidRun cX5_voidRun 3 (some .int) :: lw_all
abbrev wsX5_append : List Cond := .code yX5_append cX5_append 2 (some .int) :: lw_all
abbrev wsX5_clearBuffer : List Cond := .code yX5_clearBuffer cX5_clearBuffer 1 (some .int) :: lw_all
abbrev wsX5_firstError : List Cond := .code yX5_firstError cX5_firstError 1 (some .int) :: lw_all
abbrev wsX5_execute : List Cond := .code yX5_execute cX5_execute 2 (some .int) :: lw_all
abbrev wsX5_undo : List Cond := .code yX5_undo cX5_undo 1 (some .int) :: lw_all
abbrev wsX5_keep : List Cond := .code yX5_keep cX5_keep 2 (some .int) :: lw_all
abbrev wsX5_goBack : List Cond := .code yX5_goBack cX5_goBack 2 (some .int) :: lw_all
abbrev wsX5_letter : List Cond := .code yX5_letter cX5_letter 2 (some .int) :: lw_all
abbrev wsX5_cheque : List Cond := .code yX5_cheque cX5_cheque 4 (some .int) :: lw_all
abbrev wsX5_bookOf : List Cond := .code yX5_bookOf cX5_bookOf 3 (some .int) :: lw_all
abbrev wsX5_count : List Cond := .code yX5_count cX5_count 2 (some .int) :: lw_all
abbrev wsX5_ranked : List Cond := .code yX5_ranked cX5_ranked 2 (some .int) :: lw_all
abbrev wsX5_missed : List Cond := .code yX5_missed cX5_missed 3 (some .int) :: lw_all
abbrev wsX5_weak : List Cond := .code yX5_weak cX5_weak 5 (some .int) :: lw_all
abbrev wsX5_finds : List Cond := .code yX5_finds cX5_finds 2 (some .boolean) :: lw_all
abbrev wsX5_bestWeight : List Cond := .code yX5_bestWeight cX5_bestWeight 6 (some .int) :: lw_all
abbrev wsX5_meant : List Cond := .code yX5_meant cX5_meant 4 (some .int) :: lw_all
abbrev wsX5_slip : List Cond := .code yX5_slip cX5_slip 4 (some .int) :: lw_all
abbrev wsX5_cashed : List Cond := .code yX5_cashed cX5_cashed 2 (some .double) :: lw_all
abbrev wsX5_throwIfNoPosition : List Cond := .code yX5_throwIfNoPosition cX5_throwIfNoPosition 1 none :: lw_all
abbrev wsX5_throwIfNoSerial : List Cond := .code yX5_throwIfNoSerial cX5_throwIfNoSerial 1 none :: lw_all
abbrev wsX5_throwIfNoLetter : List Cond := .code yX5_throwIfNoLetter cX5_throwIfNoLetter 1 none :: lw_all
abbrev wsX5_throwIfNoSlipKind : List Cond := .code yX5_throwIfNoSlipKind cX5_throwIfNoSlipKind 1 none :: lw_all
abbrev wsX5_throwIfNoSlot : List Cond := .code yX5_throwIfNoSlot cX5_throwIfNoSlot 1 none :: lw_all
abbrev wsX5_throwIfFaulty : List Cond := .code yX5_throwIfFaulty cX5_throwIfFaulty 1 none :: lw_all
abbrev wsX5_isSerial : List Cond := .code yX5_isSerial cX5_isSerial 1 (some .boolean) :: lw_all
abbrev wsX5_positionsOf : List Cond := .code yX5_positionsOf cX5_positionsOf 1 (some .int) :: lw_all
abbrev wsX5_faultOfBook : List Cond := .code yX5_faultOfBook cX5_faultOfBook 3 (some .int) :: lw_all
abbrev wsX5_faultOfWriting : List Cond := .code yX5_faultOfWriting cX5_faultOfWriting 4 (some .int) :: lw_all
abbrev wsX5_faultOfRun : List Cond := .code yX5_faultOfRun cX5_faultOfRun 2 (some .int) :: lw_all
abbrev wsX5_runOrders : List Cond := .code yX5_runOrders cX5_runOrders 5 (some .int) :: lw_all
abbrev wsX5_runOrder : List Cond := .code yX5_runOrder cX5_runOrder 5 (some .boolean) :: lw_all
abbrev wsX5_runBook : List Cond := .code yX5_runBook cX5_runBook 3 (some .boolean) :: lw_all
abbrev wsX5_runWriting : List Cond := .code yX5_runWriting cX5_runWriting 3 (some .boolean) :: lw_all
abbrev wsX5_runVoiding : List Cond := .code yX5_runVoiding cX5_runVoiding 3 (some .boolean) :: lw_all
abbrev wsX5_copyRow : List Cond := .code yX5_copyRow cX5_copyRow 3 none :: lw_all
abbrev wsX6_init : List Cond := .code yX6_init cX6_init 2 none :: lw_all
abbrev wsX6_thrown : List Cond := .code yX6_thrown cX6_thrown 1 (some .int) :: lw_all
abbrev wsX6_refuses : List Cond := .code yX6_refuses cX6_refuses 2 (some .int) :: lw_all
abbrev wsX6_in : List Cond := .code yX6_in cX6_in 3 (some .boolean) :: lw_all
abbrev wsX6_isSerial : List Cond := .code yX6_isSerial cX6_isSerial 1 (some .boolean) :: lw_all
abbrev wsX6_isLetter : List Cond := .code yX6_isLetter cX6_isLetter 1 (some .boolean) :: lw_all
abbrev wsX6_lays : List Cond := .code yX6_lays cX6_lays 5 none :: lw_all
abbrev wsX6_saves : List Cond := .code yX6_saves cX6_saves 2 none :: lw_all
abbrev wsX6_digit : List Cond := .code yX6_digit cX6_digit 4 (some .int) :: lw_all
abbrev wsX6_letterOf : List Cond := .code yX6_letterOf cX6_letterOf 4 (some .int) :: lw_all
abbrev wsX6_firstOf : List Cond := .code yX6_firstOf cX6_firstOf 2 (some .int) :: lw_all
abbrev wsX6_countOf : List Cond := .code yX6_countOf cX6_countOf 2 (some .int) :: lw_all
abbrev wsX6_spotOf : List Cond := .code yX6_spotOf cX6_spotOf 5 (some .int) :: lw_all
abbrev wsX6_serialAt : List Cond := .code yX6_serialAt cX6_serialAt 2 (some .int) :: lw_all
abbrev wsX6_isCheque : List Cond := .code yX6_isCheque cX6_isCheque 2 (some .boolean) :: lw_all
abbrev wsX6_isTaken : List Cond := .code yX6_isTaken cX6_isTaken 5 (some .boolean) :: lw_all
abbrev wsX6_canBook : List Cond := .code yX6_canBook cX6_canBook 3 (some .boolean) :: lw_all
abbrev wsX6_books : List Cond := .code yX6_books cX6_books 5 (some .int) :: lw_all
abbrev wsX6_writes : List Cond := .code yX6_writes cX6_writes 3 none :: lw_all
abbrev wsX6_cashes : List Cond := .code yX6_cashes cX6_cashes 5 (some .int) :: lw_all
abbrev wsX6_voids : List Cond := .code yX6_voids cX6_voids 6 (some .int) :: lw_all
abbrev wsX6_weight : List Cond := .code yX6_weight cX6_weight 4 (some .int) :: lw_all
abbrev wsX6_modulus : List Cond := .code yX6_modulus cX6_modulus 3 (some .int) :: lw_all
abbrev wsX6_book : List Cond := .code yX6_book cX6_book 3 (some .int) :: lw_all
abbrev wsX6_write : List Cond := .code yX6_write cX6_write 4 (some .int) :: lw_all
abbrev wsX6_cash : List Cond := .code yX6_cash cX6_cash 3 (some .int) :: lw_all
abbrev wsX6_voidRun : List Cond := .code yX6_voidRun cX6_voidRun 3 (some .int) :: lw_all
abbrev wsX6_append : List Cond := .code yX6_append cX6_append 2 (some .int) :: lw_all
abbrev wsX6_clearBuffer : List Cond := .code yX6_clearBuffer cX6_clearBuffer 2 (some .int) :: lw_all
abbrev wsX6_sees : List Cond := .code yX6_sees cX6_sees 3 (some .boolean) :: lw_all
abbrev wsX6_takes : List Cond := .code yX6_takes cX6_takes 3 (some .boolean) :: lw_all
abbrev wsX6_isSix : List Cond := .code yX6_isSix cX6_isSix 4 (some .boolean) :: lw_all
abbrev wsX6_isNumber : List Cond := .code yX6_isNumber cX6_isNumber 3 (some .boolean) :: lw_all
abbrev wsX6_isSign : List Cond := .code yX6_isSign cX6_isSign 1 (some .boolean) :: lw_all
abbrev wsX6_isOrder : List Cond := .code yX6_isOrder cX6_isOrder 2 (some .boolean) :: lw_all
abbrev wsX6_isWhole : List Cond := .code yX6_isWhole cX6_isWhole 2 (some .boolean) :: lw_all
abbrev wsX6_firstError : List Cond := .code yX6_firstError cX6_firstError 1 (some .int) :: lw_all
abbrev wsX6_isDone : List Cond := .code yX6_isDone cX6_isDone 6 (some .boolean) :: lw_all
abbrev wsX6_execute : List Cond := .code yX6_execute cX6_execute 2 (some .int) :: lw_all
abbrev wsX6_undo : List Cond := .code yX6_undo cX6_undo 1 (some .int) :: lw_all
abbrev wsX6_keep : List Cond := .code yX6_keep cX6_keep 2 (some .int) :: lw_all
abbrev wsX6_goBack : List Cond := .code yX6_goBack cX6_goBack 2 (some .int) :: lw_all
abbrev wsX6_letter : List Cond := .code yX6_letter cX6_letter 2 (some .int) :: lw_all
abbrev wsX6_runFrom : List Cond := .code yX6_runFrom cX6_runFrom 3 (some .int) :: lw_all
abbrev wsX6_aboutCheque : List Cond := .code yX6_aboutCheque cX6_aboutCheque 3 (some .int) :: lw_all
abbrev wsX6_cheque : List Cond := .code yX6_cheque cX6_cheque 4 (some .int) :: lw_all
abbrev wsX6_ofKind : List Cond := .code yX6_ofKind cX6_ofKind 6 (some .int) :: lw_all
abbrev wsX6_amounts : List Cond := .code yX6_amounts cX6_amounts 6 (some .int) :: lw_all
abbrev wsX6_firstBlank : List Cond := .code yX6_firstBlank cX6_firstBlank 3 (some .int) :: lw_all
abbrev wsX6_aboutBook : List Cond := .code yX6_aboutBook cX6_aboutBook 4 (some .int) :: lw_all
abbrev wsX6_bookOf : List Cond := .code yX6_bookOf cX6_bookOf 3 (some .int) :: lw_all
abbrev wsX6_cheques : List Cond := .code yX6_cheques cX6_cheques 3 (some .int) :: lw_all
abbrev wsX6_counted : List Cond := .code yX6_counted cX6_counted 3 (some .int) :: lw_all
abbrev wsX6_count : List Cond := .code yX6_count cX6_count 2 (some .int) :: lw_all
abbrev wsX6_next : List Cond := .code yX6_next cX6_next 5 (some .int) :: lw_all
abbrev wsX6_ranked : List Cond := .code yX6_ranked cX6_ranked 4 (some .int) :: lw_all
abbrev wsX6_isLeft : List Cond := .code yX6_isLeft cX6_isLeft 3 (some .boolean) :: lw_all
abbrev wsX6_missedDigits : List Cond := .code yX6_missedDigits cX6_missedDigits 5 (some .int) :: lw_all
abbrev wsX6_missedSwaps : List Cond := .code yX6_missedSwaps cX6_missedSwaps 5 (some .int) :: lw_all
abbrev wsX6_missed : List Cond := .code yX6_missed cX6_missed 3 (some .int) :: lw_all
abbrev wsX6_pairs : List Cond := .code yX6_pairs cX6_pairs 4 (some .int) :: lw_all
abbrev wsX6_weakAt : List Cond := .code yX6_weakAt cX6_weakAt 3 (some .int) :: lw_all
abbrev wsX6_weak : List Cond := .code yX6_weak cX6_weak 4 (some .int) :: lw_all
abbrev wsX6_weakOf : List Cond := .code yX6_weakOf cX6_weakOf 4 (some .int) :: lw_all
abbrev wsX6_finds : List Cond := .code yX6_finds cX6_finds 2 (some .boolean) :: lw_all
abbrev wsX6_bestWeight : List Cond := .code yX6_bestWeight cX6_bestWeight 8 (some .int) :: lw_all
abbrev wsX6_way : List Cond := .code yX6_way cX6_way 6 (some .int) :: lw_all
abbrev wsX6_slipOf : List Cond := .code yX6_slipOf cX6_slipOf 5 (some .int) :: lw_all
abbrev wsX6_meantBy : List Cond := .code yX6_meantBy cX6_meantBy 7 (some .int) :: lw_all
abbrev wsX6_meant : List Cond := .code yX6_meant cX6_meant 4 (some .int) :: lw_all
abbrev wsX6_slip : List Cond := .code yX6_slip cX6_slip 4 (some .int) :: lw_all
abbrev wsX6_cashed : List Cond := .code yX6_cashed cX6_cashed 4 (some .double) :: lw_all
end
section

/-! ===== my kit: short judgements over the kit's (reads, updates), and the rows that walk by them ===== -/
/-- the nest links of the program, as words of the tables -/
def gN (U : State) : Prop := va_Nw (.methodLinkNest RX2 19 yX5_copyRow RX5) U ∧ va_Nw (.methodLinkNest RX0 24 yX5_copyRow RX5) U ∧ va_Nw (.methodLinkNest RX2 37 yX5_positionsOf RX5) U
abbrev gT (cI cZ cS cJ : ClassId) : List (ClassId × FieldType) := [(cI, .int), (cZ, .boolean), (cS, .object RX4), (cJ, .long)]
theorem i_X0 : ∀ w ∈ wsX00, w ∈ lw_all := fun w hw => List.mem_filter.mpr ⟨(by decide +kernel : ∀ w ∈ wsX00, w ∈ lw_tbl) w hw, (by decide +kernel : ∀ w ∈ wsX00, goodWord w = true) w hw⟩
theorem i_X1 : ∀ w ∈ wsX10, w ∈ lw_all := fun w hw => List.mem_filter.mpr ⟨(by decide +kernel : ∀ w ∈ wsX10, w ∈ lw_tbl) w hw, (by decide +kernel : ∀ w ∈ wsX10, goodWord w = true) w hw⟩
theorem i_X2 : ∀ w ∈ wsX20, w ∈ lw_all := fun w hw => List.mem_filter.mpr ⟨(by decide +kernel : ∀ w ∈ wsX20, w ∈ lw_tbl) w hw, (by decide +kernel : ∀ w ∈ wsX20, goodWord w = true) w hw⟩
theorem i_X3 : ∀ w ∈ wsX30, w ∈ lw_all := fun w hw => List.mem_filter.mpr ⟨(by decide +kernel : ∀ w ∈ wsX30, w ∈ lw_tbl) w hw, (by decide +kernel : ∀ w ∈ wsX30, goodWord w = true) w hw⟩
theorem i_X4 : ∀ w ∈ wsX40, w ∈ lw_all := fun w hw => List.mem_filter.mpr ⟨(by decide +kernel : ∀ w ∈ wsX40, w ∈ lw_tbl) w hw, (by decide +kernel : ∀ w ∈ wsX40, goodWord w = true) w hw⟩
theorem i_X5 : ∀ w ∈ wsX50, w ∈ lw_all := fun w hw => List.mem_filter.mpr ⟨(by decide +kernel : ∀ w ∈ wsX50, w ∈ lw_tbl) w hw, (by decide +kernel : ∀ w ∈ wsX50, goodWord w = true) w hw⟩
theorem i_X6 : ∀ w ∈ wsX60, w ∈ lw_all := fun w hw => List.mem_filter.mpr ⟨(by decide +kernel : ∀ w ∈ wsX60, w ∈ lw_tbl) w hw, (by decide +kernel : ∀ w ∈ wsX60, goodWord w = true) w hw⟩
/-- what a world's tables are -/
def gK (D : va_G) (tys : List (ClassId × FieldType)) (U : State) : Prop := va_K D vwCl tys U ∧ gN U
theorem gN.warm {s U : State} (hW : s.WarmedH U.vm) (h : gN s) : gN U := ⟨va_Nw.warmM hW h.1, va_Nw.warmM hW h.2.1, va_Nw.warmM hW h.2.2⟩
theorem gN.same {s U : State} (hW : s.vm = U.vm) (h : gN s) : gN U := ⟨va_Nw.same rfl hW h.1, va_Nw.same rfl hW h.2.1, va_Nw.same rfl hW h.2.2⟩
theorem gK.warm {D : va_G} {tys : List (ClassId × FieldType)} {s U : State} (hW : s.WarmedH U.vm) (h : gK D tys s) : gK D tys U := ⟨va_K.moved hW.alike h.1, h.2.warm hW⟩
theorem gK.same {D : va_G} {tys : List (ClassId × FieldType)} {s U : State} (hW : s.vm = U.vm) (h : gK D tys s) : gK D tys U := ⟨va_K.moved (by rw [hW]; exact Vm.Alike.refl U.vm) h.1, h.2.same hW⟩
/-- a reading method's start: its arguments, the tables, its world -/
def rP (D : va_G) (tys : List (ClassId × FieldType)) (ws : va_W) (av : List Value) : Array Value → State → Prop := fun v U => v = av.toArray ∧ gK D tys U ∧ va_P D vwCl ws U.heap
/-- its end: the answer; nothing is written -/
def rQ (v : Value) : Array Value → State → Outcome → State → Prop := fun _ st o t => o = .returned (some v) ∧ t.heap = st.heap
theorem rP_blind (D : va_G) (tys : List (ClassId × FieldType)) (ws : va_W) (av : List Value) : FrameBlind (rP D tys ws av) := fun _ _ _ _ h => ⟨h.1, h.2.1.same rfl, h.2.2⟩
/-- an updating method's start -/
def uP (D : va_G) (tys : List (ClassId × FieldType)) (ws : va_W) (av : List Value) : Array Value → State → Prop := fun v U => v = av.toArray ∧ gK D tys U ∧ va_P D vwCl ws U.heap ∧ va_D (fun _ => True) ws
/-- the addresses of a world -/
def uA (ws : va_W) : Nat → Prop := fun q => q ∈ ws.map (fun x => x.1)
/-- its end: the answer; its own cells hold the new world, all others are as they were -/
def uQ (D : va_G) (v : Option Value) (A : Nat → Prop) (ws' : va_W) : Array Value → State → Outcome → State → Prop := fun _ st o t => o = .returned v ∧ va_P D vwCl ws' t.heap ∧ va_F A st t
theorem uP_blind (D : va_G) (tys : List (ClassId × FieldType)) (ws : va_W) (av : List Value) : FrameBlind (uP D tys ws av) := fun _ _ _ _ h => ⟨h.1, h.2.1.same rfl, h.2.2⟩
/-- some places of a world set anew -/
def va_puts : va_W → List Nat → va_W → va_W
  | ws, i :: is, q :: qs => va_puts (ws.set i q) is qs
  | ws, _, _ => ws
theorem va_puts_get (ws : va_W) (is : List Nat) (qs : va_W) (k : Nat) (q : Nat × va_E) (h : (va_puts ws is qs)[k]? = some q) : (k ∉ is ∧ ws[k]? = some q) ∨ (∃ j : Nat, is[j]? = some k ∧ qs[j]? = some q) ∨ (ws[k]? = some q ∧ ∃ j : Nat, is[j]? = some k ∧ qs.length ≤ j) := by
  induction is generalizing ws qs with
  | nil => cases qs <;> exact Or.inl ⟨List.not_mem_nil, h⟩
  | cons i is ih =>
    cases qs with
    | nil =>
      by_cases hk : k ∈ i :: is
      · obtain ⟨j, hj⟩ := List.getElem?_of_mem hk
        exact Or.inr (Or.inr ⟨h, j, hj, Nat.zero_le _⟩)
      · exact Or.inl ⟨hk, h⟩
    | cons q0 qs =>
      rcases ih (ws.set i q0) qs h with ⟨h1, h2⟩ | ⟨j, h1, h2⟩ | ⟨h1, j, h2, h3⟩
      · by_cases hik : i = k
        · subst hik
          rw [List.getElem?_set] at h2
          simp only [if_true] at h2
          split at h2
          · exact Or.inr (Or.inl ⟨0, rfl, h2⟩)
          · cases h2
        · rw [List.getElem?_set, if_neg hik] at h2
          exact Or.inl ⟨fun hm => (List.mem_cons.mp hm).elim (fun e => hik e.symm) h1, h2⟩
      · exact Or.inr (Or.inl ⟨j + 1, h1, h2⟩)
      · by_cases hik : i = k
        · subst hik
          rw [List.getElem?_set] at h1
          simp only [if_true] at h1
          split at h1
          · exact Or.inr (Or.inl ⟨0, rfl, h1⟩)
          · cases h1
        · rw [List.getElem?_set, if_neg hik] at h1
          exact Or.inr (Or.inr ⟨h1, j + 1, h2, Nat.succ_le_succ h3⟩)
theorem va_D.alike {A : Nat → Prop} {ws ws' : va_W} (h : va_D A ws) (e : ws'.map (fun x => x.1) = ws.map (fun x => x.1)) : va_D A ws' := by
  have key : ∀ (k : Nat) (q : Nat × va_E), ws'[k]? = some q → ∃ q', ws[k]? = some q' ∧ q'.1 = q.1 := by
    intro k q hk
    have h1 : (ws'.map (fun x => x.1))[k]? = some q.1 := by rw [List.getElem?_map, hk]; rfl
    rw [e, List.getElem?_map] at h1
    cases hq : ws[k]? with
    | none => rw [hq] at h1; cases h1
    | some q' => rw [hq] at h1; exact ⟨q', rfl, Option.some.inj h1⟩
  refine ⟨fun i j p q hi hj hpq => ?_, fun k q hk => ?_⟩
  · obtain ⟨p', h1, h2⟩ := key i p hi
    obtain ⟨q', h3, h4⟩ := key j q hj
    exact h.1 i j p' q' h1 h3 (by rw [h2, h4, hpq])
  · obtain ⟨q', h1, h2⟩ := key k q hk
    rw [← h2]
    exact h.2 k q' h1
/-- behind an update of some cells: the whole world -/
theorem va_P.puts {A : Nat → Prop} {D : va_G} {cl : List vw_C} {ws wc wc' : va_W} {H H1 : Heap} (hP : va_P D cl ws H) (hD : va_D A ws) (is : List Nat) (hwc : is.map (fun i => ws[i]?) = wc.map some) (hl : wc'.length = is.length)
    (hk : ∀ q : Nat, q < H.size → ¬ uA wc q → H1[q]? = H[q]?) (hP1 : va_P D cl wc' H1) : va_P D cl (va_puts ws is wc') H1 := by
  intro k q hq
  rcases va_puts_get ws is wc' k q hq with ⟨h1, h2⟩ | ⟨j, h1, h2⟩ | ⟨-, j, h2, h3⟩
  · have hlt := (hP k q h2).lt
    refine (hP k q h2).kept (hk q.1 hlt fun hm => ?_)
    obtain ⟨x, hx, hxq⟩ := List.mem_map.mp hm
    obtain ⟨i, hi⟩ := List.getElem?_of_mem hx
    have h3 : (is.map (fun i => ws[i]?))[i]? = some (some x) := by rw [hwc, List.getElem?_map, hi]; rfl
    rw [List.getElem?_map] at h3
    cases hii : is[i]? with
    | none => rw [hii] at h3; cases h3
    | some i' =>
      rw [hii] at h3
      have h4 : ws[i']? = some x := Option.some.inj h3
      have := hD.1 i' k x q h4 h2 hxq
      subst this
      exact h1 (List.mem_of_getElem? hii)
  · exact hP1 j q h2
  · rw [hl] at h3
    have := (List.getElem?_eq_some_iff.mp h2).1
    omega
theorem uA.of {A : Nat → Prop} {ws wc : va_W} (hD : va_D A ws) (is : List Nat) (hwc : is.map (fun i => ws[i]?) = wc.map some) : ∀ q, uA wc q → A q := by
  intro q hm
  obtain ⟨x, hx, hxq⟩ := List.mem_map.mp hm
  obtain ⟨i, hi⟩ := List.getElem?_of_mem hx
  have h3 : (is.map (fun i => ws[i]?))[i]? = some (some x) := by rw [hwc, List.getElem?_map, hi]; rfl
  rw [List.getElem?_map] at h3
  cases hii : is[i]? with
  | none => rw [hii] at h3; cases h3
  | some i' =>
    rw [hii] at h3
    rw [← hxq]
    exact hD.2 i' x (Option.some.inj h3)
theorem va_D.own {A : Nat → Prop} {ws : va_W} (h : va_D A ws) : va_D (uA ws) ws := ⟨h.1, fun k q hk => List.mem_map.mpr ⟨q, List.mem_of_getElem? hk, rfl⟩⟩
theorem pick_map {ws wc : va_W} {is : List Nat} (h : is.map (fun i => ws[i]?) = wc.map some) : is.filterMap (fun i => ws[i]?) = wc := by
  induction is generalizing wc with
  | nil =>
    cases wc with
    | nil => rfl
    | cons a b => cases h
  | cons i is ih =>
    cases wc with
    | nil => cases h
    | cons a b =>
      simp only [List.map_cons, List.cons.injEq] at h
      rw [List.filterMap_cons, h.1]
      exact congrArg (List.cons a) (ih h.2)
/-- pure programs that may have no answer -/
theorem gd_at {α : Type} {c : Prop} {d : Decidable c} {x : Option α} {y : α} (h : @ite _ c d x none = some y) : c ∧ x = some y := by
  by_cases hc : c
  · rw [if_pos hc] at h
    exact ⟨hc, h⟩
  · rw [if_neg hc] at h
    cases h
theorem ite_t {α : Type} {c : Prop} {d : Decidable c} {x z y : α} (hc : c) (h : @ite _ c d x z = y) : x = y := by
  rw [if_pos hc] at h
  exact h
theorem ite_f {α : Type} {c : Prop} {d : Decidable c} {x z y : α} (hc : ¬ c) (h : @ite _ c d x z = y) : z = y := by
  rw [if_neg hc] at h
  exact h
def bd0 {γ : Type} (x : Option Unit) (f : Unit → Option γ) : Option γ := match x with | some _ => f () | none => none
def bd1 {α γ : Type} (x : Option α) (f : α → Option γ) : Option γ := match x with | some a => f a | none => none
def bd2 {α β γ : Type} (x : Option (α × β)) (f : α → β → Option γ) : Option γ := match x with | some (a, b) => f a b | none => none
def bd3 {α β δ γ : Type} (x : Option (α × β × δ)) (f : α → β → δ → Option γ) : Option γ := match x with | some (a, b, d) => f a b d | none => none
def bd4 {α β δ ε γ : Type} (x : Option (α × β × δ × ε)) (f : α → β → δ → ε → Option γ) : Option γ := match x with | some (a, b, d, e) => f a b d e | none => none
def bd5 {α β δ ε ζ γ : Type} (x : Option (α × β × δ × ε × ζ)) (f : α → β → δ → ε → ζ → Option γ) : Option γ := match x with | some (a, b, d, e, z) => f a b d e z | none => none
def bd6 {α β δ ε ζ η γ : Type} (x : Option (α × β × δ × ε × ζ × η)) (f : α → β → δ → ε → ζ → η → Option γ) : Option γ := match x with | some (a, b, d, e, z, i) => f a b d e z i | none => none
def bd7 {α β δ ε ζ η θ γ : Type} (x : Option (α × β × δ × ε × ζ × η × θ)) (f : α → β → δ → ε → ζ → η → θ → Option γ) : Option γ := match x with | some (a, b, d, e, z, i, j) => f a b d e z i j | none => none
def bd8 {α β δ ε ζ η θ κ γ : Type} (x : Option (α × β × δ × ε × ζ × η × θ × κ)) (f : α → β → δ → ε → ζ → η → θ → κ → Option γ) : Option γ := match x with | some (a, b, d, e, z, i, j, k) => f a b d e z i j k | none => none
theorem bd1_at {α γ : Type} {x : Option α} {f : α → Option γ} {y : γ} (h : bd1 x f = some y) : ∃ a, x = some a ∧ f a = some y := by
  cases x with
  | none => cases h
  | some a => exact ⟨a, rfl, h⟩
theorem bd2_at {α β γ : Type} {x : Option (α × β)} {f : α → β → Option γ} {y : γ} (h : bd2 x f = some y) : ∃ a b, x = some (a, b) ∧ f a b = some y := by
  cases x with
  | none => cases h
  | some a => exact ⟨a.1, a.2, rfl, h⟩
theorem bd3_at {α β δ γ : Type} {x : Option (α × β × δ)} {f : α → β → δ → Option γ} {y : γ} (h : bd3 x f = some y) : ∃ a b d, x = some (a, b, d) ∧ f a b d = some y := by
  cases x with
  | none => cases h
  | some a => exact ⟨a.1, a.2.1, a.2.2, rfl, h⟩
theorem bd4_at {α β δ ε γ : Type} {x : Option (α × β × δ × ε)} {f : α → β → δ → ε → Option γ} {y : γ} (h : bd4 x f = some y) : ∃ a b d e, x = some (a, b, d, e) ∧ f a b d e = some y := by
  cases x with
  | none => cases h
  | some a => exact ⟨a.1, a.2.1, a.2.2.1, a.2.2.2, rfl, h⟩
theorem bd5_at {α β δ ε ζ γ : Type} {x : Option (α × β × δ × ε × ζ)} {f : α → β → δ → ε → ζ → Option γ} {y : γ} (h : bd5 x f = some y) : ∃ a b d e z, x = some (a, b, d, e, z) ∧ f a b d e z = some y := by
  cases x with
  | none => cases h
  | some a => exact ⟨a.1, a.2.1, a.2.2.1, a.2.2.2.1, a.2.2.2.2, rfl, h⟩
theorem bd6_at {α β δ ε ζ η γ : Type} {x : Option (α × β × δ × ε × ζ × η)} {f : α → β → δ → ε → ζ → η → Option γ} {y : γ} (h : bd6 x f = some y) : ∃ a b d e z i, x = some (a, b, d, e, z, i) ∧ f a b d e z i = some y := by
  cases x with
  | none => cases h
  | some a => exact ⟨a.1, a.2.1, a.2.2.1, a.2.2.2.1, a.2.2.2.2.1, a.2.2.2.2.2, rfl, h⟩
theorem bd7_at {α β δ ε ζ η θ γ : Type} {x : Option (α × β × δ × ε × ζ × η × θ)} {f : α → β → δ → ε → ζ → η → θ → Option γ} {y : γ} (h : bd7 x f = some y) : ∃ a b d e z i j, x = some (a, b, d, e, z, i, j) ∧ f a b d e z i j = some y := by
  cases x with
  | none => cases h
  | some a => exact ⟨a.1, a.2.1, a.2.2.1, a.2.2.2.1, a.2.2.2.2.1, a.2.2.2.2.2.1, a.2.2.2.2.2.2, rfl, h⟩
theorem bd8_at {α β δ ε ζ η θ κ γ : Type} {x : Option (α × β × δ × ε × ζ × η × θ × κ)} {f : α → β → δ → ε → ζ → η → θ → κ → Option γ} {y : γ} (h : bd8 x f = some y) : ∃ a b d e z i j k, x = some (a, b, d, e, z, i, j, k) ∧ f a b d e z i j k = some y := by
  cases x with
  | none => cases h
  | some a => exact ⟨a.1, a.2.1, a.2.2.1, a.2.2.2.1, a.2.2.2.2.1, a.2.2.2.2.2.1, a.2.2.2.2.2.2.1, a.2.2.2.2.2.2.2, rfl, h⟩
def lt_ {α β : Type} (a : α) (f : α → β) : β := f a
theorem lt_at {α β : Type} {a b : α} {f : α → β} {y : β} (e : b = a) (h : lt_ a f = y) : f b = y := by
  subst e
  exact h
/-- how often a loop may turn: far above what any needs -/
abbrev fu : Nat := 4000
theorem ne_ti {x k : Int32} {n : Int} (h : ¬ x = k) (hk : k.toInt = n) : x.toInt ≠ n := fun q => h (Int32.toInt_inj.mp (by rw [hk]; exact q))
/-- a row's place, decidably -/
abbrev inb (i : Int32) (n : Nat) : Prop := ¬ (i < 0 ∨ n ≤ i.toNatClampNeg)
theorem inb_path {i N : Int32} {n : Nat} (hN : N.toInt = (n : Int)) (h0 : ¬ i < 0) (h1 : ¬ N ≤ i) : vp_in i n := by
  rw [vp_in_iff]
  simp only [Int32.lt_iff_toInt_lt, Int32.le_iff_toInt_le] at h0 h1
  have h2 : (0 : Int32).toInt = 0 := rfl
  omega
/-- 0 or 1: what a boolean is -/
abbrev isZ (v : Int32) : Prop := v = 0 ∨ v = 1
theorem isZ_nar {v : Int32} (h : isZ v) : narrow .boolean (.int v) = .int v := by
  rcases h with rfl | rfl <;> rfl
section MyRows
variable {p : Program} {l : Launch} {e : Env} {R : Room} {s : State} {m : MethodId} {args : Array Value} {below : List Frame} {meth : Method} {c : Code} {H : Heap} {locs : List Loc} {cells slots : Nat} {Q : State → Prop}
variable {cc : ByteArray} {pc : Nat} {ls : Array Slot} {rest st : List Value} {D : va_G} {A : Nat → Prop} {tys : List (ClassId × FieldType)} {ws wc wc' : va_W}
variable {y : MethodName} {bytes : ByteArray} {maxL nL n index : Nat} {ret : Option FieldType} {wy : List Cond} {rm : Room} {Ts : List Cond} {own C : String} {b : Addr} {As : List Value} {v : Value}
/-- a reading call, by what its run says -/
theorem rcall {a : Array Value} {st0 : List Value} (hr : va_Run p l e R s m args below meth c H locs cells slots 0 0 (F0 m pc ls st0) rest (rQ v a) (fun _ => False))
    (kk : W p l e R s m args below meth c H locs cells slots Q (F0 m (pc + 3) ls (v :: rest))) : W p l e R s m args below meth c H locs cells slots Q (F0 m pc ls st0) := by
  intro T hT X
  obtain ⟨v', st₀, t, T', L, h0, X', hL, e1, e2, ⟨hv, hh⟩, st⟩ := hr T hT X
  cases hv
  obtain ⟨t2, a1, b1⟩ := kk T' (by rw [e1, hh, h0]) (Stand.forget X' (fun q h => (hL q h).elim))
  exact ⟨t2, st t2 a1, b1⟩
/-- an updating call, by what its run says -/
theorem ucall {a : Array Value} {st0 : List Value} {v : Option Value} {H0 : Heap} (hr : va_Run p l e R s m args below meth c H locs cells slots 0 0 (F0 m pc ls st0) rest (uQ D v (uA wc) wc' a) (uA wc)) (hS : va_S A H0 H locs) (hP : va_P D vwCl ws H) (hD : va_D A ws) (is : List Nat) (hwc : is.map (fun i => ws[i]?) = wc.map some) (hl : wc'.length = is.length) {ws' : va_W} (hws : va_puts ws is wc' = ws') (hwd : ws'.map (fun x => x.1) = ws.map (fun x => x.1))
    (kk : ∀ (H1 : Heap) (locs1 : List Loc), va_P D vwCl ws' H1 → va_D A ws' → va_S A H0 H1 locs1 → W p l e R s m args below meth c H1 locs1 cells slots Q (F0 m (pc + 3) ls (v.toList ++ rest))) : W p l e R s m args below meth c H locs cells slots Q (F0 m pc ls st0) := by
  intro T hT X
  obtain ⟨v', st₀, t, T', L, h0, X', hL, e1, e2, ⟨hv, hP1, hz, hk⟩, st⟩ := hr T hT X
  cases hv
  rw [h0] at hz hk
  have hA := uA.of hD is hwc
  subst hws
  obtain ⟨t2, a1, b1⟩ := kk t.heap (locs ++ L) (hP.puts hD is hwc hl hk hP1) (hD.alike hwd)
    ⟨Nat.le_trans hS.1 hz, fun q h1 h2 => by rw [hk q (Nat.lt_of_lt_of_le h1 hS.1) (fun z => h2 (hA q z))]; exact hS.2.1 q h1 h2, fun q hq => by
      rcases List.mem_append.mp hq with h | h
      · exact hS.2.2 q h
      · exact hA _ (hL q h)⟩ T' e1 X'
  exact ⟨t2, st t2 a1, b1⟩
theorem rPreV (hK : gK D tys s) (hP : va_P D vwCl wc H) {ci : Nat} {fs : List Value} {q : vw_C} (h0 : wc[0]? = some (b, .inr (ci, fs))) (hc : vwCl[ci]? = some q) : PreV s H q.1 b (rP D tys wc (.ref b :: As)) As :=
  ⟨rP_blind D tys wc _, va_recv hK.1 hP hc h0, fun U hU hW => ⟨rfl, hK.warm hW, by rw [hU]; exact hP⟩⟩
theorem rPreS (hK : gK D tys s) (hP : va_P D vwCl wc H) : PreS s H (rP D tys wc As) As :=
  ⟨rP_blind D tys wc _, fun U hU hW => ⟨rfl, hK.warm hW, by rw [hU]; exact hP⟩⟩
theorem uPreV (hK : gK D tys s) (hP : va_P D vwCl wc H) (hD : va_D A wc) {ci : Nat} {fs : List Value} {q : vw_C} (h0 : wc[0]? = some (b, .inr (ci, fs))) (hc : vwCl[ci]? = some q) : PreV s H q.1 b (uP D tys wc (.ref b :: As)) As :=
  ⟨uP_blind D tys wc _, va_recv hK.1 hP hc h0, fun U hU hW => ⟨rfl, hK.warm hW, by rw [hU]; exact hP, hD.weaken (fun _ _ _ _ => trivial)⟩⟩
theorem uPreS (hK : gK D tys s) (hP : va_P D vwCl wc H) (hD : va_D A wc) : PreS s H (uP D tys wc As) As :=
  ⟨uP_blind D tys wc _, fun U hU hW => ⟨rfl, hK.warm hW, by rw [hU]; exact hP, hD.weaken (fun _ _ _ _ => trivial)⟩⟩
/-- the same, by what is left on the stack -/
theorem ucalli {a : Array Value} {st0 : List Value} {x : Int32} {H0 : Heap} {ws' : va_W} (hr : va_Run p l e R s m args below meth c H locs cells slots 0 0 (F0 m pc ls st0) rest (uQ D (some (.int x)) (uA wc) wc' a) (uA wc)) (hS : va_S A H0 H locs) (hP : va_P D vwCl ws H) (hD : va_D A ws) (is : List Nat) (hwc : is.map (fun i => ws[i]?) = wc.map some) (hl : wc'.length = is.length) (hws : va_puts ws is wc' = ws') (hwd : ws'.map (fun x => x.1) = ws.map (fun x => x.1))
    (kk : ∀ (H1 : Heap) (locs1 : List Loc), va_P D vwCl ws' H1 → va_D A ws' → va_S A H0 H1 locs1 → W p l e R s m args below meth c H1 locs1 cells slots Q (F0 m (pc + 3) ls (.int x :: rest))) : W p l e R s m args below meth c H locs cells slots Q (F0 m pc ls st0) := ucall hr hS hP hD is hwc hl hws hwd kk
theorem ucallv {a : Array Value} {st0 : List Value} {H0 : Heap} {ws' : va_W} (hr : va_Run p l e R s m args below meth c H locs cells slots 0 0 (F0 m pc ls st0) rest (uQ D none (uA wc) wc' a) (uA wc)) (hS : va_S A H0 H locs) (hP : va_P D vwCl ws H) (hD : va_D A ws) (is : List Nat) (hwc : is.map (fun i => ws[i]?) = wc.map some) (hl : wc'.length = is.length) (hws : va_puts ws is wc' = ws') (hwd : ws'.map (fun x => x.1) = ws.map (fun x => x.1))
    (kk : ∀ (H1 : Heap) (locs1 : List Loc), va_P D vwCl ws' H1 → va_D A ws' → va_S A H0 H1 locs1 → W p l e R s m args below meth c H1 locs1 cells slots Q (F0 m (pc + 3) ls rest)) : W p l e R s m args below meth c H locs cells slots Q (F0 m pc ls st0) := ucall hr hS hP hD is hwc hl hws hwd kk
/-- the ends of a reading method -/
theorem rret {x r : Int32} (hF : some x = some r) (hx : p.tables.exec = Jvm.exec) (hb : c.code = cc) (hr : meth.sig.returnType = some .int) (hlocks : meth.locks = false) (hdg : decode cc pc = .ok (.ireturn, 1)) :
    W p l e R s m args below meth c s.heap [] cells slots (MQ below (rQ (.int r)) args s cells slots (fun _ => False)) (F0 m pc ls [.int x]) := by
  obtain rfl := Option.some.inj hF
  exact W.iret hx hb hr (fun t ht hW => ⟨rfl, ht⟩) (fun q hq => absurd hq List.not_mem_nil) hdg hlocks
theorem rretz {x r : Int32} (hz : isZ x) (hF : some x = some r) (hx : p.tables.exec = Jvm.exec) (hb : c.code = cc) (hr : meth.sig.returnType = some .boolean) (hlocks : meth.locks = false) (hdg : decode cc pc = .ok (.ireturn, 1)) :
    W p l e R s m args below meth c s.heap [] cells slots (MQ below (rQ (.int r)) args s cells slots (fun _ => False)) (F0 m pc ls [.int x]) := by
  obtain rfl := Option.some.inj hF
  exact W.zret hx hb hr (isZ_nar hz) (fun t ht hW => ⟨rfl, ht⟩) (fun q hq => absurd hq List.not_mem_nil) hdg hlocks
theorem rretd {x r : UInt64} (hF : some x = some r) (hx : p.tables.exec = Jvm.exec) (hb : c.code = cc) (hr : meth.sig.returnType = some .double) (hlocks : meth.locks = false) (hdg : decode cc pc = .ok (.dreturn, 1)) :
    W p l e R s m args below meth c s.heap [] cells slots (MQ below (rQ (.double r)) args s cells slots (fun _ => False)) (F0 m pc ls [.double x]) := by
  obtain rfl := Option.some.inj hF
  exact W.dret hx hb hr (fun t ht hW => ⟨rfl, ht⟩) (fun q hq => absurd hq List.not_mem_nil) hdg hlocks
/-- the ends of an updating method: its world at the end is the one that its program answers -/
theorem ureti {x : Int32} {A0 : Nat → Prop} {ws' : va_W} (hx : p.tables.exec = Jvm.exec) (hb : c.code = cc) (hr : meth.sig.returnType = some .int) (hlocks : meth.locks = false) (hP : va_P D vwCl ws' H) (hS : va_S A0 s.heap H locs) (hdg : decode cc pc = .ok (.ireturn, 1)) :
    W p l e R s m args below meth c H locs cells slots (MQ below (uQ D (some (.int x)) A0 ws') args s cells slots A0) (F0 m pc ls [.int x]) :=
  W.iret hx hb hr (fun t ht hW => ⟨rfl, by rw [ht]; exact hP, hS.F ht⟩) hS.2.2 hdg hlocks
theorem uretz {x : Int32} {A0 : Nat → Prop} {ws' : va_W} (hz : isZ x) (hx : p.tables.exec = Jvm.exec) (hb : c.code = cc) (hr : meth.sig.returnType = some .boolean) (hlocks : meth.locks = false) (hP : va_P D vwCl ws' H) (hS : va_S A0 s.heap H locs) (hdg : decode cc pc = .ok (.ireturn, 1)) :
    W p l e R s m args below meth c H locs cells slots (MQ below (uQ D (some (.int x)) A0 ws') args s cells slots A0) (F0 m pc ls [.int x]) :=
  W.zret hx hb hr (isZ_nar hz) (fun t ht hW => ⟨rfl, by rw [ht]; exact hP, hS.F ht⟩) hS.2.2 hdg hlocks
theorem uretv {A0 : Nat → Prop} {ws' : va_W} (hx : p.tables.exec = Jvm.exec) (hb : c.code = cc) (hr : meth.sig.returnType = none) (hlocks : meth.locks = false) (hP : va_P D vwCl ws' H) (hS : va_S A0 s.heap H locs) (hdg : decode cc pc = .ok (.return_, 1)) :
    W p l e R s m args below meth c H locs cells slots (MQ below (uQ D none A0 ws') args s cells slots A0) (F0 m pc ls []) :=
  W.vret hx hb hr (fun t ht hW => ⟨rfl, by rw [ht]; exact hP, hS.F ht⟩) hS.2.2 hdg hlocks
end MyRows
/-- a place in the walk of a reading, of an updating method -/
abbrev rW (p : Program) (l : Launch) (e : Env) (ws : List Cond) (rm : Room) (s : State) (m : MethodId) (args : Array Value) (below : List Frame) (meth : Method) (c : Code) (v : Value) (g : JFrame) : Prop :=
  W p l e (headSpec ws rm).room s m args below meth c s.heap [] 0 0 (MQ below (rQ v) args s 0 0 (fun _ => False)) g
abbrev uW (p : Program) (l : Launch) (e : Env) (ws : List Cond) (rm : Room) (s : State) (m : MethodId) (args : Array Value) (below : List Frame) (meth : Method) (c : Code) (D : va_G) (v : Option Value) (A0 : Nat → Prop) (ws' : va_W) (H : Heap) (locs : List Loc) (g : JFrame) : Prop :=
  W p l e (headSpec ws rm).room s m args below meth c H locs 0 0 (MQ below (uQ D v A0 ws') args s 0 0 A0) g
abbrev W0 (cI : ClassId) (aB aF aZ aK aM : Nat) (bh : Int32) (bF : Nat → Int32) (bZ : Nat → Int32) (bK : Nat → Int32) (bM : Nat → Int32) : va_W := [(aB, .inr (0, [.ref aF, .ref aZ, .ref aK, .ref aM, .int bh])), (aF, .inl (cI, 6, .inl bF)), (aZ, .inl (cI, 6, .inl bZ)), (aK, .inl (cI, 240, .inl bK)), (aM, .inl (cI, 240, .inl bM))]
abbrev W2 (cI : ClassId) (aL aW : Nat) (wm : Int32) (wW : Nat → Int32) : va_W := [(aL, .inr (2, [.ref aW, .int wm])), (aW, .inl (cI, 6, .inl wW))]
abbrev W3 (cI : ClassId) (aO aT : Nat) (ol : Int32) (oS : Nat → Int32) : va_W := [(aO, .inr (3, [.ref aT, .int ol])), (aT, .inl (cI, 60, .inl oS))]
abbrev W4 (cI : ClassId) (aS aL aW aB aF aZ aK aM : Nat) (sr : Int32) (wm : Int32) (wW : Nat → Int32) (bh : Int32) (bF : Nat → Int32) (bZ : Nat → Int32) (bK : Nat → Int32) (bM : Nat → Int32) : va_W := [(aS, .inr (4, [.ref aL, .ref aB, .int sr])), (aL, .inr (2, [.ref aW, .int wm])), (aW, .inl (cI, 6, .inl wW)), (aB, .inr (0, [.ref aF, .ref aZ, .ref aK, .ref aM, .int bh])), (aF, .inl (cI, 6, .inl bF)), (aZ, .inl (cI, 6, .inl bZ)), (aK, .inl (cI, 240, .inl bK)), (aM, .inl (cI, 240, .inl bM))]
abbrev W6 (cI : ClassId) (aX aN aP aJ aI aT aD : Nat) (ms : Int32) (ml : Int32) (mt : Int32) (mq : Int32) (mu : Int32) (mN : Nat → Int32) (mP : Nat → Int32) (mK : Nat → Int32) (mI : Nat → Int32) (mT : Nat → Int32) (mD : Nat → Int32) : va_W := [(aX, .inr (6, [.ref aN, .ref aP, .int ms, .ref aJ, .ref aI, .ref aT, .int ml, .int mt, .int mq, .ref aD, .int mu])), (aN, .inl (cI, 501, .inl mN)), (aP, .inl (cI, 3006, .inl mP)), (aJ, .inl (cI, 1002, .inl mK)), (aI, .inl (cI, 2, .inl mI)), (aT, .inl (cI, 60, .inl mT)), (aD, .inl (cI, 24, .inl mD))]
abbrev WC (cI : ClassId) (aG aH nG nH : Nat) (gA : Nat → Int32) (gB : Nat → Int32) : va_W := [(aG, .inl (cI, nG, .inl gA)), (aH, .inl (cI, nH, .inl gB))]
theorem kc_bipush_10 : (Int8.ofInt (10)).toInt32 = (10 : Int32) := by decide
theorem kc_iconst_0 : Int32.ofInt (0) = (0 : Int32) := by decide
theorem kc_iconst_1 : Int32.ofInt (1) = (1 : Int32) := by decide
theorem kc_iconst_5 : Int32.ofInt (5) = (5 : Int32) := by decide
end
section
theorem dX2_init_0 : decode cX2_init 0 = .ok (.aload_n 0, 1) := by decide +kernel
theorem dX2_init_1 : decode cX2_init 1 = .ok (.invokespecial 3, 3) := by decide +kernel
theorem dX2_init_4 : decode cX2_init 4 = .ok (.aload_n 0, 1) := by decide +kernel
theorem dX2_init_5 : decode cX2_init 5 = .ok (.bipush 6, 2) := by decide +kernel
theorem dX2_init_7 : decode cX2_init 7 = .ok (.newarray .int, 2) := by decide +kernel
theorem dX2_init_9 : decode cX2_init 9 = .ok (.putfield 9, 3) := by decide +kernel
theorem dX2_init_12 : decode cX2_init 12 = .ok (.aload_n 0, 1) := by decide +kernel
theorem dX2_init_13 : decode cX2_init 13 = .ok (.bipush 11, 2) := by decide +kernel
theorem dX2_init_15 : decode cX2_init 15 = .ok (.putfield 15, 3) := by decide +kernel
theorem dX2_init_18 : decode cX2_init 18 = .ok (.iconst 0, 1) := by decide +kernel
theorem dX2_init_19 : decode cX2_init 19 = .ok (.istore_n 1, 1) := by decide +kernel
theorem dX2_init_20 : decode cX2_init 20 = .ok (.iload_n 1, 1) := by decide +kernel
theorem dX2_init_21 : decode cX2_init 21 = .ok (.aload_n 0, 1) := by decide +kernel
theorem dX2_init_22 : decode cX2_init 22 = .ok (.getfield 9, 3) := by decide +kernel
theorem dX2_init_25 : decode cX2_init 25 = .ok (.arraylength, 1) := by decide +kernel
theorem dX2_init_26 : decode cX2_init 26 = .ok (.if_icmp .ge 18, 3) := by decide +kernel
theorem dX2_init_29 : decode cX2_init 29 = .ok (.aload_n 0, 1) := by decide +kernel
theorem dX2_init_30 : decode cX2_init 30 = .ok (.getfield 9, 3) := by decide +kernel
theorem dX2_init_33 : decode cX2_init 33 = .ok (.iload_n 1, 1) := by decide +kernel
theorem dX2_init_34 : decode cX2_init 34 = .ok (.iconst 1, 1) := by decide +kernel
theorem dX2_init_35 : decode cX2_init 35 = .ok (.iload_n 1, 1) := by decide +kernel
theorem dX2_init_36 : decode cX2_init 36 = .ok (.iadd, 1) := by decide +kernel
theorem dX2_init_37 : decode cX2_init 37 = .ok (.iastore, 1) := by decide +kernel
theorem dX2_init_38 : decode cX2_init 38 = .ok (.iinc 1 1, 3) := by decide +kernel
theorem dX2_init_41 : decode cX2_init 41 = .ok (.goto (-21), 3) := by decide +kernel
theorem dX2_init_44 : decode cX2_init 44 = .ok (.return_, 1) := by decide +kernel
theorem dX2_copyFrom_0 : decode cX2_copyFrom 0 = .ok (.aload_n 1, 1) := by decide +kernel
theorem dX2_copyFrom_1 : decode cX2_copyFrom 1 = .ok (.getfield 9, 3) := by decide +kernel
theorem dX2_copyFrom_4 : decode cX2_copyFrom 4 = .ok (.aload_n 0, 1) := by decide +kernel
theorem dX2_copyFrom_5 : decode cX2_copyFrom 5 = .ok (.getfield 9, 3) := by decide +kernel
theorem dX2_copyFrom_8 : decode cX2_copyFrom 8 = .ok (.invokestatic 19, 3) := by decide +kernel
theorem dX2_copyFrom_11 : decode cX2_copyFrom 11 = .ok (.aload_n 0, 1) := by decide +kernel
theorem dX2_copyFrom_12 : decode cX2_copyFrom 12 = .ok (.aload_n 1, 1) := by decide +kernel
theorem dX2_copyFrom_13 : decode cX2_copyFrom 13 = .ok (.getfield 15, 3) := by decide +kernel
theorem dX2_copyFrom_16 : decode cX2_copyFrom 16 = .ok (.putfield 15, 3) := by decide +kernel
theorem dX2_copyFrom_19 : decode cX2_copyFrom 19 = .ok (.return_, 1) := by decide +kernel
theorem dX2_weightAt_0 : decode cX2_weightAt 0 = .ok (.iload_n 1, 1) := by decide +kernel
theorem dX2_weightAt_1 : decode cX2_weightAt 1 = .ok (.ifCond .lt 21, 3) := by decide +kernel
theorem dX2_weightAt_4 : decode cX2_weightAt 4 = .ok (.iload_n 1, 1) := by decide +kernel
theorem dX2_weightAt_5 : decode cX2_weightAt 5 = .ok (.aload_n 0, 1) := by decide +kernel
theorem dX2_weightAt_6 : decode cX2_weightAt 6 = .ok (.getfield 9, 3) := by decide +kernel
theorem dX2_weightAt_9 : decode cX2_weightAt 9 = .ok (.arraylength, 1) := by decide +kernel
theorem dX2_weightAt_10 : decode cX2_weightAt 10 = .ok (.if_icmp .ge 12, 3) := by decide +kernel
theorem dX2_weightAt_13 : decode cX2_weightAt 13 = .ok (.aload_n 0, 1) := by decide +kernel
theorem dX2_weightAt_14 : decode cX2_weightAt 14 = .ok (.getfield 9, 3) := by decide +kernel
theorem dX2_weightAt_17 : decode cX2_weightAt 17 = .ok (.iload_n 1, 1) := by decide +kernel
theorem dX2_weightAt_18 : decode cX2_weightAt 18 = .ok (.iaload, 1) := by decide +kernel
theorem dX2_weightAt_19 : decode cX2_weightAt 19 = .ok (.goto 4, 3) := by decide +kernel
theorem dX2_weightAt_22 : decode cX2_weightAt 22 = .ok (.iconst 0, 1) := by decide +kernel
theorem dX2_weightAt_23 : decode cX2_weightAt 23 = .ok (.ireturn, 1) := by decide +kernel
theorem dX2_setWeight_0 : decode cX2_setWeight 0 = .ok (.iload_n 1, 1) := by decide +kernel
theorem dX2_setWeight_1 : decode cX2_setWeight 1 = .ok (.ifCond .lt 19, 3) := by decide +kernel
theorem dX2_setWeight_4 : decode cX2_setWeight 4 = .ok (.iload_n 1, 1) := by decide +kernel
theorem dX2_setWeight_5 : decode cX2_setWeight 5 = .ok (.aload_n 0, 1) := by decide +kernel
theorem dX2_setWeight_6 : decode cX2_setWeight 6 = .ok (.getfield 9, 3) := by decide +kernel
theorem dX2_setWeight_9 : decode cX2_setWeight 9 = .ok (.arraylength, 1) := by decide +kernel
theorem dX2_setWeight_10 : decode cX2_setWeight 10 = .ok (.if_icmp .ge 10, 3) := by decide +kernel
theorem dX2_setWeight_13 : decode cX2_setWeight 13 = .ok (.aload_n 0, 1) := by decide +kernel
theorem dX2_setWeight_14 : decode cX2_setWeight 14 = .ok (.getfield 9, 3) := by decide +kernel
theorem dX2_setWeight_17 : decode cX2_setWeight 17 = .ok (.iload_n 1, 1) := by decide +kernel
theorem dX2_setWeight_18 : decode cX2_setWeight 18 = .ok (.iload_n 2, 1) := by decide +kernel
theorem dX2_setWeight_19 : decode cX2_setWeight 19 = .ok (.iastore, 1) := by decide +kernel
theorem dX2_setWeight_20 : decode cX2_setWeight 20 = .ok (.return_, 1) := by decide +kernel
theorem dX2_letterOf_0 : decode cX2_letterOf 0 = .ok (.iconst 0, 1) := by decide +kernel
theorem dX2_letterOf_1 : decode cX2_letterOf 1 = .ok (.istore_n 2, 1) := by decide +kernel
theorem dX2_letterOf_2 : decode cX2_letterOf 2 = .ok (.iload_n 1, 1) := by decide +kernel
theorem dX2_letterOf_3 : decode cX2_letterOf 3 = .ok (.istore_n 3, 1) := by decide +kernel
theorem dX2_letterOf_4 : decode cX2_letterOf 4 = .ok (.iconst 5, 1) := by decide +kernel
theorem dX2_letterOf_5 : decode cX2_letterOf 5 = .ok (.istore 4, 2) := by decide +kernel
theorem dX2_letterOf_7 : decode cX2_letterOf 7 = .ok (.iload 4, 2) := by decide +kernel
theorem dX2_letterOf_9 : decode cX2_letterOf 9 = .ok (.ifCond .lt 28, 3) := by decide +kernel
theorem dX2_letterOf_12 : decode cX2_letterOf 12 = .ok (.iload_n 2, 1) := by decide +kernel
theorem dX2_letterOf_13 : decode cX2_letterOf 13 = .ok (.aload_n 0, 1) := by decide +kernel
theorem dX2_letterOf_14 : decode cX2_letterOf 14 = .ok (.iload 4, 2) := by decide +kernel
theorem dX2_letterOf_16 : decode cX2_letterOf 16 = .ok (.invokevirtual 23, 3) := by decide +kernel
theorem dX2_letterOf_19 : decode cX2_letterOf 19 = .ok (.iload_n 3, 1) := by decide +kernel
theorem dX2_letterOf_20 : decode cX2_letterOf 20 = .ok (.bipush 10, 2) := by decide +kernel
theorem dX2_letterOf_22 : decode cX2_letterOf 22 = .ok (.irem, 1) := by decide +kernel
theorem dX2_letterOf_23 : decode cX2_letterOf 23 = .ok (.imul, 1) := by decide +kernel
theorem dX2_letterOf_24 : decode cX2_letterOf 24 = .ok (.iadd, 1) := by decide +kernel
theorem dX2_letterOf_25 : decode cX2_letterOf 25 = .ok (.istore_n 2, 1) := by decide +kernel
theorem dX2_letterOf_26 : decode cX2_letterOf 26 = .ok (.iload_n 3, 1) := by decide +kernel
theorem dX2_letterOf_27 : decode cX2_letterOf 27 = .ok (.bipush 10, 2) := by decide +kernel
theorem dX2_letterOf_29 : decode cX2_letterOf 29 = .ok (.idiv, 1) := by decide +kernel
theorem dX2_letterOf_30 : decode cX2_letterOf 30 = .ok (.istore_n 3, 1) := by decide +kernel
theorem dX2_letterOf_31 : decode cX2_letterOf 31 = .ok (.iinc 4 (-1), 3) := by decide +kernel
theorem dX2_letterOf_34 : decode cX2_letterOf 34 = .ok (.goto (-27), 3) := by decide +kernel
theorem dX2_letterOf_37 : decode cX2_letterOf 37 = .ok (.aload_n 0, 1) := by decide +kernel
theorem dX2_letterOf_38 : decode cX2_letterOf 38 = .ok (.iload_n 2, 1) := by decide +kernel
theorem dX2_letterOf_39 : decode cX2_letterOf 39 = .ok (.invokevirtual 27, 3) := by decide +kernel
theorem dX2_letterOf_42 : decode cX2_letterOf 42 = .ok (.ireturn, 1) := by decide +kernel
theorem dX2_restOf_0 : decode cX2_restOf 0 = .ok (.aload_n 0, 1) := by decide +kernel
theorem dX2_restOf_1 : decode cX2_restOf 1 = .ok (.getfield 15, 3) := by decide +kernel
theorem dX2_restOf_4 : decode cX2_restOf 4 = .ok (.iconst 1, 1) := by decide +kernel
theorem dX2_restOf_5 : decode cX2_restOf 5 = .ok (.if_icmp .ge 5, 3) := by decide +kernel
theorem dX2_restOf_8 : decode cX2_restOf 8 = .ok (.iconst 0, 1) := by decide +kernel
theorem dX2_restOf_9 : decode cX2_restOf 9 = .ok (.ireturn, 1) := by decide +kernel
theorem dX2_restOf_10 : decode cX2_restOf 10 = .ok (.iload_n 1, 1) := by decide +kernel
theorem dX2_restOf_11 : decode cX2_restOf 11 = .ok (.aload_n 0, 1) := by decide +kernel
theorem dX2_restOf_12 : decode cX2_restOf 12 = .ok (.getfield 15, 3) := by decide +kernel
theorem dX2_restOf_15 : decode cX2_restOf 15 = .ok (.irem, 1) := by decide +kernel
theorem dX2_restOf_16 : decode cX2_restOf 16 = .ok (.istore_n 2, 1) := by decide +kernel
theorem dX2_restOf_17 : decode cX2_restOf 17 = .ok (.iload_n 2, 1) := by decide +kernel
theorem dX2_restOf_18 : decode cX2_restOf 18 = .ok (.ifCond .ge 12, 3) := by decide +kernel
theorem dX2_restOf_21 : decode cX2_restOf 21 = .ok (.iload_n 2, 1) := by decide +kernel
theorem dX2_restOf_22 : decode cX2_restOf 22 = .ok (.aload_n 0, 1) := by decide +kernel
theorem dX2_restOf_23 : decode cX2_restOf 23 = .ok (.getfield 15, 3) := by decide +kernel
theorem dX2_restOf_26 : decode cX2_restOf 26 = .ok (.iadd, 1) := by decide +kernel
theorem dX2_restOf_27 : decode cX2_restOf 27 = .ok (.goto 4, 3) := by decide +kernel
theorem dX2_restOf_30 : decode cX2_restOf 30 = .ok (.iload_n 2, 1) := by decide +kernel
theorem dX2_restOf_31 : decode cX2_restOf 31 = .ok (.ireturn, 1) := by decide +kernel
theorem dX2_digitAt_0 : decode cX2_digitAt 0 = .ok (.iload_n 0, 1) := by decide +kernel
theorem dX2_digitAt_1 : decode cX2_digitAt 1 = .ok (.istore_n 2, 1) := by decide +kernel
theorem dX2_digitAt_2 : decode cX2_digitAt 2 = .ok (.iconst 5, 1) := by decide +kernel
theorem dX2_digitAt_3 : decode cX2_digitAt 3 = .ok (.istore_n 3, 1) := by decide +kernel
theorem dX2_digitAt_4 : decode cX2_digitAt 4 = .ok (.iload_n 3, 1) := by decide +kernel
theorem dX2_digitAt_5 : decode cX2_digitAt 5 = .ok (.iload_n 1, 1) := by decide +kernel
theorem dX2_digitAt_6 : decode cX2_digitAt 6 = .ok (.if_icmp .le 14, 3) := by decide +kernel
theorem dX2_digitAt_9 : decode cX2_digitAt 9 = .ok (.iload_n 2, 1) := by decide +kernel
theorem dX2_digitAt_10 : decode cX2_digitAt 10 = .ok (.bipush 10, 2) := by decide +kernel
theorem dX2_digitAt_12 : decode cX2_digitAt 12 = .ok (.idiv, 1) := by decide +kernel
theorem dX2_digitAt_13 : decode cX2_digitAt 13 = .ok (.istore_n 2, 1) := by decide +kernel
theorem dX2_digitAt_14 : decode cX2_digitAt 14 = .ok (.iinc 3 (-1), 3) := by decide +kernel
theorem dX2_digitAt_17 : decode cX2_digitAt 17 = .ok (.goto (-13), 3) := by decide +kernel
theorem dX2_digitAt_20 : decode cX2_digitAt 20 = .ok (.iload_n 2, 1) := by decide +kernel
theorem dX2_digitAt_21 : decode cX2_digitAt 21 = .ok (.bipush 10, 2) := by decide +kernel
theorem dX2_digitAt_23 : decode cX2_digitAt 23 = .ok (.irem, 1) := by decide +kernel
theorem dX2_digitAt_24 : decode cX2_digitAt 24 = .ok (.ireturn, 1) := by decide +kernel
theorem dX2_factorAt_0 : decode cX2_factorAt 0 = .ok (.aload_n 0, 1) := by decide +kernel
theorem dX2_factorAt_1 : decode cX2_factorAt 1 = .ok (.iload_n 1, 1) := by decide +kernel
theorem dX2_factorAt_2 : decode cX2_factorAt 2 = .ok (.invokevirtual 23, 3) := by decide +kernel
theorem dX2_factorAt_5 : decode cX2_factorAt 5 = .ok (.istore_n 3, 1) := by decide +kernel
theorem dX2_factorAt_6 : decode cX2_factorAt 6 = .ok (.iload_n 2, 1) := by decide +kernel
theorem dX2_factorAt_7 : decode cX2_factorAt 7 = .ok (.iconst 1, 1) := by decide +kernel
theorem dX2_factorAt_8 : decode cX2_factorAt 8 = .ok (.if_icmp .ne 15, 3) := by decide +kernel
theorem dX2_factorAt_11 : decode cX2_factorAt 11 = .ok (.iload_n 3, 1) := by decide +kernel
theorem dX2_factorAt_12 : decode cX2_factorAt 12 = .ok (.aload_n 0, 1) := by decide +kernel
theorem dX2_factorAt_13 : decode cX2_factorAt 13 = .ok (.iload_n 1, 1) := by decide +kernel
theorem dX2_factorAt_14 : decode cX2_factorAt 14 = .ok (.iconst 1, 1) := by decide +kernel
theorem dX2_factorAt_15 : decode cX2_factorAt 15 = .ok (.iadd, 1) := by decide +kernel
theorem dX2_factorAt_16 : decode cX2_factorAt 16 = .ok (.invokevirtual 23, 3) := by decide +kernel
theorem dX2_factorAt_19 : decode cX2_factorAt 19 = .ok (.isub, 1) := by decide +kernel
theorem dX2_factorAt_20 : decode cX2_factorAt 20 = .ok (.goto 4, 3) := by decide +kernel
theorem dX2_factorAt_23 : decode cX2_factorAt 23 = .ok (.iload_n 3, 1) := by decide +kernel
theorem dX2_factorAt_24 : decode cX2_factorAt 24 = .ok (.ireturn, 1) := by decide +kernel
theorem dX2_isHidden_0 : decode cX2_isHidden 0 = .ok (.aload_n 0, 1) := by decide +kernel
theorem dX2_isHidden_1 : decode cX2_isHidden 1 = .ok (.iload_n 1, 1) := by decide +kernel
theorem dX2_isHidden_2 : decode cX2_isHidden 2 = .ok (.iload_n 2, 1) := by decide +kernel
theorem dX2_isHidden_3 : decode cX2_isHidden 3 = .ok (.imul, 1) := by decide +kernel
theorem dX2_isHidden_4 : decode cX2_isHidden 4 = .ok (.invokevirtual 27, 3) := by decide +kernel
theorem dX2_isHidden_7 : decode cX2_isHidden 7 = .ok (.ifCond .ne 7, 3) := by decide +kernel
theorem dX2_isHidden_10 : decode cX2_isHidden 10 = .ok (.iconst 1, 1) := by decide +kernel
theorem dX2_isHidden_11 : decode cX2_isHidden 11 = .ok (.goto 4, 3) := by decide +kernel
theorem dX2_isHidden_14 : decode cX2_isHidden 14 = .ok (.iconst 0, 1) := by decide +kernel
theorem dX2_isHidden_15 : decode cX2_isHidden 15 = .ok (.ireturn, 1) := by decide +kernel
theorem dX2_hiddenPairsTried_0 : decode cX2_hiddenPairsTried 0 = .ok (.iconst 0, 1) := by decide +kernel
theorem dX2_hiddenPairsTried_1 : decode cX2_hiddenPairsTried 1 = .ok (.istore_n 2, 1) := by decide +kernel
theorem dX2_hiddenPairsTried_2 : decode cX2_hiddenPairsTried 2 = .ok (.iconst 0, 1) := by decide +kernel
theorem dX2_hiddenPairsTried_3 : decode cX2_hiddenPairsTried 3 = .ok (.istore_n 3, 1) := by decide +kernel
theorem dX2_hiddenPairsTried_4 : decode cX2_hiddenPairsTried 4 = .ok (.iload_n 3, 1) := by decide +kernel
theorem dX2_hiddenPairsTried_5 : decode cX2_hiddenPairsTried 5 = .ok (.bipush 9, 2) := by decide +kernel
theorem dX2_hiddenPairsTried_7 : decode cX2_hiddenPairsTried 7 = .ok (.if_icmp .gt 48, 3) := by decide +kernel
theorem dX2_hiddenPairsTried_10 : decode cX2_hiddenPairsTried 10 = .ok (.iload_n 3, 1) := by decide +kernel
theorem dX2_hiddenPairsTried_11 : decode cX2_hiddenPairsTried 11 = .ok (.iconst 1, 1) := by decide +kernel
theorem dX2_hiddenPairsTried_12 : decode cX2_hiddenPairsTried 12 = .ok (.iadd, 1) := by decide +kernel
theorem dX2_hiddenPairsTried_13 : decode cX2_hiddenPairsTried 13 = .ok (.istore 4, 2) := by decide +kernel
theorem dX2_hiddenPairsTried_15 : decode cX2_hiddenPairsTried 15 = .ok (.iload 4, 2) := by decide +kernel
theorem dX2_hiddenPairsTried_17 : decode cX2_hiddenPairsTried 17 = .ok (.bipush 9, 2) := by decide +kernel
theorem dX2_hiddenPairsTried_19 : decode cX2_hiddenPairsTried 19 = .ok (.if_icmp .gt 30, 3) := by decide +kernel
theorem dX2_hiddenPairsTried_22 : decode cX2_hiddenPairsTried 22 = .ok (.aload_n 0, 1) := by decide +kernel
theorem dX2_hiddenPairsTried_23 : decode cX2_hiddenPairsTried 23 = .ok (.iload_n 1, 1) := by decide +kernel
theorem dX2_hiddenPairsTried_24 : decode cX2_hiddenPairsTried 24 = .ok (.iload_n 3, 1) := by decide +kernel
theorem dX2_hiddenPairsTried_25 : decode cX2_hiddenPairsTried 25 = .ok (.imul, 1) := by decide +kernel
theorem dX2_hiddenPairsTried_26 : decode cX2_hiddenPairsTried 26 = .ok (.invokevirtual 27, 3) := by decide +kernel
theorem dX2_hiddenPairsTried_29 : decode cX2_hiddenPairsTried 29 = .ok (.aload_n 0, 1) := by decide +kernel
theorem dX2_hiddenPairsTried_30 : decode cX2_hiddenPairsTried 30 = .ok (.iload_n 1, 1) := by decide +kernel
theorem dX2_hiddenPairsTried_31 : decode cX2_hiddenPairsTried 31 = .ok (.iload 4, 2) := by decide +kernel
theorem dX2_hiddenPairsTried_33 : decode cX2_hiddenPairsTried 33 = .ok (.imul, 1) := by decide +kernel
theorem dX2_hiddenPairsTried_34 : decode cX2_hiddenPairsTried 34 = .ok (.invokevirtual 27, 3) := by decide +kernel
theorem dX2_hiddenPairsTried_37 : decode cX2_hiddenPairsTried 37 = .ok (.if_icmp .ne 6, 3) := by decide +kernel
theorem dX2_hiddenPairsTried_40 : decode cX2_hiddenPairsTried 40 = .ok (.iinc 2 1, 3) := by decide +kernel
theorem dX2_hiddenPairsTried_43 : decode cX2_hiddenPairsTried 43 = .ok (.iinc 4 1, 3) := by decide +kernel
theorem dX2_hiddenPairsTried_46 : decode cX2_hiddenPairsTried 46 = .ok (.goto (-31), 3) := by decide +kernel
theorem dX2_hiddenPairsTried_49 : decode cX2_hiddenPairsTried 49 = .ok (.iinc 3 1, 3) := by decide +kernel
theorem dX2_hiddenPairsTried_52 : decode cX2_hiddenPairsTried 52 = .ok (.goto (-48), 3) := by decide +kernel
theorem dX2_hiddenPairsTried_55 : decode cX2_hiddenPairsTried 55 = .ok (.iload_n 2, 1) := by decide +kernel
theorem dX2_hiddenPairsTried_56 : decode cX2_hiddenPairsTried 56 = .ok (.ireturn, 1) := by decide +kernel
theorem dX2_hiddenPairs_0 : decode cX2_hiddenPairs 0 = .ok (.iconst 0, 1) := by decide +kernel
theorem dX2_hiddenPairs_1 : decode cX2_hiddenPairs 1 = .ok (.istore_n 2, 1) := by decide +kernel
theorem dX2_hiddenPairs_2 : decode cX2_hiddenPairs 2 = .ok (.iconst 1, 1) := by decide +kernel
theorem dX2_hiddenPairs_3 : decode cX2_hiddenPairs 3 = .ok (.istore_n 3, 1) := by decide +kernel
theorem dX2_hiddenPairs_4 : decode cX2_hiddenPairs 4 = .ok (.iload_n 3, 1) := by decide +kernel
theorem dX2_hiddenPairs_5 : decode cX2_hiddenPairs 5 = .ok (.bipush 9, 2) := by decide +kernel
theorem dX2_hiddenPairs_7 : decode cX2_hiddenPairs 7 = .ok (.if_icmp .gt 25, 3) := by decide +kernel
theorem dX2_hiddenPairs_10 : decode cX2_hiddenPairs 10 = .ok (.aload_n 0, 1) := by decide +kernel
theorem dX2_hiddenPairs_11 : decode cX2_hiddenPairs 11 = .ok (.iload_n 1, 1) := by decide +kernel
theorem dX2_hiddenPairs_12 : decode cX2_hiddenPairs 12 = .ok (.iload_n 3, 1) := by decide +kernel
theorem dX2_hiddenPairs_13 : decode cX2_hiddenPairs 13 = .ok (.invokevirtual 30, 3) := by decide +kernel
theorem dX2_hiddenPairs_16 : decode cX2_hiddenPairs 16 = .ok (.ifCond .eq 10, 3) := by decide +kernel
theorem dX2_hiddenPairs_19 : decode cX2_hiddenPairs 19 = .ok (.iload_n 2, 1) := by decide +kernel
theorem dX2_hiddenPairs_20 : decode cX2_hiddenPairs 20 = .ok (.bipush 10, 2) := by decide +kernel
theorem dX2_hiddenPairs_22 : decode cX2_hiddenPairs 22 = .ok (.iload_n 3, 1) := by decide +kernel
theorem dX2_hiddenPairs_23 : decode cX2_hiddenPairs 23 = .ok (.isub, 1) := by decide +kernel
theorem dX2_hiddenPairs_24 : decode cX2_hiddenPairs 24 = .ok (.iadd, 1) := by decide +kernel
theorem dX2_hiddenPairs_25 : decode cX2_hiddenPairs 25 = .ok (.istore_n 2, 1) := by decide +kernel
theorem dX2_hiddenPairs_26 : decode cX2_hiddenPairs 26 = .ok (.iinc 3 1, 3) := by decide +kernel
theorem dX2_hiddenPairs_29 : decode cX2_hiddenPairs 29 = .ok (.goto (-25), 3) := by decide +kernel
theorem dX2_hiddenPairs_32 : decode cX2_hiddenPairs 32 = .ok (.iload_n 2, 1) := by decide +kernel
theorem dX2_hiddenPairs_33 : decode cX2_hiddenPairs 33 = .ok (.ireturn, 1) := by decide +kernel
theorem dX2_hiddenPairsWith_0 : decode cX2_hiddenPairsWith 0 = .ok (.iconst 0, 1) := by decide +kernel
theorem dX2_hiddenPairsWith_1 : decode cX2_hiddenPairsWith 1 = .ok (.istore_n 3, 1) := by decide +kernel
theorem dX2_hiddenPairsWith_2 : decode cX2_hiddenPairsWith 2 = .ok (.iconst 0, 1) := by decide +kernel
theorem dX2_hiddenPairsWith_3 : decode cX2_hiddenPairsWith 3 = .ok (.istore 4, 2) := by decide +kernel
theorem dX2_hiddenPairsWith_5 : decode cX2_hiddenPairsWith 5 = .ok (.iload 4, 2) := by decide +kernel
theorem dX2_hiddenPairsWith_7 : decode cX2_hiddenPairsWith 7 = .ok (.bipush 6, 2) := by decide +kernel
theorem dX2_hiddenPairsWith_9 : decode cX2_hiddenPairsWith 9 = .ok (.if_icmp .ge 79, 3) := by decide +kernel
theorem dX2_hiddenPairsWith_12 : decode cX2_hiddenPairsWith 12 = .ok (.iload 4, 2) := by decide +kernel
theorem dX2_hiddenPairsWith_14 : decode cX2_hiddenPairsWith 14 = .ok (.iload_n 1, 1) := by decide +kernel
theorem dX2_hiddenPairsWith_15 : decode cX2_hiddenPairsWith 15 = .ok (.if_icmp .ne 7, 3) := by decide +kernel
theorem dX2_hiddenPairsWith_18 : decode cX2_hiddenPairsWith 18 = .ok (.iload_n 2, 1) := by decide +kernel
theorem dX2_hiddenPairsWith_19 : decode cX2_hiddenPairsWith 19 = .ok (.goto 9, 3) := by decide +kernel
theorem dX2_hiddenPairsWith_22 : decode cX2_hiddenPairsWith 22 = .ok (.aload_n 0, 1) := by decide +kernel
theorem dX2_hiddenPairsWith_23 : decode cX2_hiddenPairsWith 23 = .ok (.iload 4, 2) := by decide +kernel
theorem dX2_hiddenPairsWith_25 : decode cX2_hiddenPairsWith 25 = .ok (.invokevirtual 23, 3) := by decide +kernel
theorem dX2_hiddenPairsWith_28 : decode cX2_hiddenPairsWith 28 = .ok (.istore 5, 2) := by decide +kernel
theorem dX2_hiddenPairsWith_30 : decode cX2_hiddenPairsWith 30 = .ok (.iload_n 3, 1) := by decide +kernel
theorem dX2_hiddenPairsWith_31 : decode cX2_hiddenPairsWith 31 = .ok (.aload_n 0, 1) := by decide +kernel
theorem dX2_hiddenPairsWith_32 : decode cX2_hiddenPairsWith 32 = .ok (.iload 5, 2) := by decide +kernel
theorem dX2_hiddenPairsWith_34 : decode cX2_hiddenPairsWith 34 = .ok (.invokevirtual 34, 3) := by decide +kernel
theorem dX2_hiddenPairsWith_37 : decode cX2_hiddenPairsWith 37 = .ok (.iadd, 1) := by decide +kernel
theorem dX2_hiddenPairsWith_38 : decode cX2_hiddenPairsWith 38 = .ok (.istore_n 3, 1) := by decide +kernel
theorem dX2_hiddenPairsWith_39 : decode cX2_hiddenPairsWith 39 = .ok (.iload 4, 2) := by decide +kernel
theorem dX2_hiddenPairsWith_41 : decode cX2_hiddenPairsWith 41 = .ok (.iconst 1, 1) := by decide +kernel
theorem dX2_hiddenPairsWith_42 : decode cX2_hiddenPairsWith 42 = .ok (.iadd, 1) := by decide +kernel
theorem dX2_hiddenPairsWith_43 : decode cX2_hiddenPairsWith 43 = .ok (.bipush 6, 2) := by decide +kernel
theorem dX2_hiddenPairsWith_45 : decode cX2_hiddenPairsWith 45 = .ok (.if_icmp .ge 37, 3) := by decide +kernel
theorem dX2_hiddenPairsWith_48 : decode cX2_hiddenPairsWith 48 = .ok (.iload 4, 2) := by decide +kernel
theorem dX2_hiddenPairsWith_50 : decode cX2_hiddenPairsWith 50 = .ok (.iconst 1, 1) := by decide +kernel
theorem dX2_hiddenPairsWith_51 : decode cX2_hiddenPairsWith 51 = .ok (.iadd, 1) := by decide +kernel
theorem dX2_hiddenPairsWith_52 : decode cX2_hiddenPairsWith 52 = .ok (.iload_n 1, 1) := by decide +kernel
theorem dX2_hiddenPairsWith_53 : decode cX2_hiddenPairsWith 53 = .ok (.if_icmp .ne 7, 3) := by decide +kernel
theorem dX2_hiddenPairsWith_56 : decode cX2_hiddenPairsWith 56 = .ok (.iload_n 2, 1) := by decide +kernel
theorem dX2_hiddenPairsWith_57 : decode cX2_hiddenPairsWith 57 = .ok (.goto 11, 3) := by decide +kernel
theorem dX2_hiddenPairsWith_60 : decode cX2_hiddenPairsWith 60 = .ok (.aload_n 0, 1) := by decide +kernel
theorem dX2_hiddenPairsWith_61 : decode cX2_hiddenPairsWith 61 = .ok (.iload 4, 2) := by decide +kernel
theorem dX2_hiddenPairsWith_63 : decode cX2_hiddenPairsWith 63 = .ok (.iconst 1, 1) := by decide +kernel
theorem dX2_hiddenPairsWith_64 : decode cX2_hiddenPairsWith 64 = .ok (.iadd, 1) := by decide +kernel
theorem dX2_hiddenPairsWith_65 : decode cX2_hiddenPairsWith 65 = .ok (.invokevirtual 23, 3) := by decide +kernel
theorem dX2_hiddenPairsWith_68 : decode cX2_hiddenPairsWith 68 = .ok (.istore 6, 2) := by decide +kernel
theorem dX2_hiddenPairsWith_70 : decode cX2_hiddenPairsWith 70 = .ok (.iload_n 3, 1) := by decide +kernel
theorem dX2_hiddenPairsWith_71 : decode cX2_hiddenPairsWith 71 = .ok (.aload_n 0, 1) := by decide +kernel
theorem dX2_hiddenPairsWith_72 : decode cX2_hiddenPairsWith 72 = .ok (.iload 5, 2) := by decide +kernel
theorem dX2_hiddenPairsWith_74 : decode cX2_hiddenPairsWith 74 = .ok (.iload 6, 2) := by decide +kernel
theorem dX2_hiddenPairsWith_76 : decode cX2_hiddenPairsWith 76 = .ok (.isub, 1) := by decide +kernel
theorem dX2_hiddenPairsWith_77 : decode cX2_hiddenPairsWith 77 = .ok (.invokevirtual 34, 3) := by decide +kernel
theorem dX2_hiddenPairsWith_80 : decode cX2_hiddenPairsWith 80 = .ok (.iadd, 1) := by decide +kernel
theorem dX2_hiddenPairsWith_81 : decode cX2_hiddenPairsWith 81 = .ok (.istore_n 3, 1) := by decide +kernel
theorem dX2_hiddenPairsWith_82 : decode cX2_hiddenPairsWith 82 = .ok (.iinc 4 1, 3) := by decide +kernel
theorem dX2_hiddenPairsWith_85 : decode cX2_hiddenPairsWith 85 = .ok (.goto (-80), 3) := by decide +kernel
theorem dX2_hiddenPairsWith_88 : decode cX2_hiddenPairsWith 88 = .ok (.iload_n 3, 1) := by decide +kernel
theorem dX2_hiddenPairsWith_89 : decode cX2_hiddenPairsWith 89 = .ok (.ireturn, 1) := by decide +kernel
theorem dX2_hidesNothing_0 : decode cX2_hidesNothing 0 = .ok (.iconst 0, 1) := by decide +kernel
theorem dX2_hidesNothing_1 : decode cX2_hidesNothing 1 = .ok (.istore_n 2, 1) := by decide +kernel
theorem dX2_hidesNothing_2 : decode cX2_hidesNothing 2 = .ok (.iload_n 2, 1) := by decide +kernel
theorem dX2_hidesNothing_3 : decode cX2_hidesNothing 3 = .ok (.iload_n 1, 1) := by decide +kernel
theorem dX2_hidesNothing_4 : decode cX2_hidesNothing 4 = .ok (.invokestatic 37, 3) := by decide +kernel
theorem dX2_hidesNothing_7 : decode cX2_hidesNothing 7 = .ok (.if_icmp .ge 24, 3) := by decide +kernel
theorem dX2_hidesNothing_10 : decode cX2_hidesNothing 10 = .ok (.aload_n 0, 1) := by decide +kernel
theorem dX2_hidesNothing_11 : decode cX2_hidesNothing 11 = .ok (.aload_n 0, 1) := by decide +kernel
theorem dX2_hidesNothing_12 : decode cX2_hidesNothing 12 = .ok (.iload_n 2, 1) := by decide +kernel
theorem dX2_hidesNothing_13 : decode cX2_hidesNothing 13 = .ok (.iload_n 1, 1) := by decide +kernel
theorem dX2_hidesNothing_14 : decode cX2_hidesNothing 14 = .ok (.invokevirtual 40, 3) := by decide +kernel
theorem dX2_hidesNothing_17 : decode cX2_hidesNothing 17 = .ok (.invokevirtual 34, 3) := by decide +kernel
theorem dX2_hidesNothing_20 : decode cX2_hidesNothing 20 = .ok (.ifCond .le 5, 3) := by decide +kernel
theorem dX2_hidesNothing_23 : decode cX2_hidesNothing 23 = .ok (.iconst 0, 1) := by decide +kernel
theorem dX2_hidesNothing_24 : decode cX2_hidesNothing 24 = .ok (.ireturn, 1) := by decide +kernel
theorem dX2_hidesNothing_25 : decode cX2_hidesNothing 25 = .ok (.iinc 2 1, 3) := by decide +kernel
theorem dX2_hidesNothing_28 : decode cX2_hidesNothing 28 = .ok (.goto (-26), 3) := by decide +kernel
theorem dX2_hidesNothing_31 : decode cX2_hidesNothing 31 = .ok (.iconst 1, 1) := by decide +kernel
theorem dX2_hidesNothing_32 : decode cX2_hidesNothing 32 = .ok (.ireturn, 1) := by decide +kernel
theorem dX2_hiddenMisreadings_0 : decode cX2_hiddenMisreadings 0 = .ok (.iconst 0, 1) := by decide +kernel
theorem dX2_hiddenMisreadings_1 : decode cX2_hiddenMisreadings 1 = .ok (.istore_n 2, 1) := by decide +kernel
theorem dX2_hiddenMisreadings_2 : decode cX2_hiddenMisreadings 2 = .ok (.iconst 0, 1) := by decide +kernel
theorem dX2_hiddenMisreadings_3 : decode cX2_hiddenMisreadings 3 = .ok (.istore_n 3, 1) := by decide +kernel
theorem dX2_hiddenMisreadings_4 : decode cX2_hiddenMisreadings 4 = .ok (.iload_n 3, 1) := by decide +kernel
theorem dX2_hiddenMisreadings_5 : decode cX2_hiddenMisreadings 5 = .ok (.bipush 6, 2) := by decide +kernel
theorem dX2_hiddenMisreadings_7 : decode cX2_hiddenMisreadings 7 = .ok (.if_icmp .ge 64, 3) := by decide +kernel
theorem dX2_hiddenMisreadings_10 : decode cX2_hiddenMisreadings 10 = .ok (.iload_n 1, 1) := by decide +kernel
theorem dX2_hiddenMisreadings_11 : decode cX2_hiddenMisreadings 11 = .ok (.iload_n 3, 1) := by decide +kernel
theorem dX2_hiddenMisreadings_12 : decode cX2_hiddenMisreadings 12 = .ok (.invokestatic 44, 3) := by decide +kernel
theorem dX2_hiddenMisreadings_15 : decode cX2_hiddenMisreadings 15 = .ok (.istore 4, 2) := by decide +kernel
theorem dX2_hiddenMisreadings_17 : decode cX2_hiddenMisreadings 17 = .ok (.aload_n 0, 1) := by decide +kernel
theorem dX2_hiddenMisreadings_18 : decode cX2_hiddenMisreadings 18 = .ok (.iload_n 3, 1) := by decide +kernel
theorem dX2_hiddenMisreadings_19 : decode cX2_hiddenMisreadings 19 = .ok (.iconst 0, 1) := by decide +kernel
theorem dX2_hiddenMisreadings_20 : decode cX2_hiddenMisreadings 20 = .ok (.invokevirtual 40, 3) := by decide +kernel
theorem dX2_hiddenMisreadings_23 : decode cX2_hiddenMisreadings 23 = .ok (.istore 5, 2) := by decide +kernel
theorem dX2_hiddenMisreadings_25 : decode cX2_hiddenMisreadings 25 = .ok (.iconst 0, 1) := by decide +kernel
theorem dX2_hiddenMisreadings_26 : decode cX2_hiddenMisreadings 26 = .ok (.istore 6, 2) := by decide +kernel
theorem dX2_hiddenMisreadings_28 : decode cX2_hiddenMisreadings 28 = .ok (.iload 6, 2) := by decide +kernel
theorem dX2_hiddenMisreadings_30 : decode cX2_hiddenMisreadings 30 = .ok (.bipush 9, 2) := by decide +kernel
theorem dX2_hiddenMisreadings_32 : decode cX2_hiddenMisreadings 32 = .ok (.if_icmp .gt 33, 3) := by decide +kernel
theorem dX2_hiddenMisreadings_35 : decode cX2_hiddenMisreadings 35 = .ok (.iload 6, 2) := by decide +kernel
theorem dX2_hiddenMisreadings_37 : decode cX2_hiddenMisreadings 37 = .ok (.iload 4, 2) := by decide +kernel
theorem dX2_hiddenMisreadings_39 : decode cX2_hiddenMisreadings 39 = .ok (.if_icmp .eq 20, 3) := by decide +kernel
theorem dX2_hiddenMisreadings_42 : decode cX2_hiddenMisreadings 42 = .ok (.aload_n 0, 1) := by decide +kernel
theorem dX2_hiddenMisreadings_43 : decode cX2_hiddenMisreadings 43 = .ok (.iload 5, 2) := by decide +kernel
theorem dX2_hiddenMisreadings_45 : decode cX2_hiddenMisreadings 45 = .ok (.iload 6, 2) := by decide +kernel
theorem dX2_hiddenMisreadings_47 : decode cX2_hiddenMisreadings 47 = .ok (.iload 4, 2) := by decide +kernel
theorem dX2_hiddenMisreadings_49 : decode cX2_hiddenMisreadings 49 = .ok (.isub, 1) := by decide +kernel
theorem dX2_hiddenMisreadings_50 : decode cX2_hiddenMisreadings 50 = .ok (.invokevirtual 30, 3) := by decide +kernel
theorem dX2_hiddenMisreadings_53 : decode cX2_hiddenMisreadings 53 = .ok (.ifCond .eq 6, 3) := by decide +kernel
theorem dX2_hiddenMisreadings_56 : decode cX2_hiddenMisreadings 56 = .ok (.iinc 2 1, 3) := by decide +kernel
theorem dX2_hiddenMisreadings_59 : decode cX2_hiddenMisreadings 59 = .ok (.iinc 6 1, 3) := by decide +kernel
theorem dX2_hiddenMisreadings_62 : decode cX2_hiddenMisreadings 62 = .ok (.goto (-34), 3) := by decide +kernel
theorem dX2_hiddenMisreadings_65 : decode cX2_hiddenMisreadings 65 = .ok (.iinc 3 1, 3) := by decide +kernel
theorem dX2_hiddenMisreadings_68 : decode cX2_hiddenMisreadings 68 = .ok (.goto (-64), 3) := by decide +kernel
theorem dX2_hiddenMisreadings_71 : decode cX2_hiddenMisreadings 71 = .ok (.iload_n 2, 1) := by decide +kernel
theorem dX2_hiddenMisreadings_72 : decode cX2_hiddenMisreadings 72 = .ok (.ireturn, 1) := by decide +kernel
theorem dX2_hiddenSwaps_0 : decode cX2_hiddenSwaps 0 = .ok (.iconst 0, 1) := by decide +kernel
theorem dX2_hiddenSwaps_1 : decode cX2_hiddenSwaps 1 = .ok (.istore_n 2, 1) := by decide +kernel
theorem dX2_hiddenSwaps_2 : decode cX2_hiddenSwaps 2 = .ok (.iconst 0, 1) := by decide +kernel
theorem dX2_hiddenSwaps_3 : decode cX2_hiddenSwaps 3 = .ok (.istore_n 3, 1) := by decide +kernel
theorem dX2_hiddenSwaps_4 : decode cX2_hiddenSwaps 4 = .ok (.iload_n 3, 1) := by decide +kernel
theorem dX2_hiddenSwaps_5 : decode cX2_hiddenSwaps 5 = .ok (.iconst 1, 1) := by decide +kernel
theorem dX2_hiddenSwaps_6 : decode cX2_hiddenSwaps 6 = .ok (.iadd, 1) := by decide +kernel
theorem dX2_hiddenSwaps_7 : decode cX2_hiddenSwaps 7 = .ok (.bipush 6, 2) := by decide +kernel
theorem dX2_hiddenSwaps_9 : decode cX2_hiddenSwaps 9 = .ok (.if_icmp .ge 51, 3) := by decide +kernel
theorem dX2_hiddenSwaps_12 : decode cX2_hiddenSwaps 12 = .ok (.iload_n 1, 1) := by decide +kernel
theorem dX2_hiddenSwaps_13 : decode cX2_hiddenSwaps 13 = .ok (.iload_n 3, 1) := by decide +kernel
theorem dX2_hiddenSwaps_14 : decode cX2_hiddenSwaps 14 = .ok (.iconst 1, 1) := by decide +kernel
theorem dX2_hiddenSwaps_15 : decode cX2_hiddenSwaps 15 = .ok (.iadd, 1) := by decide +kernel
theorem dX2_hiddenSwaps_16 : decode cX2_hiddenSwaps 16 = .ok (.invokestatic 44, 3) := by decide +kernel
theorem dX2_hiddenSwaps_19 : decode cX2_hiddenSwaps 19 = .ok (.iload_n 1, 1) := by decide +kernel
theorem dX2_hiddenSwaps_20 : decode cX2_hiddenSwaps 20 = .ok (.iload_n 3, 1) := by decide +kernel
theorem dX2_hiddenSwaps_21 : decode cX2_hiddenSwaps 21 = .ok (.invokestatic 44, 3) := by decide +kernel
theorem dX2_hiddenSwaps_24 : decode cX2_hiddenSwaps 24 = .ok (.isub, 1) := by decide +kernel
theorem dX2_hiddenSwaps_25 : decode cX2_hiddenSwaps 25 = .ok (.istore 4, 2) := by decide +kernel
theorem dX2_hiddenSwaps_27 : decode cX2_hiddenSwaps 27 = .ok (.aload_n 0, 1) := by decide +kernel
theorem dX2_hiddenSwaps_28 : decode cX2_hiddenSwaps 28 = .ok (.iload_n 3, 1) := by decide +kernel
theorem dX2_hiddenSwaps_29 : decode cX2_hiddenSwaps 29 = .ok (.iconst 1, 1) := by decide +kernel
theorem dX2_hiddenSwaps_30 : decode cX2_hiddenSwaps 30 = .ok (.invokevirtual 40, 3) := by decide +kernel
theorem dX2_hiddenSwaps_33 : decode cX2_hiddenSwaps 33 = .ok (.istore 5, 2) := by decide +kernel
theorem dX2_hiddenSwaps_35 : decode cX2_hiddenSwaps 35 = .ok (.iload 4, 2) := by decide +kernel
theorem dX2_hiddenSwaps_37 : decode cX2_hiddenSwaps 37 = .ok (.ifCond .eq 17, 3) := by decide +kernel
theorem dX2_hiddenSwaps_40 : decode cX2_hiddenSwaps 40 = .ok (.aload_n 0, 1) := by decide +kernel
theorem dX2_hiddenSwaps_41 : decode cX2_hiddenSwaps 41 = .ok (.iload 5, 2) := by decide +kernel
theorem dX2_hiddenSwaps_43 : decode cX2_hiddenSwaps 43 = .ok (.iload 4, 2) := by decide +kernel
theorem dX2_hiddenSwaps_45 : decode cX2_hiddenSwaps 45 = .ok (.invokevirtual 30, 3) := by decide +kernel
theorem dX2_hiddenSwaps_48 : decode cX2_hiddenSwaps 48 = .ok (.ifCond .eq 6, 3) := by decide +kernel
theorem dX2_hiddenSwaps_51 : decode cX2_hiddenSwaps 51 = .ok (.iinc 2 1, 3) := by decide +kernel
theorem dX2_hiddenSwaps_54 : decode cX2_hiddenSwaps 54 = .ok (.iinc 3 1, 3) := by decide +kernel
theorem dX2_hiddenSwaps_57 : decode cX2_hiddenSwaps 57 = .ok (.goto (-53), 3) := by decide +kernel
theorem dX2_hiddenSwaps_60 : decode cX2_hiddenSwaps 60 = .ok (.iload_n 2, 1) := by decide +kernel
theorem dX2_hiddenSwaps_61 : decode cX2_hiddenSwaps 61 = .ok (.ireturn, 1) := by decide +kernel
theorem dX2_slipKind_0 : decode cX2_slipKind 0 = .ok (.iload_n 3, 1) := by decide +kernel
theorem dX2_slipKind_1 : decode cX2_slipKind 1 = .ok (.aload_n 0, 1) := by decide +kernel
theorem dX2_slipKind_2 : decode cX2_slipKind 2 = .ok (.getfield 15, 3) := by decide +kernel
theorem dX2_slipKind_5 : decode cX2_slipKind 5 = .ok (.if_icmp .lt 5, 3) := by decide +kernel
theorem dX2_slipKind_8 : decode cX2_slipKind 8 = .ok (.iconst (-1), 1) := by decide +kernel
theorem dX2_slipKind_9 : decode cX2_slipKind 9 = .ok (.ireturn, 1) := by decide +kernel
theorem dX2_slipKind_10 : decode cX2_slipKind 10 = .ok (.aload_n 0, 1) := by decide +kernel
theorem dX2_slipKind_11 : decode cX2_slipKind 11 = .ok (.iload_n 1, 1) := by decide +kernel
theorem dX2_slipKind_12 : decode cX2_slipKind 12 = .ok (.invokevirtual 47, 3) := by decide +kernel
theorem dX2_slipKind_15 : decode cX2_slipKind 15 = .ok (.iload_n 3, 1) := by decide +kernel
theorem dX2_slipKind_16 : decode cX2_slipKind 16 = .ok (.if_icmp .ne 7, 3) := by decide +kernel
theorem dX2_slipKind_19 : decode cX2_slipKind 19 = .ok (.iconst 1, 1) := by decide +kernel
theorem dX2_slipKind_20 : decode cX2_slipKind 20 = .ok (.goto 4, 3) := by decide +kernel
theorem dX2_slipKind_23 : decode cX2_slipKind 23 = .ok (.iconst 0, 1) := by decide +kernel
theorem dX2_slipKind_24 : decode cX2_slipKind 24 = .ok (.istore 4, 2) := by decide +kernel
theorem dX2_slipKind_26 : decode cX2_slipKind 26 = .ok (.iload_n 1, 1) := by decide +kernel
theorem dX2_slipKind_27 : decode cX2_slipKind 27 = .ok (.iload_n 2, 1) := by decide +kernel
theorem dX2_slipKind_28 : decode cX2_slipKind 28 = .ok (.if_icmp .ne 14, 3) := by decide +kernel
theorem dX2_slipKind_31 : decode cX2_slipKind 31 = .ok (.iload 4, 2) := by decide +kernel
theorem dX2_slipKind_33 : decode cX2_slipKind 33 = .ok (.ifCond .eq 7, 3) := by decide +kernel
theorem dX2_slipKind_36 : decode cX2_slipKind 36 = .ok (.iconst 3, 1) := by decide +kernel
theorem dX2_slipKind_37 : decode cX2_slipKind 37 = .ok (.goto 4, 3) := by decide +kernel
theorem dX2_slipKind_40 : decode cX2_slipKind 40 = .ok (.iconst 2, 1) := by decide +kernel
theorem dX2_slipKind_41 : decode cX2_slipKind 41 = .ok (.ireturn, 1) := by decide +kernel
theorem dX2_slipKind_42 : decode cX2_slipKind 42 = .ok (.iload 4, 2) := by decide +kernel
theorem dX2_slipKind_44 : decode cX2_slipKind 44 = .ok (.ifCond .eq 11, 3) := by decide +kernel
theorem dX2_slipKind_47 : decode cX2_slipKind 47 = .ok (.iload_n 1, 1) := by decide +kernel
theorem dX2_slipKind_48 : decode cX2_slipKind 48 = .ok (.iload_n 2, 1) := by decide +kernel
theorem dX2_slipKind_49 : decode cX2_slipKind 49 = .ok (.invokestatic 50, 3) := by decide +kernel
theorem dX2_slipKind_52 : decode cX2_slipKind 52 = .ok (.goto 4, 3) := by decide +kernel
theorem dX2_slipKind_55 : decode cX2_slipKind 55 = .ok (.iconst (-1), 1) := by decide +kernel
theorem dX2_slipKind_56 : decode cX2_slipKind 56 = .ok (.ireturn, 1) := by decide +kernel
theorem dX2_digitSlip_0 : decode cX2_digitSlip 0 = .ok (.iconst 0, 1) := by decide +kernel
theorem dX2_digitSlip_1 : decode cX2_digitSlip 1 = .ok (.istore_n 2, 1) := by decide +kernel
theorem dX2_digitSlip_2 : decode cX2_digitSlip 2 = .ok (.iconst 0, 1) := by decide +kernel
theorem dX2_digitSlip_3 : decode cX2_digitSlip 3 = .ok (.istore_n 3, 1) := by decide +kernel
theorem dX2_digitSlip_4 : decode cX2_digitSlip 4 = .ok (.iconst 0, 1) := by decide +kernel
theorem dX2_digitSlip_5 : decode cX2_digitSlip 5 = .ok (.istore 4, 2) := by decide +kernel
theorem dX2_digitSlip_7 : decode cX2_digitSlip 7 = .ok (.iload 4, 2) := by decide +kernel
theorem dX2_digitSlip_9 : decode cX2_digitSlip 9 = .ok (.bipush 6, 2) := by decide +kernel
theorem dX2_digitSlip_11 : decode cX2_digitSlip 11 = .ok (.if_icmp .ge 34, 3) := by decide +kernel
theorem dX2_digitSlip_14 : decode cX2_digitSlip 14 = .ok (.iload_n 0, 1) := by decide +kernel
theorem dX2_digitSlip_15 : decode cX2_digitSlip 15 = .ok (.iload 4, 2) := by decide +kernel
theorem dX2_digitSlip_17 : decode cX2_digitSlip 17 = .ok (.invokestatic 44, 3) := by decide +kernel
theorem dX2_digitSlip_20 : decode cX2_digitSlip 20 = .ok (.iload_n 1, 1) := by decide +kernel
theorem dX2_digitSlip_21 : decode cX2_digitSlip 21 = .ok (.iload 4, 2) := by decide +kernel
theorem dX2_digitSlip_23 : decode cX2_digitSlip 23 = .ok (.invokestatic 44, 3) := by decide +kernel
theorem dX2_digitSlip_26 : decode cX2_digitSlip 26 = .ok (.if_icmp .eq 13, 3) := by decide +kernel
theorem dX2_digitSlip_29 : decode cX2_digitSlip 29 = .ok (.iload_n 2, 1) := by decide +kernel
theorem dX2_digitSlip_30 : decode cX2_digitSlip 30 = .ok (.ifCond .ne 6, 3) := by decide +kernel
theorem dX2_digitSlip_33 : decode cX2_digitSlip 33 = .ok (.iload 4, 2) := by decide +kernel
theorem dX2_digitSlip_35 : decode cX2_digitSlip 35 = .ok (.istore_n 3, 1) := by decide +kernel
theorem dX2_digitSlip_36 : decode cX2_digitSlip 36 = .ok (.iinc 2 1, 3) := by decide +kernel
theorem dX2_digitSlip_39 : decode cX2_digitSlip 39 = .ok (.iinc 4 1, 3) := by decide +kernel
theorem dX2_digitSlip_42 : decode cX2_digitSlip 42 = .ok (.goto (-35), 3) := by decide +kernel
theorem dX2_digitSlip_45 : decode cX2_digitSlip 45 = .ok (.iload_n 2, 1) := by decide +kernel
theorem dX2_digitSlip_46 : decode cX2_digitSlip 46 = .ok (.iconst 1, 1) := by decide +kernel
theorem dX2_digitSlip_47 : decode cX2_digitSlip 47 = .ok (.if_icmp .ne 5, 3) := by decide +kernel
theorem dX2_digitSlip_50 : decode cX2_digitSlip 50 = .ok (.iconst 0, 1) := by decide +kernel
theorem dX2_digitSlip_51 : decode cX2_digitSlip 51 = .ok (.ireturn, 1) := by decide +kernel
theorem dX2_digitSlip_52 : decode cX2_digitSlip 52 = .ok (.iload_n 2, 1) := by decide +kernel
theorem dX2_digitSlip_53 : decode cX2_digitSlip 53 = .ok (.iconst 2, 1) := by decide +kernel
theorem dX2_digitSlip_54 : decode cX2_digitSlip 54 = .ok (.if_icmp .ne 16, 3) := by decide +kernel
theorem dX2_digitSlip_57 : decode cX2_digitSlip 57 = .ok (.iload_n 0, 1) := by decide +kernel
theorem dX2_digitSlip_58 : decode cX2_digitSlip 58 = .ok (.iload_n 1, 1) := by decide +kernel
theorem dX2_digitSlip_59 : decode cX2_digitSlip 59 = .ok (.iload_n 3, 1) := by decide +kernel
theorem dX2_digitSlip_60 : decode cX2_digitSlip 60 = .ok (.invokestatic 53, 3) := by decide +kernel
theorem dX2_digitSlip_63 : decode cX2_digitSlip 63 = .ok (.ifCond .eq 7, 3) := by decide +kernel
theorem dX2_digitSlip_66 : decode cX2_digitSlip 66 = .ok (.iconst 1, 1) := by decide +kernel
theorem dX2_digitSlip_67 : decode cX2_digitSlip 67 = .ok (.goto 4, 3) := by decide +kernel
theorem dX2_digitSlip_70 : decode cX2_digitSlip 70 = .ok (.iconst 0, 1) := by decide +kernel
theorem dX2_digitSlip_71 : decode cX2_digitSlip 71 = .ok (.istore 4, 2) := by decide +kernel
theorem dX2_digitSlip_73 : decode cX2_digitSlip 73 = .ok (.iload 4, 2) := by decide +kernel
theorem dX2_digitSlip_75 : decode cX2_digitSlip 75 = .ok (.ifCond .eq 7, 3) := by decide +kernel
theorem dX2_digitSlip_78 : decode cX2_digitSlip 78 = .ok (.iconst 1, 1) := by decide +kernel
theorem dX2_digitSlip_79 : decode cX2_digitSlip 79 = .ok (.goto 4, 3) := by decide +kernel
theorem dX2_digitSlip_82 : decode cX2_digitSlip 82 = .ok (.iconst (-1), 1) := by decide +kernel
theorem dX2_digitSlip_83 : decode cX2_digitSlip 83 = .ok (.ireturn, 1) := by decide +kernel
theorem dX2_isSwapped_0 : decode cX2_isSwapped 0 = .ok (.iload_n 0, 1) := by decide +kernel
theorem dX2_isSwapped_1 : decode cX2_isSwapped 1 = .ok (.iload_n 2, 1) := by decide +kernel
theorem dX2_isSwapped_2 : decode cX2_isSwapped 2 = .ok (.invokestatic 44, 3) := by decide +kernel
theorem dX2_isSwapped_5 : decode cX2_isSwapped 5 = .ok (.iload_n 1, 1) := by decide +kernel
theorem dX2_isSwapped_6 : decode cX2_isSwapped 6 = .ok (.iload_n 2, 1) := by decide +kernel
theorem dX2_isSwapped_7 : decode cX2_isSwapped 7 = .ok (.iconst 1, 1) := by decide +kernel
theorem dX2_isSwapped_8 : decode cX2_isSwapped 8 = .ok (.iadd, 1) := by decide +kernel
theorem dX2_isSwapped_9 : decode cX2_isSwapped 9 = .ok (.invokestatic 44, 3) := by decide +kernel
theorem dX2_isSwapped_12 : decode cX2_isSwapped 12 = .ok (.if_icmp .ne 22, 3) := by decide +kernel
theorem dX2_isSwapped_15 : decode cX2_isSwapped 15 = .ok (.iload_n 0, 1) := by decide +kernel
theorem dX2_isSwapped_16 : decode cX2_isSwapped 16 = .ok (.iload_n 2, 1) := by decide +kernel
theorem dX2_isSwapped_17 : decode cX2_isSwapped 17 = .ok (.iconst 1, 1) := by decide +kernel
theorem dX2_isSwapped_18 : decode cX2_isSwapped 18 = .ok (.iadd, 1) := by decide +kernel
theorem dX2_isSwapped_19 : decode cX2_isSwapped 19 = .ok (.invokestatic 44, 3) := by decide +kernel
theorem dX2_isSwapped_22 : decode cX2_isSwapped 22 = .ok (.iload_n 1, 1) := by decide +kernel
theorem dX2_isSwapped_23 : decode cX2_isSwapped 23 = .ok (.iload_n 2, 1) := by decide +kernel
theorem dX2_isSwapped_24 : decode cX2_isSwapped 24 = .ok (.invokestatic 44, 3) := by decide +kernel
theorem dX2_isSwapped_27 : decode cX2_isSwapped 27 = .ok (.if_icmp .ne 7, 3) := by decide +kernel
theorem dX2_isSwapped_30 : decode cX2_isSwapped 30 = .ok (.iconst 1, 1) := by decide +kernel
theorem dX2_isSwapped_31 : decode cX2_isSwapped 31 = .ok (.goto 4, 3) := by decide +kernel
theorem dX2_isSwapped_34 : decode cX2_isSwapped 34 = .ok (.iconst 0, 1) := by decide +kernel
theorem dX2_isSwapped_35 : decode cX2_isSwapped 35 = .ok (.ireturn, 1) := by decide +kernel
end
section
def f2_weightAt (wW : Nat → Int32) (x1 : Int32) : Option (Int32) :=
  some ((if x1 < 0 then (0 : Int32) else (if (6 : Int32) ≤ x1 then (0 : Int32) else (wW x1.toNatClampNeg))))
def f2_restOf (wm : Int32) (x1 : Int32) : Option (Int32) :=
  if (1 : Int32) ≤ wm then
    if ¬ wm = 0 then
      some ((if 0 ≤ (x1 - x1 / wm * wm) then (x1 - x1 / wm * wm) else ((x1 - x1 / wm * wm) + wm)))
    else none
  else
    some ((0 : Int32))
def f2_letterOf_l7 (wm : Int32) (wW : Nat → Int32) : Nat → Int32 → Int32 → Int32 → Option (Int32)
  | 0, _, _, _ => none
  | n + 1, x2, x3, x4 =>
    if x4 < 0 then
      bd1 (f2_restOf wm x2) (fun q3 =>
        some (q3))
    else
      bd1 (f2_weightAt wW x4) (fun q5 =>
        lt_ (x2 + (q5 * (x3 - x3 / (10 : Int32) * (10 : Int32)))) (fun t6 =>
          (f2_letterOf_l7 wm wW n) t6 (x3 / (10 : Int32)) (x4 + (-1))))
def f2_letterOf (wm : Int32) (wW : Nat → Int32) (x1 : Int32) : Option (Int32) :=
  f2_letterOf_l7 wm wW fu (0 : Int32) x1 (5 : Int32)
def f2_digitAt_l4 (x1 : Int32) : Nat → Int32 → Int32 → Option (Int32)
  | 0, _, _ => none
  | n + 1, x2, x3 =>
    if x3 ≤ x1 then
      some ((x2 - x2 / (10 : Int32) * (10 : Int32)))
    else
      (f2_digitAt_l4 x1 n) (x2 / (10 : Int32)) (x3 + (-1))
def f2_digitAt (x0 : Int32) (x1 : Int32) : Option (Int32) :=
  f2_digitAt_l4 x1 fu x0 (5 : Int32)
def f2_setWeight (wW : Nat → Int32) (x1 : Int32) (x2 : Int32) : Option ((Nat → Int32)) :=
  some ((if x1 < 0 then wW else (if (6 : Int32) ≤ x1 then wW else (upd wW x1.toNatClampNeg x2))))
abbrev rm2_weightAt : Room := { frames := 0, cells := 0, slots := 0, locals := 0 }
theorem hd2_weightAt : yX2_weightAt.cls = RX2 ∧ yX2_weightAt.cls ≠ "java/lang/invoke/MethodHandle" ∧ yX2_weightAt.cls ≠ "java/lang/invoke/VarHandle" ∧ (parseMethodDescriptor yX2_weightAt.desc).map (fun d => d.parameters.length) = some 1 := by decide +kernel
set_option maxHeartbeats 4000000 in
set_option maxRecDepth 100000 in
theorem K2_weightAt (l : Launch) (D : va_G) (cI cZ cS cJ : ClassId) (aL aW : Nat) (wm : Int32) (wW : Nat → Int32) (x1 : Int32) (r : Int32) (hF : f2_weightAt wW x1 = some (r)) : Met l yX2_weightAt wsX2_weightAt rm2_weightAt (rP D (gT cI cZ cS cJ) (W2 cI aL aW wm wW) [.ref aL, .int x1]) (rQ (.int r)) 0 0 (fun _ => False) := by
  refine Met.ofW (cc := cX2_weightAt) (maxL := 2) (ret := (some .int)) (by decide) rfl ?_
  intro p e s m args below meth c s₁ B hml hv
  obtain ⟨ha, hK, hP⟩ := hv
  have hx := B.exec
  have hb := B.bytes
  have hr := B.returns
  have hlocks := B.notSynchronized
  have hts : ∀ w ∈ lw_all, w.before args s = true := fun w h => atoms_spec (ws := wsX2_weightAt) B.pre w (List.mem_cons_of_mem _ h)
  have hown : s.vm.findClass RX2 = some m.cls := findClass_of_methodNamed B.named
  have S : CallFix p m c cX2_weightAt 2 s args lw_all RX2 := ⟨hx, hb, hml, hown, hts⟩
  have hl := lv_entry ([.ref aL, .int x1] : List Value) (n := 2) (Nat.le_of_ble_eq_true rfl)
  refine W.eq (g2 := F0 m 0 ((lg_sl ([.ref aL, .int x1] : List Value) ++ List.replicate (2 - (lg_sl ([.ref aL, .int x1] : List Value)).length) Slot.unset).toArray) []) (by rw [ha]; exact lg_entry_eq _ _ _) ?_
  generalize (lg_sl ([.ref aL, .int x1] : List Value) ++ List.replicate (2 - (lg_sl ([.ref aL, .int x1] : List Value)).length) Slot.unset).toArray = ls at hl ⊢
  have hl : lv_has ls 2 [(0, .ref aL), (1, .int x1)] := hl
  rw [f2_weightAt] at hF
  show rW p l e wsX2_weightAt rm2_weightAt s m args below meth c (.int r) (F0 m 0 ls [])
  refine lv_iload_n hx hb dX2_weightAt_0 rfl (lv_at hl 1 rfl) ?_
  refine lv_if_lt (tgt := 22) hx hb dX2_weightAt_1 (by decide) (fun c1 => ?_) (fun c1 => ?_)
  · rw [if_pos c1] at hF
    refine lv_iconst hx hb dX2_weightAt_22 kc_iconst_0 ?_
    exact rret hF hx hb hr hlocks dX2_weightAt_23
  · rw [if_neg c1] at hF
    refine lv_iload_n hx hb dX2_weightAt_4 rfl (lv_at hl 1 rfl) ?_
    refine lv_aload_n hx hb dX2_weightAt_5 rfl (lv_at hl 0 rfl) ?_
    refine va_get (D := D) (ci := 2) (v := .ref aW) (C := RX2) (T := TX2) (N := 2) hx hb hts i_X2 hown hK.1 hP 0 rfl rfl 0 (by decide) (hts _ wd_95) (fun _ h9 => h9) rfl dX2_weightAt_6 ?_
    refine va_alen (v := (6 : Int32)) hx hb hK.1 hP 1 0 rfl rfl rfl dX2_weightAt_9 ?_
    refine lv_icmp_ge (tgt := 22) hx hb dX2_weightAt_10 (by decide) (fun c2 => ?_) (fun c2 => ?_)
    · rw [if_pos c2] at hF
      refine lv_iconst hx hb dX2_weightAt_22 kc_iconst_0 ?_
      exact rret hF hx hb hr hlocks dX2_weightAt_23
    · rw [if_neg c2] at hF
      refine lv_aload_n hx hb dX2_weightAt_13 rfl (lv_at hl 0 rfl) ?_
      refine va_get (D := D) (ci := 2) (v := .ref aW) (C := RX2) (T := TX2) (N := 2) hx hb hts i_X2 hown hK.1 hP 0 rfl rfl 0 (by decide) (hts _ wd_95) (fun _ h9 => h9) rfl dX2_weightAt_14 ?_
      refine lv_iload_n hx hb dX2_weightAt_17 rfl (lv_at hl 1 rfl) ?_
      refine va_iald hx hb hK.1 hP 1 0 rfl rfl (inb_path (N := 6) (n := 6) (by decide) c1 c2) dX2_weightAt_18 ?_
      refine lv_goto (tgt := 23) hx hb dX2_weightAt_19 (by decide) ?_
      exact rret hF hx hb hr hlocks dX2_weightAt_23
abbrev rm2_restOf : Room := { frames := 0, cells := 0, slots := 0, locals := 0 }
theorem hd2_restOf : yX2_restOf.cls = RX2 ∧ yX2_restOf.cls ≠ "java/lang/invoke/MethodHandle" ∧ yX2_restOf.cls ≠ "java/lang/invoke/VarHandle" ∧ (parseMethodDescriptor yX2_restOf.desc).map (fun d => d.parameters.length) = some 1 := by decide +kernel
set_option maxHeartbeats 4000000 in
set_option maxRecDepth 100000 in
theorem K2_restOf (l : Launch) (D : va_G) (cI cZ cS cJ : ClassId) (aL aW : Nat) (wm : Int32) (wW : Nat → Int32) (x1 : Int32) (r : Int32) (hF : f2_restOf wm x1 = some (r)) : Met l yX2_restOf wsX2_restOf rm2_restOf (rP D (gT cI cZ cS cJ) (W2 cI aL aW wm wW) [.ref aL, .int x1]) (rQ (.int r)) 0 0 (fun _ => False) := by
  refine Met.ofW (cc := cX2_restOf) (maxL := 3) (ret := (some .int)) (by decide) rfl ?_
  intro p e s m args below meth c s₁ B hml hv
  obtain ⟨ha, hK, hP⟩ := hv
  have hx := B.exec
  have hb := B.bytes
  have hr := B.returns
  have hlocks := B.notSynchronized
  have hts : ∀ w ∈ lw_all, w.before args s = true := fun w h => atoms_spec (ws := wsX2_restOf) B.pre w (List.mem_cons_of_mem _ h)
  have hown : s.vm.findClass RX2 = some m.cls := findClass_of_methodNamed B.named
  have S : CallFix p m c cX2_restOf 3 s args lw_all RX2 := ⟨hx, hb, hml, hown, hts⟩
  have hl := lv_entry ([.ref aL, .int x1] : List Value) (n := 3) (Nat.le_of_ble_eq_true rfl)
  refine W.eq (g2 := F0 m 0 ((lg_sl ([.ref aL, .int x1] : List Value) ++ List.replicate (3 - (lg_sl ([.ref aL, .int x1] : List Value)).length) Slot.unset).toArray) []) (by rw [ha]; exact lg_entry_eq _ _ _) ?_
  generalize (lg_sl ([.ref aL, .int x1] : List Value) ++ List.replicate (3 - (lg_sl ([.ref aL, .int x1] : List Value)).length) Slot.unset).toArray = ls at hl ⊢
  have hl : lv_has ls 3 [(0, .ref aL), (1, .int x1)] := hl
  rw [f2_restOf] at hF
  show rW p l e wsX2_restOf rm2_restOf s m args below meth c (.int r) (F0 m 0 ls [])
  refine lv_aload_n hx hb dX2_restOf_0 rfl (lv_at hl 0 rfl) ?_
  refine va_get (D := D) (ci := 2) (v := .int wm) (C := RX2) (T := TX2) (N := 2) hx hb hts i_X2 hown hK.1 hP 0 rfl rfl 1 (by decide) (hts _ wd_96) (fun _ h9 => h9) rfl dX2_restOf_1 ?_
  refine lv_iconst hx hb dX2_restOf_4 kc_iconst_1 ?_
  refine lv_icmp_ge (tgt := 10) hx hb dX2_restOf_5 (by decide) (fun c1 => ?_) (fun c1 => ?_)
  · have hF := ite_t c1 hF
    refine lv_iload_n hx hb dX2_restOf_10 rfl (lv_at hl 1 rfl) ?_
    refine lv_aload_n hx hb dX2_restOf_11 rfl (lv_at hl 0 rfl) ?_
    refine va_get (D := D) (ci := 2) (v := .int wm) (C := RX2) (T := TX2) (N := 2) hx hb hts i_X2 hown hK.1 hP 0 rfl rfl 1 (by decide) (hts _ wd_96) (fun _ h9 => h9) rfl dX2_restOf_12 ?_
    obtain ⟨g2, hF⟩ := gd_at hF
    refine lv_irem hx hb dX2_restOf_15 g2 ?_
    refine lv_istore_n (lv' := [(2, .int (x1 - x1 / wm * wm)), (0, .ref aL), (1, .int x1)]) hx hb dX2_restOf_16 rfl hl (by decide) rfl (fun ls hl => ?_)
    refine lv_iload_n hx hb dX2_restOf_17 rfl (lv_at hl 0 rfl) ?_
    refine lv_if_ge (tgt := 30) hx hb dX2_restOf_18 (by decide) (fun c3 => ?_) (fun c3 => ?_)
    · rw [if_pos c3] at hF
      refine lv_iload_n hx hb dX2_restOf_30 rfl (lv_at hl 0 rfl) ?_
      exact rret hF hx hb hr hlocks dX2_restOf_31
    · rw [if_neg c3] at hF
      refine lv_iload_n hx hb dX2_restOf_21 rfl (lv_at hl 0 rfl) ?_
      refine lv_aload_n hx hb dX2_restOf_22 rfl (lv_at hl 1 rfl) ?_
      refine va_get (D := D) (ci := 2) (v := .int wm) (C := RX2) (T := TX2) (N := 2) hx hb hts i_X2 hown hK.1 hP 0 rfl rfl 1 (by decide) (hts _ wd_96) (fun _ h9 => h9) rfl dX2_restOf_23 ?_
      refine lv_iadd hx hb dX2_restOf_26 ?_
      refine lv_goto (tgt := 31) hx hb dX2_restOf_27 (by decide) ?_
      exact rret hF hx hb hr hlocks dX2_restOf_31
  · have hF := ite_f c1 hF
    refine lv_iconst hx hb dX2_restOf_8 kc_iconst_0 ?_
    exact rret hF hx hb hr hlocks dX2_restOf_9
abbrev rm2_letterOf : Room := { frames := 1, cells := 0, slots := 0, locals := 22 }
theorem hd2_letterOf : yX2_letterOf.cls = RX2 ∧ yX2_letterOf.cls ≠ "java/lang/invoke/MethodHandle" ∧ yX2_letterOf.cls ≠ "java/lang/invoke/VarHandle" ∧ (parseMethodDescriptor yX2_letterOf.desc).map (fun d => d.parameters.length) = some 1 := by decide +kernel
set_option maxHeartbeats 4000000 in
set_option maxRecDepth 100000 in
theorem K2_letterOf (l : Launch) (D : va_G) (cI cZ cS cJ : ClassId) (aL aW : Nat) (wm : Int32) (wW : Nat → Int32) (x1 : Int32) (r : Int32) (hF : f2_letterOf wm wW x1 = some (r)) : Met l yX2_letterOf wsX2_letterOf rm2_letterOf (rP D (gT cI cZ cS cJ) (W2 cI aL aW wm wW) [.ref aL, .int x1]) (rQ (.int r)) 0 0 (fun _ => False) := by
  refine Met.ofW (cc := cX2_letterOf) (maxL := 5) (ret := (some .int)) (by decide) rfl ?_
  intro p e s m args below meth c s₁ B hml hv
  obtain ⟨ha, hK, hP⟩ := hv
  have hx := B.exec
  have hb := B.bytes
  have hr := B.returns
  have hlocks := B.notSynchronized
  have hts : ∀ w ∈ lw_all, w.before args s = true := fun w h => atoms_spec (ws := wsX2_letterOf) B.pre w (List.mem_cons_of_mem _ h)
  have hown : s.vm.findClass RX2 = some m.cls := findClass_of_methodNamed B.named
  have S : CallFix p m c cX2_letterOf 5 s args lw_all RX2 := ⟨hx, hb, hml, hown, hts⟩
  have hl := lv_entry ([.ref aL, .int x1] : List Value) (n := 5) (Nat.le_of_ble_eq_true rfl)
  refine W.eq (g2 := F0 m 0 ((lg_sl ([.ref aL, .int x1] : List Value) ++ List.replicate (5 - (lg_sl ([.ref aL, .int x1] : List Value)).length) Slot.unset).toArray) []) (by rw [ha]; exact lg_entry_eq _ _ _) ?_
  generalize (lg_sl ([.ref aL, .int x1] : List Value) ++ List.replicate (5 - (lg_sl ([.ref aL, .int x1] : List Value)).length) Slot.unset).toArray = ls at hl ⊢
  have hl : lv_has ls 5 [(0, .ref aL), (1, .int x1)] := hl
  clear ha
  have W_7 : ∀  (n : Nat) (x2 : Int32) (x3 : Int32) (x4 : Int32), ∀ (ls : Array Slot), lv_has ls 5 [(0, .ref aL), (2, .int x2), (3, .int x3), (4, .int x4)] → f2_letterOf_l7 wm wW n x2 x3 x4 = some (r) → rW p l e wsX2_letterOf rm2_letterOf s m args below meth c (.int r) (F0 m 7 ls []) := by
    intro   n
    induction n with
    | zero =>
      intro x2 x3 x4 ls hl hF
      rw [f2_letterOf_l7] at hF
      cases hF
    | succ n ih =>
      intro x2 x3 x4 ls hl hF
      rw [f2_letterOf_l7] at hF
      refine lv_iload hx hb dX2_letterOf_7 (lv_at hl 3 rfl) ?_
      refine lv_if_lt (tgt := 37) hx hb dX2_letterOf_9 (by decide) (fun c1 => ?_) (fun c1 => ?_)
      · have hF := ite_t c1 hF
        refine lv_aload_n hx hb dX2_letterOf_37 rfl (lv_at hl 0 rfl) ?_
        refine lv_iload_n hx hb dX2_letterOf_38 rfl (lv_at hl 1 rfl) ?_
        obtain ⟨q3, h2, hF⟩ := bd1_at hF
        refine rcall (va_runV (As := [.int x2]) (rest := []) S (K2_restOf l D cI cZ cS cJ aL aW wm wW x2 q3 h2) (cwV 1 hts (gd_V wd_484 wd_486 wd_11 wd_63 wd_487) rfl rfl rfl hd2_restOf ⟨Nat.le_of_ble_eq_true rfl, Nat.le_of_ble_eq_true rfl⟩) (rPreV hK hP (ci := 2) (q := (RX2, TX2, 2)) rfl rfl) rfl rfl hl.1 rfl (lv_room (Nat.le_of_ble_eq_true rfl)) dX2_letterOf_39 ⟨Nat.zero_le _, Nat.zero_le _⟩) ?_
        exact rret hF hx hb hr hlocks dX2_letterOf_42
      · have hF := ite_f c1 hF
        refine lv_iload_n hx hb dX2_letterOf_12 rfl (lv_at hl 1 rfl) ?_
        refine lv_aload_n hx hb dX2_letterOf_13 rfl (lv_at hl 0 rfl) ?_
        refine lv_iload hx hb dX2_letterOf_14 (lv_at hl 3 rfl) ?_
        obtain ⟨q5, h4, hF⟩ := bd1_at hF
        refine rcall (va_runV (As := [.int x4]) (rest := [.int x2]) S (K2_weightAt l D cI cZ cS cJ aL aW wm wW x4 q5 h4) (cwV 1 hts (gd_V wd_483 wd_395 wd_396 wd_63 wd_397) rfl rfl rfl hd2_weightAt ⟨Nat.le_of_ble_eq_true rfl, Nat.le_of_ble_eq_true rfl⟩) (rPreV hK hP (ci := 2) (q := (RX2, TX2, 2)) rfl rfl) rfl rfl hl.1 rfl (lv_room (Nat.le_of_ble_eq_true rfl)) dX2_letterOf_16 ⟨Nat.zero_le _, Nat.zero_le _⟩) ?_
        refine lv_iload_n hx hb dX2_letterOf_19 rfl (lv_at hl 2 rfl) ?_
        refine lv_bipush hx hb dX2_letterOf_20 kc_bipush_10 ?_
        refine lv_irem hx hb dX2_letterOf_22 (by decide) ?_
        refine lv_imul hx hb dX2_letterOf_23 ?_
        refine lv_iadd hx hb dX2_letterOf_24 ?_
        refine lv_topi (fun t6 e7 => ?_)
        have hF := lt_at e7 hF
        refine lv_istore_n (lv' := [(2, .int t6), (0, .ref aL), (3, .int x3), (4, .int x4)]) hx hb dX2_letterOf_25 rfl hl (by decide) rfl (fun ls hl => ?_)
        refine lv_iload_n hx hb dX2_letterOf_26 rfl (lv_at hl 2 rfl) ?_
        refine lv_bipush hx hb dX2_letterOf_27 kc_bipush_10 ?_
        refine lv_idiv hx hb dX2_letterOf_29 (by decide) ?_
        refine lv_istore_n (lv' := [(3, .int (x3 / (10 : Int32))), (2, .int t6), (0, .ref aL), (4, .int x4)]) hx hb dX2_letterOf_30 rfl hl (by decide) rfl (fun ls hl => ?_)
        refine lv_iinc (v := (x4 + (-1))) (lv' := [(4, .int (x4 + (-1))), (3, .int (x3 / (10 : Int32))), (2, .int t6), (0, .ref aL)]) hx hb dX2_letterOf_31 hl (k := 3) rfl rfl (by decide) rfl (fun ls hl => ?_)
        refine lv_goto (tgt := 7) hx hb dX2_letterOf_34 (by decide) ?_
        exact ih t6 (x3 / (10 : Int32)) (x4 + (-1)) ls (lv_sub hl [3, 2, 1, 0] rfl) hF
  rw [f2_letterOf] at hF
  show rW p l e wsX2_letterOf rm2_letterOf s m args below meth c (.int r) (F0 m 0 ls [])
  refine lv_iconst hx hb dX2_letterOf_0 kc_iconst_0 ?_
  refine lv_istore_n (lv' := [(2, .int (0 : Int32)), (0, .ref aL), (1, .int x1)]) hx hb dX2_letterOf_1 rfl hl (by decide) rfl (fun ls hl => ?_)
  refine lv_iload_n hx hb dX2_letterOf_2 rfl (lv_at hl 2 rfl) ?_
  refine lv_istore_n (lv' := [(3, .int x1), (2, .int (0 : Int32)), (0, .ref aL), (1, .int x1)]) hx hb dX2_letterOf_3 rfl hl (by decide) rfl (fun ls hl => ?_)
  refine lv_iconst hx hb dX2_letterOf_4 kc_iconst_5 ?_
  refine lv_istore (lv' := [(4, .int (5 : Int32)), (3, .int x1), (2, .int (0 : Int32)), (0, .ref aL), (1, .int x1)]) hx hb dX2_letterOf_5 hl (by decide) rfl (fun ls hl => ?_)
  exact W_7   fu (0 : Int32) x1 (5 : Int32) ls (lv_sub hl [3, 2, 1, 0] rfl) hF
abbrev rm2_digitAt : Room := { frames := 0, cells := 0, slots := 0, locals := 0 }
theorem hdn2_digitAt : yX2_digitAt.cls ≠ "java/lang/invoke/MethodHandle" ∧ yX2_digitAt.cls ≠ "java/lang/invoke/VarHandle" ∧ (parseMethodDescriptor yX2_digitAt.desc).map (fun d => d.parameters.length) = some 2 := by decide +kernel
set_option maxHeartbeats 4000000 in
set_option maxRecDepth 100000 in
theorem K2_digitAt (l : Launch) (D : va_G) (cI cZ cS cJ : ClassId) (x0 : Int32) (x1 : Int32) (r : Int32) (hF : f2_digitAt x0 x1 = some (r)) : Met l yX2_digitAt wsX2_digitAt rm2_digitAt (rP D (gT cI cZ cS cJ) ([] : va_W) [.int x0, .int x1]) (rQ (.int r)) 0 0 (fun _ => False) := by
  refine Met.ofW (cc := cX2_digitAt) (maxL := 4) (ret := (some .int)) (by decide) rfl ?_
  intro p e s m args below meth c s₁ B hml hv
  obtain ⟨ha, hK, hP⟩ := hv
  have hx := B.exec
  have hb := B.bytes
  have hr := B.returns
  have hlocks := B.notSynchronized
  have hts : ∀ w ∈ lw_all, w.before args s = true := fun w h => atoms_spec (ws := wsX2_digitAt) B.pre w (List.mem_cons_of_mem _ h)
  have hown : s.vm.findClass RX2 = some m.cls := findClass_of_methodNamed B.named
  have S : CallFix p m c cX2_digitAt 4 s args lw_all RX2 := ⟨hx, hb, hml, hown, hts⟩
  have hl := lv_entry ([.int x0, .int x1] : List Value) (n := 4) (Nat.le_of_ble_eq_true rfl)
  refine W.eq (g2 := F0 m 0 ((lg_sl ([.int x0, .int x1] : List Value) ++ List.replicate (4 - (lg_sl ([.int x0, .int x1] : List Value)).length) Slot.unset).toArray) []) (by rw [ha]; exact lg_entry_eq _ _ _) ?_
  generalize (lg_sl ([.int x0, .int x1] : List Value) ++ List.replicate (4 - (lg_sl ([.int x0, .int x1] : List Value)).length) Slot.unset).toArray = ls at hl ⊢
  have hl : lv_has ls 4 [(0, .int x0), (1, .int x1)] := hl
  clear ha
  have W_4 : ∀ (x1 : Int32) (n : Nat) (x2 : Int32) (x3 : Int32), ∀ (ls : Array Slot), lv_has ls 4 [(1, .int x1), (2, .int x2), (3, .int x3)] → f2_digitAt_l4 x1 n x2 x3 = some (r) → rW p l e wsX2_digitAt rm2_digitAt s m args below meth c (.int r) (F0 m 4 ls []) := by
    intro x1  n
    induction n with
    | zero =>
      intro x2 x3 ls hl hF
      rw [f2_digitAt_l4] at hF
      cases hF
    | succ n ih =>
      intro x2 x3 ls hl hF
      rw [f2_digitAt_l4] at hF
      refine lv_iload_n hx hb dX2_digitAt_4 rfl (lv_at hl 2 rfl) ?_
      refine lv_iload_n hx hb dX2_digitAt_5 rfl (lv_at hl 0 rfl) ?_
      refine lv_icmp_le (tgt := 20) hx hb dX2_digitAt_6 (by decide) (fun c1 => ?_) (fun c1 => ?_)
      · have hF := ite_t c1 hF
        refine lv_iload_n hx hb dX2_digitAt_20 rfl (lv_at hl 1 rfl) ?_
        refine lv_bipush hx hb dX2_digitAt_21 kc_bipush_10 ?_
        refine lv_irem hx hb dX2_digitAt_23 (by decide) ?_
        exact rret hF hx hb hr hlocks dX2_digitAt_24
      · have hF := ite_f c1 hF
        refine lv_iload_n hx hb dX2_digitAt_9 rfl (lv_at hl 1 rfl) ?_
        refine lv_bipush hx hb dX2_digitAt_10 kc_bipush_10 ?_
        refine lv_idiv hx hb dX2_digitAt_12 (by decide) ?_
        refine lv_istore_n (lv' := [(2, .int (x2 / (10 : Int32))), (1, .int x1), (3, .int x3)]) hx hb dX2_digitAt_13 rfl hl (by decide) rfl (fun ls hl => ?_)
        refine lv_iinc (v := (x3 + (-1))) (lv' := [(3, .int (x3 + (-1))), (2, .int (x2 / (10 : Int32))), (1, .int x1)]) hx hb dX2_digitAt_14 hl (k := 2) rfl rfl (by decide) rfl (fun ls hl => ?_)
        refine lv_goto (tgt := 4) hx hb dX2_digitAt_17 (by decide) ?_
        exact ih (x2 / (10 : Int32)) (x3 + (-1)) ls (lv_sub hl [2, 1, 0] rfl) hF
  rw [f2_digitAt] at hF
  show rW p l e wsX2_digitAt rm2_digitAt s m args below meth c (.int r) (F0 m 0 ls [])
  refine lv_iload_n hx hb dX2_digitAt_0 rfl (lv_at hl 0 rfl) ?_
  refine lv_istore_n (lv' := [(2, .int x0), (0, .int x0), (1, .int x1)]) hx hb dX2_digitAt_1 rfl hl (by decide) rfl (fun ls hl => ?_)
  refine lv_iconst hx hb dX2_digitAt_2 kc_iconst_5 ?_
  refine lv_istore_n (lv' := [(3, .int (5 : Int32)), (2, .int x0), (0, .int x0), (1, .int x1)]) hx hb dX2_digitAt_3 rfl hl (by decide) rfl (fun ls hl => ?_)
  exact W_4 x1  fu x0 (5 : Int32) ls (lv_sub hl [3, 1, 0] rfl) hF
abbrev rm2_setWeight : Room := { frames := 0, cells := 0, slots := 0, locals := 0 }
theorem hd2_setWeight : yX2_setWeight.cls = RX2 ∧ yX2_setWeight.cls ≠ "java/lang/invoke/MethodHandle" ∧ yX2_setWeight.cls ≠ "java/lang/invoke/VarHandle" ∧ (parseMethodDescriptor yX2_setWeight.desc).map (fun d => d.parameters.length) = some 2 := by decide +kernel
set_option maxHeartbeats 4000000 in
set_option maxRecDepth 100000 in
theorem K2_setWeight (l : Launch) (D : va_G) (cI cZ cS cJ : ClassId) (aL aW : Nat) (wm : Int32) (wW : Nat → Int32) (x1 : Int32) (x2 : Int32) (z_wW : Nat → Int32) (hF : f2_setWeight wW x1 x2 = some (z_wW)) : Met l yX2_setWeight wsX2_setWeight rm2_setWeight (uP D (gT cI cZ cS cJ) (W2 cI aL aW wm wW) [.ref aL, .int x1, .int x2]) (uQ D none (uA (W2 cI aL aW wm wW)) (W2 cI aL aW wm z_wW)) 0 0 (uA (W2 cI aL aW wm wW)) := by
  refine Met.ofW (cc := cX2_setWeight) (maxL := 3) (ret := none) (by decide) rfl ?_
  intro p e s m args below meth c s₁ B hml hv
  obtain ⟨ha, hK, hP, hD0⟩ := hv
  have hx := B.exec
  have hb := B.bytes
  have hr := B.returns
  have hlocks := B.notSynchronized
  have hts : ∀ w ∈ lw_all, w.before args s = true := fun w h => atoms_spec (ws := wsX2_setWeight) B.pre w (List.mem_cons_of_mem _ h)
  have hown : s.vm.findClass RX2 = some m.cls := findClass_of_methodNamed B.named
  have S : CallFix p m c cX2_setWeight 3 s args lw_all RX2 := ⟨hx, hb, hml, hown, hts⟩
  have hD := hD0.own
  generalize uA (W2 cI aL aW wm wW) = A0 at hD ⊢
  have hS : va_S A0 s.heap s.heap [] := va_S.rf
  have hl := lv_entry ([.ref aL, .int x1, .int x2] : List Value) (n := 3) (Nat.le_of_ble_eq_true rfl)
  refine W.eq (g2 := F0 m 0 ((lg_sl ([.ref aL, .int x1, .int x2] : List Value) ++ List.replicate (3 - (lg_sl ([.ref aL, .int x1, .int x2] : List Value)).length) Slot.unset).toArray) []) (by rw [ha]; exact lg_entry_eq _ _ _) ?_
  generalize (lg_sl ([.ref aL, .int x1, .int x2] : List Value) ++ List.replicate (3 - (lg_sl ([.ref aL, .int x1, .int x2] : List Value)).length) Slot.unset).toArray = ls at hl ⊢
  have hl : lv_has ls 3 [(0, .ref aL), (1, .int x1), (2, .int x2)] := hl
  rw [f2_setWeight] at hF
  show uW p l e wsX2_setWeight rm2_setWeight s m args below meth c D none A0 (W2 cI aL aW wm z_wW) s.heap [] (F0 m 0 ls [])
  refine lv_iload_n hx hb dX2_setWeight_0 rfl (lv_at hl 1 rfl) ?_
  refine lv_if_lt (tgt := 20) hx hb dX2_setWeight_1 (by decide) (fun c1 => ?_) (fun c1 => ?_)
  · rw [if_pos c1] at hF
    cases hF
    exact uretv hx hb hr hlocks hP hS dX2_setWeight_20
  · rw [if_neg c1] at hF
    refine lv_iload_n hx hb dX2_setWeight_4 rfl (lv_at hl 1 rfl) ?_
    refine lv_aload_n hx hb dX2_setWeight_5 rfl (lv_at hl 0 rfl) ?_
    refine va_get (D := D) (ci := 2) (v := .ref aW) (C := RX2) (T := TX2) (N := 2) hx hb hts i_X2 hown hK.1 hP 0 rfl rfl 0 (by decide) (hts _ wd_95) (fun _ h9 => h9) rfl dX2_setWeight_6 ?_
    refine va_alen (v := (6 : Int32)) hx hb hK.1 hP 1 0 rfl rfl rfl dX2_setWeight_9 ?_
    refine lv_icmp_ge (tgt := 20) hx hb dX2_setWeight_10 (by decide) (fun c2 => ?_) (fun c2 => ?_)
    · rw [if_pos c2] at hF
      cases hF
      exact uretv hx hb hr hlocks hP hS dX2_setWeight_20
    · rw [if_neg c2] at hF
      refine lv_aload_n hx hb dX2_setWeight_13 rfl (lv_at hl 0 rfl) ?_
      refine va_get (D := D) (ci := 2) (v := .ref aW) (C := RX2) (T := TX2) (N := 2) hx hb hts i_X2 hown hK.1 hP 0 rfl rfl 0 (by decide) (hts _ wd_95) (fun _ h9 => h9) rfl dX2_setWeight_14 ?_
      refine lv_iload_n hx hb dX2_setWeight_17 rfl (lv_at hl 1 rfl) ?_
      refine lv_iload_n hx hb dX2_setWeight_18 rfl (lv_at hl 2 rfl) ?_
      refine va_iast hx hb hK.1 hP hD hS 1 0 rfl rfl (inb_path (N := 6) (n := 6) (by decide) c1 c2) dX2_setWeight_19 (fun H locs hP hD hS => ?_)
      have hP : va_P D vwCl (W2 cI aL aW wm (upd wW x1.toNatClampNeg x2)) H := hP
      have hD : va_D A0 (W2 cI aL aW wm (upd wW x1.toNatClampNeg x2)) := hD
      cases hF
      exact uretv hx hb hr hlocks hP hS dX2_setWeight_20
end
