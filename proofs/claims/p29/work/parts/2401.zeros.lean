set_option maxRecDepth 16384 in
def rz1.mLaw : Method := Lib.HandJ.method x.name x.desc [.array .int] ret 0x9 maxLocals code
set_option maxRecDepth 16384 in
def rz1.c0 : Class := { rs_own "SettlementFundLaw" 0x31
    [(5, 7, "", "", "", 1518500249, 0),
     (5, 8, "", "", "", 2147483647, 0),
     (1, 9, "SettlementFund", "setFund", "(III)I", 2, 1),
     (2, 10, "SettlementFund", "", "", 2, 0),
     (1, 15, "SettlementFund", "pass", "(I)I", 2, 3),
     (1, 19, "SettlementFund", "round", "(I)I", 2, 9),
     (1, 22, "SettlementFund", "cash", "(I)I", 2, 10),
     (1, 25, "SettlementFund", "cure", "(I)I", 2, 5),
     (1, 28, "SettlementFund", "deny", "(I)I", 2, 6),
     (1, 31, "SettlementFund", "object", "(I)I", 2, 7),
     (1, 34, "SettlementFund", "decide", "(IZ)I", 2, 8),
     (1, 38, "SettlementFund", "claim", "(IIZI)I", 2, 4),
     (2, 42, "java/lang/IndexOutOfBoundsException", "", "", 11, 0),
     (5, 44, "", "", "", 4094967295, 0),
     (2, 45, "java/lang/IllegalArgumentException", "", "", 12, 0),
     (5, 47, "", "", "", 4094967294, 0),
     (2, 48, "java/lang/IllegalStateException", "", "", 13, 0),
     (5, 50, "", "", "", 4094967293, 0),
     (1, 51, "SettlementFund", "setGrade", "(III)V", 2, 2),
     (1, 55, "SettlementFund", "claimOf", "(I)I", 2, 13),
     (1, 58, "SettlementFund", "stateOf", "(I)I", 2, 14),
     (1, 61, "SettlementFund", "gradeOf", "(I)I", 2, 15),
     (1, 64, "SettlementFund", "room", "(I)I", 2, 16),
     (1, 67, "SettlementFund", "paidTo", "(I)I", 2, 17),
     (1, 70, "SettlementFund", "paymentTo", "(I)I", 2, 22),
     (1, 73, "SettlementFund", "amountOf", "(I)I", 2, 23),
     (1, 76, "SettlementFund", "paymentState", "(I)I", 2, 24),
     (1, 79, "SettlementFund", "shareOf", "(II)I", 2, 25),
     (1, 83, "SettlementFund", "shareBySorting", "(II)I", 2, 26),
     (1, 86, "SettlementFund", "count", "(I)I", 2, 18),
     (1, 89, "SettlementFund", "today", "()I", 2, 11),
     (4, 93, "", "", "", 31, 0),
     (1, 95, "SettlementFund", "moneyLeft", "()I", 2, 19),
     (4, 98, "", "", "", 7, 0),
     (1, 100, "SettlementFund", "fee", "()I", 2, 20),
     (1, 103, "SettlementFund", "claims", "()I", 2, 12),
     (4, 106, "", "", "", 1000003, 0),
     (4, 108, "", "", "", 5, 0),
     (4, 110, "", "", "", 101, 0),
     (1, 112, "SettlementFund", "payments", "()I", 2, 21),
     (4, 115, "", "", "", 1009, 0),
     (1, 117, "SettlementFundLaw", "hasVoid", "(LSettlementFund;I)Z", 0, 7),
     (1, 123, "SettlementFundLaw", "all", "(LSettlementFund;)J", 0, 5),
     (5, 127, "", "", "", 10000001, 0),
     (1, 128, "SettlementFundLaw", "act", "(LSettlementFund;IIII)I", 0, 2),
     (5, 132, "", "", "", 1000001, 0),
     (1, 133, "SettlementFundLaw", "setGrade", "(LSettlementFund;III)I", 0, 3),
     (5, 136, "", "", "", 100001, 0),
     (1, 137, "SettlementFundLaw", "of", "(LSettlementFund;III)I", 0, 4),
     (1, 140, "SettlementFund", "<init>", "()V", 2, 0),
     (5, 141, "", "", "", 1000000, 0),
     (1, 142, "SettlementFundLaw", "isRefused", "(LSettlementFund;[II)Z", 0, 9),
     (1, 146, "SettlementFundLaw", "dice", "([II)I", 0, 1),
     (4, 150, "", "", "", 1000, 0),
     (1, 152, "SettlementFundLaw", "isClaimed", "(LSettlementFund;[IIIZI)Z", 0, 10),
     (1, 156, "SettlementFundLaw", "isPassed", "(LSettlementFund;[I[I[II)Z", 0, 11),
     (1, 160, "SettlementFundLaw", "isChanged", "(LSettlementFund;[IIIZ)Z", 0, 12),
     (1, 164, "SettlementFundLaw", "isRound", "(LSettlementFund;[I[II)Z", 0, 13),
     (1, 168, "SettlementFundLaw", "areMoney", "(LSettlementFund;[I)Z", 0, 6),
     (1, 172, "SettlementFundLaw", "areShares", "(LSettlementFund;[I[I[II)Z", 0, 8)]
    [] mLaw with
  methods := #[mLaw,
    Lib.HandJ.method "dice" "([II)I" [.array .int, .int] (some .int) 0xa 2 method_2_code,
    (let q := Lib.HandJ.method "act" "(LSettlementFund;IIII)I" [.object "SettlementFund", .int, .int, .int, .int] (some .int) 0xa 6 method_3_code; { q with code := q.code.map fun c => { c with exceptionTable := #[{ startPc := 0, endPc := 148, handlerPc := 149, catchType := 42 }, { startPc := 0, endPc := 148, handlerPc := 154, catchType := 45 }, { startPc := 0, endPc := 148, handlerPc := 159, catchType := 48 }] } }),
    (let q := Lib.HandJ.method "setGrade" "(LSettlementFund;III)I" [.object "SettlementFund", .int, .int, .int] (some .int) 0xa 5 method_4_code; { q with code := q.code.map fun c => { c with exceptionTable := #[{ startPc := 0, endPc := 8, handlerPc := 9, catchType := 42 }, { startPc := 0, endPc := 8, handlerPc := 14, catchType := 45 }, { startPc := 0, endPc := 8, handlerPc := 19, catchType := 48 }] } }),
    (let q := Lib.HandJ.method "of" "(LSettlementFund;III)I" [.object "SettlementFund", .int, .int, .int] (some .int) 0xa 5 method_5_code; { q with code := q.code.map fun c => { c with exceptionTable := #[{ startPc := 0, endPc := 140, handlerPc := 141, catchType := 42 }, { startPc := 0, endPc := 140, handlerPc := 146, catchType := 45 }] } }),
    Lib.HandJ.method "all" "(LSettlementFund;)J" [.object "SettlementFund"] (some .long) 0xa 4 method_6_code,
    Lib.HandJ.method "areMoney" "(LSettlementFund;[I)Z" [.object "SettlementFund", .array .int] (some .boolean) 0xa 8 method_7_code,
    Lib.HandJ.method "hasVoid" "(LSettlementFund;I)Z" [.object "SettlementFund", .int] (some .boolean) 0xa 4 method_8_code,
    Lib.HandJ.method "areShares" "(LSettlementFund;[I[I[II)Z" [.object "SettlementFund", .array .int, .array .int, .array .int, .int] (some .boolean) 0xa 18 method_9_code,
    Lib.HandJ.method "isRefused" "(LSettlementFund;[II)Z" [.object "SettlementFund", .array .int, .int] (some .boolean) 0xa 11 method_10_code,
    Lib.HandJ.method "isClaimed" "(LSettlementFund;[IIIZI)Z" [.object "SettlementFund", .array .int, .int, .int, .boolean, .int] (some .boolean) 0xa 12 method_11_code,
    Lib.HandJ.method "isPassed" "(LSettlementFund;[I[I[II)Z" [.object "SettlementFund", .array .int, .array .int, .array .int, .int] (some .boolean) 0xa 10 method_12_code,
    Lib.HandJ.method "isChanged" "(LSettlementFund;[IIIZ)Z" [.object "SettlementFund", .array .int, .int, .int, .boolean] (some .boolean) 0xa 11 method_13_code,
    Lib.HandJ.method "isRound" "(LSettlementFund;[I[II)Z" [.object "SettlementFund", .array .int, .array .int, .int] (some .boolean) 0xa 13 method_14_code] }
set_option maxRecDepth 16384 in
def rz1.c2 : Class := { rs_own "SettlementFund" 0x31
    [(1, 1, "java/lang/Object", "<init>", "()V", 1, 0),
     (0, 9, "SettlementFund", "gradePoints", "[I", 2, 4),
     (0, 13, "SettlementFund", "gradeCap", "[I", 2, 5),
     (2, 16, "SettlementFund$ClaimBook", "", "", 3, 0),
     (1, 18, "SettlementFund$ClaimBook", "<init>", "()V", 3, 0),
     (0, 19, "SettlementFund", "claimBook", "LSettlementFund$ClaimBook;", 2, 6),
     (2, 23, "SettlementFund$PaymentBook", "", "", 4, 0),
     (1, 25, "SettlementFund$PaymentBook", "<init>", "()V", 4, 0),
     (0, 26, "SettlementFund", "paymentBook", "LSettlementFund$PaymentBook;", 2, 7),
     (2, 30, "SettlementFund$Sharing", "", "", 5, 0),
     (1, 32, "SettlementFund$Sharing", "<init>", "()V", 5, 0),
     (0, 33, "SettlementFund", "sharing", "LSettlementFund$Sharing;", 2, 8),
     (5, 37, "", "", "", 1000000, 0),
     (5, 38, "", "", "", 10000000, 0),
     (1, 39, "SettlementFund", "isOutside", "(III)Z", 2, 27),
     (2, 43, "java/lang/IllegalArgumentException", "", "", 12, 0),
     (3, 45, "", "sum, fee or expenses is out of range", "", 4, 0),
     (1, 47, "java/lang/IllegalArgumentException", "<init>", "(Ljava/lang/String;)V", 12, 0),
     (1, 50, "SettlementFund", "mustHaveNoPayments", "()V", 2, 32),
     (0, 53, "SettlementFund", "sum", "I", 2, 0),
     (0, 57, "SettlementFund", "feeInThousandths", "I", 2, 1),
     (0, 60, "SettlementFund", "expenses", "I", 2, 2),
     (1, 63, "SettlementFund", "moneyLeft", "()I", 2, 19),
     (2, 67, "java/lang/IndexOutOfBoundsException", "", "", 11, 0),
     (3, 69, "", "there is no such grade", "", 36, 0),
     (1, 71, "java/lang/IndexOutOfBoundsException", "<init>", "(Ljava/lang/String;)V", 11, 0),
     (3, 72, "", "points or cap is out of range", "", 38, 0),
     (3, 74, "", "days is out of range", "", 8, 0),
     (0, 76, "SettlementFund", "day", "I", 2, 3),
     (1, 79, "SettlementFund$ClaimBook", "denyLate", "(I)V", 3, 5),
     (1, 83, "SettlementFund$PaymentBook", "voidLate", "(I)V", 4, 4),
     (3, 86, "", "there is no such person or grade", "", 32, 0),
     (0, 88, "SettlementFund$ClaimBook", "ofPerson", "[I", 3, 0),
     (1, 91, "SettlementFund$ClaimBook", "has", "(I)Z", 3, 1),
     (1, 95, "SettlementFund$ClaimBook", "join", "(IIZ)V", 3, 4),
     (1, 99, "SettlementFund$ClaimBook", "hasPlace", "()Z", 3, 2),
     (2, 103, "java/lang/IllegalStateException", "", "", 13, 0),
     (3, 105, "", "there is no place for another claim", "", 34, 0),
     (1, 107, "java/lang/IllegalStateException", "<init>", "(Ljava/lang/String;)V", 13, 0),
     (1, 108, "SettlementFund$ClaimBook", "enter", "(IIII)I", 3, 3),
     (1, 112, "SettlementFund", "mustBeClaim", "(I)V", 2, 29),
     (0, 115, "SettlementFund$ClaimBook", "state", "[I", 3, 2),
     (3, 118, "", "the claim is not FAULTY", "", 24, 0),
     (0, 120, "SettlementFund$ClaimBook", "deadline", "[I", 3, 3),
     (3, 123, "", "the claim is neither GOOD nor FAULTY", "", 26, 0),
     (0, 125, "SettlementFund$ClaimBook", "wasObjected", "[Z", 3, 4),
     (3, 129, "", "the claim is not DENIED, or it was objected to before", "", 28, 0),
     (1, 131, "SettlementFund$ClaimBook", "tally", "(I)I", 3, 6),
     (3, 135, "", "the claim is not OBJECTED", "", 30, 0),
     (1, 137, "SettlementFund", "mustBeLeast", "(I)V", 2, 31),
     (3, 140, "", "some claim is FAULTY or OBJECTED", "", 12, 0),
     (1, 142, "SettlementFund$PaymentBook", "hasOpen", "()Z", 4, 5),
     (3, 145, "", "some payment is OPEN", "", 14, 0),
     (3, 147, "", "the money left is below 1", "", 16, 0),
     (1, 149, "SettlementFund", "shareMoneyLeft", "(IZ)V", 2, 34),
     (1, 153, "SettlementFund$Sharing", "gainers", "()I", 5, 5),
     (1, 156, "SettlementFund$PaymentBook", "hasPlacesFor", "(I)Z", 4, 2),
     (3, 159, "", "there would be too many payments", "", 20, 0),
     (1, 161, "SettlementFund", "makePayments", "()V", 2, 36),
     (1, 164, "SettlementFund", "mustBePayment", "(I)V", 2, 30),
     (0, 167, "SettlementFund$PaymentBook", "state", "[I", 4, 2),
     (3, 168, "", "the payment is not OPEN", "", 22, 0),
     (0, 170, "SettlementFund$PaymentBook", "amount", "[I", 4, 1),
     (0, 173, "SettlementFund$ClaimBook", "size", "I", 3, 5),
     (3, 176, "", "there is no such person", "", 42, 0),
     (0, 178, "SettlementFund$ClaimBook", "grade", "[I", 3, 1),
     (1, 181, "SettlementFund", "valueAt", "([II)I", 2, 28),
     (1, 185, "SettlementFund$PaymentBook", "sumFor", "(I)I", 4, 7),
     (3, 188, "", "state is out of range", "", 40, 0),
     (1, 190, "SettlementFund", "fee", "()I", 2, 20),
     (1, 193, "SettlementFund$PaymentBook", "sumOfAll", "()I", 4, 8),
     (4, 196, "", "", "", 1000, 0),
     (0, 198, "SettlementFund$PaymentBook", "size", "I", 4, 4),
     (0, 199, "SettlementFund$PaymentBook", "claim", "[I", 4, 0),
     (1, 202, "SettlementFund", "shareFor", "(IIZ)I", 2, 33),
     (3, 206, "", "there is no such claim", "", 18, 0),
     (1, 208, "SettlementFund$PaymentBook", "has", "(I)Z", 4, 1),
     (3, 209, "", "there is no such payment", "", 2, 0),
     (5, 211, "", "", "", 100000, 0),
     (3, 212, "", "least is out of range", "", 10, 0),
     (3, 214, "", "there are payments", "", 6, 0),
     (1, 216, "SettlementFund$Sharing", "shareGivenTo", "(I)I", 5, 4),
     (1, 219, "SettlementFund$Sharing", "clear", "()V", 5, 1),
     (1, 222, "SettlementFund", "takesPart", "(I)Z", 2, 35),
     (1, 225, "SettlementFund", "room", "(I)I", 2, 16),
     (1, 228, "SettlementFund$Sharing", "add", "(III)V", 5, 2),
     (1, 232, "SettlementFund$Sharing", "shareOut", "(IIZ)V", 5, 3),
     (1, 235, "SettlementFund$PaymentBook", "hasVoidFor", "(I)Z", 4, 6),
     (1, 238, "SettlementFund$PaymentBook", "add", "(III)V", 4, 3)]
    [("sum", .int, 0x2), ("feeInThousandths", .int, 0x2), ("expenses", .int, 0x2), ("day", .int, 0x2), ("gradePoints", .array .int, 0x12), ("gradeCap", .array .int, 0x12), ("claimBook", .object "SettlementFund$ClaimBook", 0x12), ("paymentBook", .object "SettlementFund$PaymentBook", 0x12), ("sharing", .object "SettlementFund$Sharing", 0x12)] (Lib.HandJ.method "<init>" "()V" [] none 0x1 2 prog_1_method_1_code) with
  methods := #[Lib.HandJ.method "<init>" "()V" [] none 0x1 2 prog_1_method_1_code,
    Lib.HandJ.method "setFund" "(III)I" [.int, .int, .int] (some .int) 0x1 4 prog_1_method_2_code,
    Lib.HandJ.method "setGrade" "(III)V" [.int, .int, .int] none 0x1 4 prog_1_method_3_code,
    Lib.HandJ.method "pass" "(I)I" [.int] (some .int) 0x1 2 prog_1_method_4_code,
    Lib.HandJ.method "claim" "(IIZI)I" [.int, .int, .boolean, .int] (some .int) 0x1 6 prog_1_method_5_code,
    Lib.HandJ.method "cure" "(I)I" [.int] (some .int) 0x1 2 prog_1_method_6_code,
    Lib.HandJ.method "deny" "(I)I" [.int] (some .int) 0x1 3 prog_1_method_7_code,
    Lib.HandJ.method "object" "(I)I" [.int] (some .int) 0x1 2 prog_1_method_8_code,
    Lib.HandJ.method "decide" "(IZ)I" [.int, .boolean] (some .int) 0x1 3 prog_1_method_9_code,
    Lib.HandJ.method "round" "(I)I" [.int] (some .int) 0x1 3 prog_1_method_10_code,
    Lib.HandJ.method "cash" "(I)I" [.int] (some .int) 0x1 2 prog_1_method_11_code,
    Lib.HandJ.method "today" "()I" [] (some .int) 0x1 1 prog_1_method_12_code,
    Lib.HandJ.method "claims" "()I" [] (some .int) 0x1 1 prog_1_method_13_code,
    Lib.HandJ.method "claimOf" "(I)I" [.int] (some .int) 0x1 2 prog_1_method_14_code,
    Lib.HandJ.method "stateOf" "(I)I" [.int] (some .int) 0x1 2 prog_1_method_15_code,
    Lib.HandJ.method "gradeOf" "(I)I" [.int] (some .int) 0x1 2 prog_1_method_16_code,
    Lib.HandJ.method "room" "(I)I" [.int] (some .int) 0x1 3 prog_1_method_17_code,
    Lib.HandJ.method "paidTo" "(I)I" [.int] (some .int) 0x1 2 prog_1_method_18_code,
    Lib.HandJ.method "count" "(I)I" [.int] (some .int) 0x1 2 prog_1_method_19_code,
    Lib.HandJ.method "moneyLeft" "()I" [] (some .int) 0x1 1 prog_1_method_20_code,
    Lib.HandJ.method "fee" "()I" [] (some .int) 0x1 1 prog_1_method_21_code,
    Lib.HandJ.method "payments" "()I" [] (some .int) 0x1 1 prog_1_method_22_code,
    Lib.HandJ.method "paymentTo" "(I)I" [.int] (some .int) 0x1 2 prog_1_method_23_code,
    Lib.HandJ.method "amountOf" "(I)I" [.int] (some .int) 0x1 2 prog_1_method_24_code,
    Lib.HandJ.method "paymentState" "(I)I" [.int] (some .int) 0x1 2 prog_1_method_25_code,
    Lib.HandJ.method "shareOf" "(II)I" [.int, .int] (some .int) 0x1 3 prog_1_method_26_code,
    Lib.HandJ.method "shareBySorting" "(II)I" [.int, .int] (some .int) 0x1 3 prog_1_method_27_code,
    Lib.HandJ.method "isOutside" "(III)Z" [.int, .int, .int] (some .boolean) 0xa 3 prog_1_method_28_code,
    Lib.HandJ.method "valueAt" "([II)I" [.array .int, .int] (some .int) 0xa 2 prog_1_method_29_code,
    Lib.HandJ.method "mustBeClaim" "(I)V" [.int] none 0x2 2 prog_1_method_30_code,
    Lib.HandJ.method "mustBePayment" "(I)V" [.int] none 0x2 2 prog_1_method_31_code,
    Lib.HandJ.method "mustBeLeast" "(I)V" [.int] none 0x2 2 prog_1_method_32_code,
    Lib.HandJ.method "mustHaveNoPayments" "()V" [] none 0x2 1 prog_1_method_33_code,
    Lib.HandJ.method "shareFor" "(IIZ)I" [.int, .int, .boolean] (some .int) 0x2 4 prog_1_method_34_code,
    Lib.HandJ.method "shareMoneyLeft" "(IZ)V" [.int, .boolean] none 0x2 5 prog_1_method_35_code,
    Lib.HandJ.method "takesPart" "(I)Z" [.int] (some .boolean) 0x2 2 prog_1_method_36_code,
    Lib.HandJ.method "makePayments" "()V" [] none 0x2 3 prog_1_method_37_code] }
set_option maxRecDepth 16384 in
def rz1.c3 : Class := { rs_own "SettlementFund$ClaimBook" 0x30
    [(1, 3, "java/lang/Object", "<init>", "()V", 1, 0),
     (0, 9, "SettlementFund$ClaimBook", "ofPerson", "[I", 3, 0),
     (0, 15, "SettlementFund$ClaimBook", "grade", "[I", 3, 1),
     (0, 18, "SettlementFund$ClaimBook", "state", "[I", 3, 2),
     (0, 21, "SettlementFund$ClaimBook", "deadline", "[I", 3, 3),
     (0, 24, "SettlementFund$ClaimBook", "wasObjected", "[Z", 3, 4),
     (0, 28, "SettlementFund$ClaimBook", "size", "I", 3, 5),
     (1, 32, "java/lang/Math", "max", "(II)I", 7, 0)]
    [("ofPerson", .array .int, 0x10), ("grade", .array .int, 0x10), ("state", .array .int, 0x10), ("deadline", .array .int, 0x10), ("wasObjected", .array .boolean, 0x10), ("size", .int, 0x0)] (Lib.HandJ.method "<init>" "()V" [] none 0x0 2 prog_2_method_1_code) with
  methods := #[Lib.HandJ.method "<init>" "()V" [] none 0x0 2 prog_2_method_1_code,
    Lib.HandJ.method "has" "(I)Z" [.int] (some .boolean) 0x0 2 prog_2_method_2_code,
    Lib.HandJ.method "hasPlace" "()Z" [] (some .boolean) 0x0 1 prog_2_method_3_code,
    Lib.HandJ.method "enter" "(IIII)I" [.int, .int, .int, .int] (some .int) 0x0 6 prog_2_method_4_code,
    Lib.HandJ.method "join" "(IIZ)V" [.int, .int, .boolean] none 0x0 4 prog_2_method_5_code,
    Lib.HandJ.method "denyLate" "(I)V" [.int] none 0x0 3 prog_2_method_6_code,
    Lib.HandJ.method "tally" "(I)I" [.int] (some .int) 0x0 4 prog_2_method_7_code],
  nestHost := some 2 }
set_option maxRecDepth 16384 in
def rz1.c4 : Class := { rs_own "SettlementFund$PaymentBook" 0x30
    [(1, 3, "java/lang/Object", "<init>", "()V", 1, 0),
     (0, 9, "SettlementFund$PaymentBook", "claim", "[I", 4, 0),
     (0, 15, "SettlementFund$PaymentBook", "amount", "[I", 4, 1),
     (0, 18, "SettlementFund$PaymentBook", "state", "[I", 4, 2),
     (0, 21, "SettlementFund$PaymentBook", "dayMade", "[I", 4, 3),
     (0, 24, "SettlementFund$PaymentBook", "size", "I", 4, 4),
     (1, 28, "SettlementFund$PaymentBook", "hasPlacesFor", "(I)Z", 4, 2)]
    [("claim", .array .int, 0x10), ("amount", .array .int, 0x10), ("state", .array .int, 0x10), ("dayMade", .array .int, 0x10), ("size", .int, 0x0)] (Lib.HandJ.method "<init>" "()V" [] none 0x2 1 prog_3_method_1_code) with
  methods := #[Lib.HandJ.method "<init>" "()V" [] none 0x2 1 prog_3_method_1_code,
    Lib.HandJ.method "has" "(I)Z" [.int] (some .boolean) 0x0 2 prog_3_method_2_code,
    Lib.HandJ.method "hasPlacesFor" "(I)Z" [.int] (some .boolean) 0x0 2 prog_3_method_3_code,
    Lib.HandJ.method "add" "(III)V" [.int, .int, .int] none 0x0 4 prog_3_method_4_code,
    Lib.HandJ.method "voidLate" "(I)V" [.int] none 0x0 3 prog_3_method_5_code,
    Lib.HandJ.method "hasOpen" "()Z" [] (some .boolean) 0x0 2 prog_3_method_6_code,
    Lib.HandJ.method "hasVoidFor" "(I)Z" [.int] (some .boolean) 0x0 3 prog_3_method_7_code,
    Lib.HandJ.method "sumFor" "(I)I" [.int] (some .int) 0x0 4 prog_3_method_8_code,
    Lib.HandJ.method "sumOfAll" "()I" [] (some .int) 0x0 3 prog_3_method_9_code],
  nestHost := some 2 }
set_option maxRecDepth 16384 in
def rz1.c5 : Class := { rs_own "SettlementFund$Sharing" 0x30
    [(1, 3, "java/lang/Object", "<init>", "()V", 1, 0),
     (0, 9, "SettlementFund$Sharing", "claim", "[I", 5, 0),
     (0, 15, "SettlementFund$Sharing", "points", "[I", 5, 1),
     (0, 18, "SettlementFund$Sharing", "room", "[I", 5, 2),
     (0, 21, "SettlementFund$Sharing", "share", "[I", 5, 3),
     (0, 24, "SettlementFund$Sharing", "isFull", "[Z", 5, 4),
     (0, 28, "SettlementFund$Sharing", "size", "I", 5, 5),
     (1, 32, "SettlementFund$Sharing", "sortByRoomPerPoint", "()V", 5, 16),
     (1, 35, "SettlementFund$Sharing", "shareOnce", "(IZ)V", 5, 6),
     (1, 39, "SettlementFund$Sharing", "placeOfSmallest", "()I", 5, 13),
     (1, 43, "SettlementFund$Sharing", "takeOut", "(I)V", 5, 14),
     (0, 47, "SettlementFund$Sharing", "restMoney", "J", 5, 6),
     (0, 51, "SettlementFund$Sharing", "restPoints", "J", 5, 7),
     (1, 54, "SettlementFund$Sharing", "fillFromFront", "()V", 5, 8),
     (1, 57, "SettlementFund$Sharing", "fillInLooks", "()V", 5, 7),
     (1, 60, "SettlementFund$Sharing", "shareRestByPoints", "()V", 5, 11),
     (1, 63, "SettlementFund$Sharing", "reachesRoom", "(IJJ)Z", 5, 9),
     (1, 67, "SettlementFund$Sharing", "fill", "(I)V", 5, 10),
     (1, 70, "SettlementFund$Sharing", "notFullBelow", "(I)I", 5, 12),
     (1, 74, "SettlementFund$Sharing", "copyPlace", "(II)V", 5, 15),
     (1, 78, "SettlementFund$Sharing", "hasLessRoomPerPoint", "(II)Z", 5, 17),
     (1, 82, "SettlementFund$Sharing", "swapPlaces", "(II)V", 5, 18)]
    [("claim", .array .int, 0x12), ("points", .array .int, 0x12), ("room", .array .int, 0x12), ("share", .array .int, 0x12), ("isFull", .array .boolean, 0x12), ("size", .int, 0x2), ("restMoney", .long, 0x2), ("restPoints", .long, 0x2)] (Lib.HandJ.method "<init>" "()V" [] none 0x2 1 prog_4_method_1_code) with
  methods := #[Lib.HandJ.method "<init>" "()V" [] none 0x2 1 prog_4_method_1_code,
    Lib.HandJ.method "clear" "()V" [] none 0x0 1 prog_4_method_2_code,
    Lib.HandJ.method "add" "(III)V" [.int, .int, .int] none 0x0 4 prog_4_method_3_code,
    Lib.HandJ.method "shareOut" "(IIZ)V" [.int, .int, .boolean] none 0x0 6 prog_4_method_4_code,
    Lib.HandJ.method "shareGivenTo" "(I)I" [.int] (some .int) 0x0 3 prog_4_method_5_code,
    Lib.HandJ.method "gainers" "()I" [] (some .int) 0x0 3 prog_4_method_6_code,
    Lib.HandJ.method "shareOnce" "(IZ)V" [.int, .boolean] none 0x2 4 prog_4_method_7_code,
    Lib.HandJ.method "fillInLooks" "()V" [] none 0x2 8 prog_4_method_8_code,
    Lib.HandJ.method "fillFromFront" "()V" [] none 0x2 2 prog_4_method_9_code,
    Lib.HandJ.method "reachesRoom" "(IJJ)Z" [.int, .long, .long] (some .boolean) 0x2 6 prog_4_method_10_code,
    Lib.HandJ.method "fill" "(I)V" [.int] none 0x2 2 prog_4_method_11_code,
    Lib.HandJ.method "shareRestByPoints" "()V" [] none 0x2 4 prog_4_method_12_code,
    Lib.HandJ.method "notFullBelow" "(I)I" [.int] (some .int) 0x2 4 prog_4_method_13_code,
    Lib.HandJ.method "placeOfSmallest" "()I" [] (some .int) 0x2 3 prog_4_method_14_code,
    Lib.HandJ.method "takeOut" "(I)V" [.int] none 0x2 3 prog_4_method_15_code,
    Lib.HandJ.method "copyPlace" "(II)V" [.int, .int] none 0x2 3 prog_4_method_16_code,
    Lib.HandJ.method "sortByRoomPerPoint" "()V" [] none 0x2 3 prog_4_method_17_code,
    Lib.HandJ.method "hasLessRoomPerPoint" "(II)Z" [.int, .int] (some .boolean) 0x2 3 prog_4_method_18_code,
    Lib.HandJ.method "swapPlaces" "(II)V" [.int, .int] none 0x2 6 prog_4_method_19_code],
  nestHost := some 2 }
set_option maxRecDepth 16384 in
def rz1.c6 : Class := { rs_own "java/lang/Throwable" 0x21
    [(1, 1, "java/lang/Object", "<init>", "()V", 1, 0),
     (0, 7, "java/lang/Throwable", "cause", "Ljava/lang/Throwable;", 6, 2),
     (0, 13, "java/lang/Throwable", "UNASSIGNED_STACK", "[Ljava/lang/StackTraceElement;", 6, 7),
     (0, 17, "java/lang/Throwable", "stackTrace", "[Ljava/lang/StackTraceElement;", 6, 3),
     (0, 20, "java/lang/Throwable", "SUPPRESSED_SENTINEL", "Ljava/util/List;", 6, 8),
     (0, 24, "java/lang/Throwable", "suppressedExceptions", "Ljava/util/List;", 6, 5),
     (1, 27, "java/lang/Throwable", "fillInStackTrace", "()Ljava/lang/Throwable;", 6, 2),
     (0, 31, "java/lang/Throwable", "detailMessage", "Ljava/lang/String;", 6, 1),
     (0, 198, "java/lang/Throwable", "backtrace", "Ljava/lang/Object;", 6, 0),
     (1, 202, "java/lang/Throwable", "fillInStackTrace", "(I)Ljava/lang/Throwable;", 6, 3)]
    [("backtrace", .object "java/lang/Object", 0x82), ("detailMessage", .object "java/lang/String", 0x2), ("cause", .object "java/lang/Throwable", 0x2), ("stackTrace", .array (.object "java/lang/StackTraceElement"), 0x2), ("depth", .int, 0x82), ("suppressedExceptions", .object "java/util/List", 0x2)] (Lib.HandJ.method "<init>" "()V" [] none 0x1 1 prog_14_method_1_code) with
  methods := #[Lib.HandJ.method "<init>" "()V" [] none 0x1 1 prog_14_method_1_code,
    Lib.HandJ.method "<init>" "(Ljava/lang/String;)V" [.object "java/lang/String"] none 0x1 2 prog_14_method_2_code,
    Lib.HandJ.method "fillInStackTrace" "()Ljava/lang/Throwable;" [] (some (.object "java/lang/Throwable")) 0x21 1 prog_14_method_18_code,
    { name := "fillInStackTrace", desc := "(I)Ljava/lang/Throwable;", sig := { parameters := [.int], returnType := some (.object "java/lang/Throwable") }, accessFlags := 0x102, code := none }],
  fields := (Lib.HandW.fieldsFrom [("backtrace", .object "java/lang/Object", 0x82), ("detailMessage", .object "java/lang/String", 0x2), ("cause", .object "java/lang/Throwable", 0x2), ("stackTrace", .array (.object "java/lang/StackTraceElement"), 0x2), ("depth", .int, 0x82), ("suppressedExceptions", .object "java/util/List", 0x2)] 0).toArray ++ #[{ name := "serialVersionUID", type := .long, accessFlags := 0x1a, slot := 0, constantValue := 0 }, { name := "UNASSIGNED_STACK", type := .array (.object "java/lang/StackTraceElement"), accessFlags := 0x1a, slot := 1, constantValue := 0 }, { name := "SUPPRESSED_SENTINEL", type := .object "java/util/List", accessFlags := 0x1a, slot := 2, constantValue := 0 }, { name := "NULL_CAUSE_MESSAGE", type := .object "java/lang/String", accessFlags := 0x1a, slot := 3, constantValue := 0 }, { name := "SELF_SUPPRESSION_MESSAGE", type := .object "java/lang/String", accessFlags := 0x1a, slot := 4, constantValue := 0 }, { name := "CAUSE_CAPTION", type := .object "java/lang/String", accessFlags := 0x1a, slot := 5, constantValue := 0 }, { name := "SUPPRESSED_CAPTION", type := .object "java/lang/String", accessFlags := 0x1a, slot := 6, constantValue := 0 }, { name := "EMPTY_THROWABLE_ARRAY", type := .array (.object "java/lang/Throwable"), accessFlags := 0x1a, slot := 7, constantValue := 0 }, { name := "$assertionsDisabled", type := .boolean, accessFlags := 0x1018, slot := 8, constantValue := 0 }],
  staticTypes := #[.long, .array (.object "java/lang/StackTraceElement"), .object "java/util/List", .object "java/lang/String", .object "java/lang/String", .object "java/lang/String", .object "java/lang/String", .array (.object "java/lang/Throwable"), .boolean],
  statics := some 1 }
set_option maxRecDepth 16384 in
def rz1.c7 : Class := { rs_own "java/lang/Math" 0x31
    []
    [] (Lib.HandJ.method "max" "(II)I" [.int, .int] (some .int) 0x9 2 prog_11_method_65_code) with
  methods := #[Lib.HandJ.method "max" "(II)I" [.int, .int] (some .int) 0x9 2 prog_11_method_65_code] }
set_option maxRecDepth 16384 in
def rz1.c8 : Class := { rs_own "java/lang/String" 0x31
    []
    [("value", .array .byte, 0x12), ("coder", .byte, 0x12), ("hash", .int, 0x2), ("hashIsZero", .boolean, 0x2)] mLaw with
  methods := #[] }
set_option maxRecDepth 16384 in
def rz1.c9 : Class := { rs_own "java/lang/Exception" 0x21
    [(1, 7, "java/lang/Throwable", "<init>", "(Ljava/lang/String;)V", 6, 1)]
    [] ({ name := "<init>", desc := "()V", sig := { parameters := [], returnType := none }, accessFlags := 0x1, code := none }) with
  methods := #[{ name := "<init>", desc := "()V", sig := { parameters := [], returnType := none }, accessFlags := 0x1, code := none },
    Lib.HandJ.method "<init>" "(Ljava/lang/String;)V" [.object "java/lang/String"] none 0x1 2 prog_7_method_2_code],
  super := some 6,
  instanceTypes := #[.object "java/lang/Object", .object "java/lang/String", .object "java/lang/Throwable", .array (.object "java/lang/StackTraceElement"), .int, .object "java/util/List"],
  fields := (Lib.HandW.fieldsFrom [] 6).toArray }
set_option maxRecDepth 16384 in
def rz1.c10 : Class := { rs_own "java/lang/RuntimeException" 0x21
    [(1, 7, "java/lang/Exception", "<init>", "(Ljava/lang/String;)V", 9, 1)]
    [] ({ name := "<init>", desc := "()V", sig := { parameters := [], returnType := none }, accessFlags := 0x1, code := none }) with
  methods := #[{ name := "<init>", desc := "()V", sig := { parameters := [], returnType := none }, accessFlags := 0x1, code := none },
    Lib.HandJ.method "<init>" "(Ljava/lang/String;)V" [.object "java/lang/String"] none 0x1 2 prog_12_method_2_code],
  super := some 9,
  instanceTypes := #[.object "java/lang/Object", .object "java/lang/String", .object "java/lang/Throwable", .array (.object "java/lang/StackTraceElement"), .int, .object "java/util/List"],
  fields := (Lib.HandW.fieldsFrom [] 6).toArray }
set_option maxRecDepth 16384 in
def rz1.c11 : Class := { rs_own "java/lang/IndexOutOfBoundsException" 0x21
    [(1, 7, "java/lang/RuntimeException", "<init>", "(Ljava/lang/String;)V", 10, 1)]
    [] (Lib.HandJ.method "<init>" "(Ljava/lang/String;)V" [.object "java/lang/String"] none 0x1 2 prog_10_method_2_code) with
  methods := #[Lib.HandJ.method "<init>" "(Ljava/lang/String;)V" [.object "java/lang/String"] none 0x1 2 prog_10_method_2_code],
  super := some 10,
  instanceTypes := #[.object "java/lang/Object", .object "java/lang/String", .object "java/lang/Throwable", .array (.object "java/lang/StackTraceElement"), .int, .object "java/util/List"],
  fields := (Lib.HandW.fieldsFrom [] 6).toArray }
set_option maxRecDepth 16384 in
def rz1.c12 : Class := { rs_own "java/lang/IllegalArgumentException" 0x21
    [(1, 7, "java/lang/RuntimeException", "<init>", "(Ljava/lang/String;)V", 10, 1)]
    [] (Lib.HandJ.method "<init>" "(Ljava/lang/String;)V" [.object "java/lang/String"] none 0x1 2 prog_8_method_2_code) with
  methods := #[Lib.HandJ.method "<init>" "(Ljava/lang/String;)V" [.object "java/lang/String"] none 0x1 2 prog_8_method_2_code],
  super := some 10,
  instanceTypes := #[.object "java/lang/Object", .object "java/lang/String", .object "java/lang/Throwable", .array (.object "java/lang/StackTraceElement"), .int, .object "java/util/List"],
  fields := (Lib.HandW.fieldsFrom [] 6).toArray }
set_option maxRecDepth 16384 in
def rz1.c13 : Class := { rs_own "java/lang/IllegalStateException" 0x21
    [(1, 7, "java/lang/RuntimeException", "<init>", "(Ljava/lang/String;)V", 10, 1)]
    [] (Lib.HandJ.method "<init>" "(Ljava/lang/String;)V" [.object "java/lang/String"] none 0x1 2 prog_9_method_2_code) with
  methods := #[Lib.HandJ.method "<init>" "(Ljava/lang/String;)V" [.object "java/lang/String"] none 0x1 2 prog_9_method_2_code],
  super := some 10,
  instanceTypes := #[.object "java/lang/Object", .object "java/lang/String", .object "java/lang/Throwable", .array (.object "java/lang/StackTraceElement"), .int, .object "java/util/List"],
  fields := (Lib.HandW.fieldsFrom [] 6).toArray }
set_option maxRecDepth 16384 in
def rz1.cPrim (name : String) (ch : Char) : Class := { Lib.HandJ.cls name #[] #[] 0x411 #[] #[] #[] with kind := .primitive ch, cf := none }
set_option maxRecDepth 16384 in
def rz1.cArr (name : String) (prim : Nat) (t : FieldType) : Class := { Lib.HandJ.cls name #[] #[] 0x411 #[] #[] #[] with kind := .array prim t, super := some 1, cf := none }
set_option maxRecDepth 16384 in
def rz1.args0 : Array Value := #[.ref 0]
set_option maxRecDepth 16384 in
def rz1.cells0 : Array Value := (List.replicate 100 (Value.int 0)).toArray
