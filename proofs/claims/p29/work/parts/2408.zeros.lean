set_option maxRecDepth 16384 in
theorem rz1.codes_are_2 : tables_1_2.filter rs_isCode = [Jvm.Cond.code (⟨"SettlementFund", "setFund", "(III)I"⟩ : Jvm.MethodName) prog_1_method_2_code 4 (some .int),
    Jvm.Cond.code (⟨"SettlementFund", "isOutside", "(III)Z"⟩ : Jvm.MethodName) prog_1_method_28_code 3 (some .boolean),
    Jvm.Cond.code (⟨"java/lang/IllegalArgumentException", "<init>", "(Ljava/lang/String;)V"⟩ : Jvm.MethodName) prog_8_method_2_code 2 none,
    Jvm.Cond.code (⟨"SettlementFund", "mustHaveNoPayments", "()V"⟩ : Jvm.MethodName) prog_1_method_33_code 1 none,
    Jvm.Cond.code (⟨"java/lang/IllegalStateException", "<init>", "(Ljava/lang/String;)V"⟩ : Jvm.MethodName) prog_9_method_2_code 2 none,
    Jvm.Cond.code (⟨"SettlementFund", "moneyLeft", "()I"⟩ : Jvm.MethodName) prog_1_method_20_code 1 (some .int),
    Jvm.Cond.code (⟨"SettlementFund$PaymentBook", "sumOfAll", "()I"⟩ : Jvm.MethodName) prog_3_method_9_code 3 (some .int),
    Jvm.Cond.code (⟨"SettlementFund", "pass", "(I)I"⟩ : Jvm.MethodName) prog_1_method_4_code 2 (some .int),
    Jvm.Cond.code (⟨"SettlementFund$ClaimBook", "denyLate", "(I)V"⟩ : Jvm.MethodName) prog_2_method_6_code 3 none,
    Jvm.Cond.code (⟨"SettlementFund$PaymentBook", "voidLate", "(I)V"⟩ : Jvm.MethodName) prog_3_method_5_code 3 none,
    Jvm.Cond.code (⟨"SettlementFund", "round", "(I)I"⟩ : Jvm.MethodName) prog_1_method_10_code 3 (some .int),
    Jvm.Cond.code (⟨"SettlementFund", "mustBeLeast", "(I)V"⟩ : Jvm.MethodName) prog_1_method_32_code 2 none,
    Jvm.Cond.code (⟨"SettlementFund$ClaimBook", "tally", "(I)I"⟩ : Jvm.MethodName) prog_2_method_7_code 4 (some .int),
    Jvm.Cond.code (⟨"SettlementFund$PaymentBook", "hasOpen", "()Z"⟩ : Jvm.MethodName) prog_3_method_6_code 2 (some .boolean),
    Jvm.Cond.code (⟨"SettlementFund", "shareMoneyLeft", "(IZ)V"⟩ : Jvm.MethodName) prog_1_method_35_code 5 none,
    Jvm.Cond.code (⟨"SettlementFund$Sharing", "clear", "()V"⟩ : Jvm.MethodName) prog_4_method_2_code 1 none,
    Jvm.Cond.code (⟨"SettlementFund", "takesPart", "(I)Z"⟩ : Jvm.MethodName) prog_1_method_36_code 2 (some .boolean),
    Jvm.Cond.code (⟨"SettlementFund", "room", "(I)I"⟩ : Jvm.MethodName) prog_1_method_17_code 3 (some .int),
    Jvm.Cond.code (⟨"SettlementFund", "mustBeClaim", "(I)V"⟩ : Jvm.MethodName) prog_1_method_30_code 2 none,
    Jvm.Cond.code (⟨"SettlementFund$ClaimBook", "has", "(I)Z"⟩ : Jvm.MethodName) prog_2_method_2_code 2 (some .boolean),
    Jvm.Cond.code (⟨"SettlementFund", "valueAt", "([II)I"⟩ : Jvm.MethodName) prog_1_method_29_code 2 (some .int),
    Jvm.Cond.code (⟨"SettlementFund$PaymentBook", "sumFor", "(I)I"⟩ : Jvm.MethodName) prog_3_method_8_code 4 (some .int),
    Jvm.Cond.code (⟨"SettlementFund$PaymentBook", "hasVoidFor", "(I)Z"⟩ : Jvm.MethodName) prog_3_method_7_code 3 (some .boolean),
    Jvm.Cond.code (⟨"SettlementFund$Sharing", "add", "(III)V"⟩ : Jvm.MethodName) prog_4_method_3_code 4 none,
    Jvm.Cond.code (⟨"SettlementFund$Sharing", "shareOut", "(IIZ)V"⟩ : Jvm.MethodName) prog_4_method_4_code 6 none,
    Jvm.Cond.code (⟨"SettlementFund$Sharing", "sortByRoomPerPoint", "()V"⟩ : Jvm.MethodName) prog_4_method_17_code 3 none,
    Jvm.Cond.code (⟨"SettlementFund$Sharing", "hasLessRoomPerPoint", "(II)Z"⟩ : Jvm.MethodName) prog_4_method_18_code 3 (some .boolean),
    Jvm.Cond.code (⟨"SettlementFund$Sharing", "swapPlaces", "(II)V"⟩ : Jvm.MethodName) prog_4_method_19_code 6 none,
    Jvm.Cond.code (⟨"SettlementFund$Sharing", "copyPlace", "(II)V"⟩ : Jvm.MethodName) prog_4_method_16_code 3 none,
    Jvm.Cond.code (⟨"SettlementFund$Sharing", "shareOnce", "(IZ)V"⟩ : Jvm.MethodName) prog_4_method_7_code 4 none,
    Jvm.Cond.code (⟨"SettlementFund$Sharing", "fillFromFront", "()V"⟩ : Jvm.MethodName) prog_4_method_9_code 2 none,
    Jvm.Cond.code (⟨"SettlementFund$Sharing", "reachesRoom", "(IJJ)Z"⟩ : Jvm.MethodName) prog_4_method_10_code 6 (some .boolean),
    Jvm.Cond.code (⟨"SettlementFund$Sharing", "fill", "(I)V"⟩ : Jvm.MethodName) prog_4_method_11_code 2 none,
    Jvm.Cond.code (⟨"SettlementFund$Sharing", "fillInLooks", "()V"⟩ : Jvm.MethodName) prog_4_method_8_code 8 none,
    Jvm.Cond.code (⟨"SettlementFund$Sharing", "shareRestByPoints", "()V"⟩ : Jvm.MethodName) prog_4_method_12_code 4 none,
    Jvm.Cond.code (⟨"SettlementFund$Sharing", "notFullBelow", "(I)I"⟩ : Jvm.MethodName) prog_4_method_13_code 4 (some .int),
    Jvm.Cond.code (⟨"SettlementFund$Sharing", "placeOfSmallest", "()I"⟩ : Jvm.MethodName) prog_4_method_14_code 3 (some .int),
    Jvm.Cond.code (⟨"SettlementFund$Sharing", "takeOut", "(I)V"⟩ : Jvm.MethodName) prog_4_method_15_code 3 none,
    Jvm.Cond.code (⟨"SettlementFund$Sharing", "gainers", "()I"⟩ : Jvm.MethodName) prog_4_method_6_code 3 (some .int),
    Jvm.Cond.code (⟨"SettlementFund$PaymentBook", "hasPlacesFor", "(I)Z"⟩ : Jvm.MethodName) prog_3_method_3_code 2 (some .boolean),
    Jvm.Cond.code (⟨"SettlementFund", "makePayments", "()V"⟩ : Jvm.MethodName) prog_1_method_37_code 3 none,
    Jvm.Cond.code (⟨"SettlementFund$Sharing", "shareGivenTo", "(I)I"⟩ : Jvm.MethodName) prog_4_method_5_code 3 (some .int),
    Jvm.Cond.code (⟨"SettlementFund$PaymentBook", "add", "(III)V"⟩ : Jvm.MethodName) prog_3_method_4_code 4 none,
    Jvm.Cond.code (⟨"SettlementFund", "cash", "(I)I"⟩ : Jvm.MethodName) prog_1_method_11_code 2 (some .int),
    Jvm.Cond.code (⟨"SettlementFund", "cure", "(I)I"⟩ : Jvm.MethodName) prog_1_method_6_code 2 (some .int),
    Jvm.Cond.code (⟨"SettlementFund", "deny", "(I)I"⟩ : Jvm.MethodName) prog_1_method_7_code 3 (some .int),
    Jvm.Cond.code (⟨"SettlementFund", "object", "(I)I"⟩ : Jvm.MethodName) prog_1_method_8_code 2 (some .int),
    Jvm.Cond.code (⟨"SettlementFund", "decide", "(IZ)I"⟩ : Jvm.MethodName) prog_1_method_9_code 3 (some .int)] := by
  first
  | rfl
  | simp only [tables_1_2, List.filter, rs_isCode]
set_option maxRecDepth 16384 in
theorem rz1.codes_hold_2 : ∀ c ∈ tables_1_2.filter rs_isCode, c.before args0 about = true := by
  rw [codes_are_2]
  exact List.forall_mem_cons.mpr ⟨code18, List.forall_mem_cons.mpr ⟨code19, List.forall_mem_cons.mpr ⟨code20, List.forall_mem_cons.mpr ⟨code21, List.forall_mem_cons.mpr ⟨code22, List.forall_mem_cons.mpr ⟨code23, List.forall_mem_cons.mpr ⟨code24, List.forall_mem_cons.mpr ⟨code25, List.forall_mem_cons.mpr ⟨code26, List.forall_mem_cons.mpr ⟨code27, List.forall_mem_cons.mpr ⟨code28, List.forall_mem_cons.mpr ⟨code29, List.forall_mem_cons.mpr ⟨code30, List.forall_mem_cons.mpr ⟨code31, List.forall_mem_cons.mpr ⟨code32, List.forall_mem_cons.mpr ⟨code33, List.forall_mem_cons.mpr ⟨code34, List.forall_mem_cons.mpr ⟨code35, List.forall_mem_cons.mpr ⟨code36, List.forall_mem_cons.mpr ⟨code37, List.forall_mem_cons.mpr ⟨code38, List.forall_mem_cons.mpr ⟨code39, List.forall_mem_cons.mpr ⟨code40, List.forall_mem_cons.mpr ⟨code41, List.forall_mem_cons.mpr ⟨code42, List.forall_mem_cons.mpr ⟨code43, List.forall_mem_cons.mpr ⟨code44, List.forall_mem_cons.mpr ⟨code45, List.forall_mem_cons.mpr ⟨code46, List.forall_mem_cons.mpr ⟨code47, List.forall_mem_cons.mpr ⟨code48, List.forall_mem_cons.mpr ⟨code49, List.forall_mem_cons.mpr ⟨code50, List.forall_mem_cons.mpr ⟨code51, List.forall_mem_cons.mpr ⟨code52, List.forall_mem_cons.mpr ⟨code53, List.forall_mem_cons.mpr ⟨code54, List.forall_mem_cons.mpr ⟨code55, List.forall_mem_cons.mpr ⟨code56, List.forall_mem_cons.mpr ⟨code57, List.forall_mem_cons.mpr ⟨code58, List.forall_mem_cons.mpr ⟨code59, List.forall_mem_cons.mpr ⟨code60, List.forall_mem_cons.mpr ⟨code61, List.forall_mem_cons.mpr ⟨code62, List.forall_mem_cons.mpr ⟨code63, List.forall_mem_cons.mpr ⟨code64, List.forall_mem_cons.mpr ⟨code65, List.forall_mem_nil _⟩⟩⟩⟩⟩⟩⟩⟩⟩⟩⟩⟩⟩⟩⟩⟩⟩⟩⟩⟩⟩⟩⟩⟩⟩⟩⟩⟩⟩⟩⟩⟩⟩⟩⟩⟩⟩⟩⟩⟩⟩⟩⟩⟩⟩⟩⟩⟩
set_option maxRecDepth 16384 in
theorem rz1.others_2_0 : (tables_1_2.take 40).all (fun c => rs_isCode c || c.before args0 about) = true := by decide +kernel
set_option maxRecDepth 16384 in
theorem rz1.others_2_1 : ((tables_1_2.drop 40).take 40).all (fun c => rs_isCode c || c.before args0 about) = true := by decide +kernel
