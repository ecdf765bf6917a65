set_option maxRecDepth 16384 in
theorem rz1.codes_are_3 : tables_1_3.filter rs_isCode = [Jvm.Cond.code (⟨"SettlementFund", "claim", "(IIZI)I"⟩ : Jvm.MethodName) prog_1_method_5_code 6 (some .int),
    Jvm.Cond.code (⟨"SettlementFund$ClaimBook", "join", "(IIZ)V"⟩ : Jvm.MethodName) prog_2_method_5_code 4 none,
    Jvm.Cond.code (⟨"java/lang/Math", "max", "(II)I"⟩ : Jvm.MethodName) prog_11_method_65_code 2 (some .int),
    Jvm.Cond.code (⟨"SettlementFund$ClaimBook", "hasPlace", "()Z"⟩ : Jvm.MethodName) prog_2_method_3_code 1 (some .boolean),
    Jvm.Cond.code (⟨"SettlementFund$ClaimBook", "enter", "(IIII)I"⟩ : Jvm.MethodName) prog_2_method_4_code 6 (some .int),
    Jvm.Cond.code (⟨"SettlementFund", "setGrade", "(III)V"⟩ : Jvm.MethodName) prog_1_method_3_code 4 none,
    Jvm.Cond.code (⟨"SettlementFundLaw", "areMoney", "(LSettlementFund;[I)Z"⟩ : Jvm.MethodName) method_7_code 8 (some .boolean),
    Jvm.Cond.code (⟨"SettlementFund", "paymentTo", "(I)I"⟩ : Jvm.MethodName) prog_1_method_23_code 2 (some .int),
    Jvm.Cond.code (⟨"SettlementFund", "gradeOf", "(I)I"⟩ : Jvm.MethodName) prog_1_method_16_code 2 (some .int),
    Jvm.Cond.code (⟨"SettlementFund", "paidTo", "(I)I"⟩ : Jvm.MethodName) prog_1_method_18_code 2 (some .int),
    Jvm.Cond.code (⟨"SettlementFund", "count", "(I)I"⟩ : Jvm.MethodName) prog_1_method_19_code 2 (some .int),
    Jvm.Cond.code (⟨"SettlementFundLaw", "areShares", "(LSettlementFund;[I[I[II)Z"⟩ : Jvm.MethodName) method_9_code 18 (some .boolean),
    Jvm.Cond.code (⟨"SettlementFund", "shareOf", "(II)I"⟩ : Jvm.MethodName) prog_1_method_26_code 3 (some .int),
    Jvm.Cond.code (⟨"SettlementFund", "shareFor", "(IIZ)I"⟩ : Jvm.MethodName) prog_1_method_34_code 4 (some .int),
    Jvm.Cond.code (⟨"SettlementFund", "stateOf", "(I)I"⟩ : Jvm.MethodName) prog_1_method_15_code 2 (some .int),
    Jvm.Cond.code (⟨"SettlementFundLaw", "hasVoid", "(LSettlementFund;I)Z"⟩ : Jvm.MethodName) method_8_code 4 (some .boolean),
    Jvm.Cond.code (⟨"SettlementFund", "shareBySorting", "(II)I"⟩ : Jvm.MethodName) prog_1_method_27_code 3 (some .int),
    Jvm.Cond.code (⟨"SettlementFundLaw", "isRefused", "(LSettlementFund;[II)Z"⟩ : Jvm.MethodName) method_10_code 11 (some .boolean),
    Jvm.Cond.code (⟨"SettlementFundLaw", "all", "(LSettlementFund;)J"⟩ : Jvm.MethodName) method_6_code 4 (some .long),
    Jvm.Cond.code (⟨"SettlementFund", "today", "()I"⟩ : Jvm.MethodName) prog_1_method_12_code 1 (some .int),
    Jvm.Cond.code (⟨"SettlementFund", "claimOf", "(I)I"⟩ : Jvm.MethodName) prog_1_method_14_code 2 (some .int),
    Jvm.Cond.code (⟨"SettlementFundLaw", "isClaimed", "(LSettlementFund;[IIIZI)Z"⟩ : Jvm.MethodName) method_11_code 12 (some .boolean),
    Jvm.Cond.code (⟨"SettlementFundLaw", "isPassed", "(LSettlementFund;[I[I[II)Z"⟩ : Jvm.MethodName) method_12_code 10 (some .boolean),
    Jvm.Cond.code (⟨"SettlementFundLaw", "isChanged", "(LSettlementFund;[IIIZ)Z"⟩ : Jvm.MethodName) method_13_code 11 (some .boolean),
    Jvm.Cond.code (⟨"SettlementFundLaw", "isRound", "(LSettlementFund;[I[II)Z"⟩ : Jvm.MethodName) method_14_code 13 (some .boolean)] := by
  first
  | rfl
  | simp only [tables_1_3, List.filter, rs_isCode]
set_option maxRecDepth 16384 in
theorem rz1.codes_hold_3 : ∀ c ∈ tables_1_3.filter rs_isCode, c.before args0 about = true := by
  rw [codes_are_3]
  exact List.forall_mem_cons.mpr ⟨code66, List.forall_mem_cons.mpr ⟨code67, List.forall_mem_cons.mpr ⟨code68, List.forall_mem_cons.mpr ⟨code69, List.forall_mem_cons.mpr ⟨code70, List.forall_mem_cons.mpr ⟨code71, List.forall_mem_cons.mpr ⟨code72, List.forall_mem_cons.mpr ⟨code73, List.forall_mem_cons.mpr ⟨code74, List.forall_mem_cons.mpr ⟨code75, List.forall_mem_cons.mpr ⟨code76, List.forall_mem_cons.mpr ⟨code77, List.forall_mem_cons.mpr ⟨code78, List.forall_mem_cons.mpr ⟨code79, List.forall_mem_cons.mpr ⟨code80, List.forall_mem_cons.mpr ⟨code81, List.forall_mem_cons.mpr ⟨code82, List.forall_mem_cons.mpr ⟨code83, List.forall_mem_cons.mpr ⟨code84, List.forall_mem_cons.mpr ⟨code85, List.forall_mem_cons.mpr ⟨code86, List.forall_mem_cons.mpr ⟨code87, List.forall_mem_cons.mpr ⟨code88, List.forall_mem_cons.mpr ⟨code89, List.forall_mem_cons.mpr ⟨code90, List.forall_mem_nil _⟩⟩⟩⟩⟩⟩⟩⟩⟩⟩⟩⟩⟩⟩⟩⟩⟩⟩⟩⟩⟩⟩⟩⟩⟩
set_option maxRecDepth 16384 in
theorem rz1.others_3_0 : (tables_1_3.take 40).all (fun c => rs_isCode c || c.before args0 about) = true := by decide +kernel
set_option maxRecDepth 16384 in
theorem rz1.others_3_1 : ((tables_1_3.drop 40).take 40).all (fun c => rs_isCode c || c.before args0 about) = true := by decide +kernel
