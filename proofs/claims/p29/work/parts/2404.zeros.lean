set_option maxRecDepth 16384 in
theorem rz1.codes_are_1 : tables_1_1.filter rs_isCode = [Jvm.Cond.code (⟨"SettlementFund", "<init>", "()V"⟩ : Jvm.MethodName) prog_1_method_1_code 2 none,
    Jvm.Cond.code (⟨"java/lang/Object", "<init>", "()V"⟩ : Jvm.MethodName) object_method_1_code 1 none,
    Jvm.Cond.code (⟨"SettlementFund$ClaimBook", "<init>", "()V"⟩ : Jvm.MethodName) prog_2_method_1_code 2 none,
    Jvm.Cond.code (⟨"SettlementFund$PaymentBook", "<init>", "()V"⟩ : Jvm.MethodName) prog_3_method_1_code 1 none,
    Jvm.Cond.code (⟨"SettlementFund$Sharing", "<init>", "()V"⟩ : Jvm.MethodName) prog_4_method_1_code 1 none,
    Jvm.Cond.code (⟨"SettlementFund", "claims", "()I"⟩ : Jvm.MethodName) prog_1_method_13_code 1 (some .int),
    Jvm.Cond.code (⟨"SettlementFund", "fee", "()I"⟩ : Jvm.MethodName) prog_1_method_21_code 1 (some .int),
    Jvm.Cond.code (⟨"SettlementFund", "payments", "()I"⟩ : Jvm.MethodName) prog_1_method_22_code 1 (some .int),
    Jvm.Cond.code (⟨"SettlementFund", "amountOf", "(I)I"⟩ : Jvm.MethodName) prog_1_method_24_code 2 (some .int),
    Jvm.Cond.code (⟨"SettlementFund", "mustBePayment", "(I)V"⟩ : Jvm.MethodName) prog_1_method_31_code 2 none,
    Jvm.Cond.code (⟨"SettlementFund$PaymentBook", "has", "(I)Z"⟩ : Jvm.MethodName) prog_3_method_2_code 2 (some .boolean),
    Jvm.Cond.code (⟨"java/lang/Throwable", "<init>", "()V"⟩ : Jvm.MethodName) prog_14_method_1_code 1 none,
    Jvm.Cond.code (⟨"java/lang/IndexOutOfBoundsException", "<init>", "(Ljava/lang/String;)V"⟩ : Jvm.MethodName) prog_10_method_2_code 2 none,
    Jvm.Cond.code (⟨"java/lang/RuntimeException", "<init>", "(Ljava/lang/String;)V"⟩ : Jvm.MethodName) prog_12_method_2_code 2 none,
    Jvm.Cond.code (⟨"java/lang/Exception", "<init>", "(Ljava/lang/String;)V"⟩ : Jvm.MethodName) prog_7_method_2_code 2 none,
    Jvm.Cond.code (⟨"java/lang/Throwable", "<init>", "(Ljava/lang/String;)V"⟩ : Jvm.MethodName) prog_14_method_2_code 2 none,
    Jvm.Cond.code (⟨"SettlementFund", "paymentState", "(I)I"⟩ : Jvm.MethodName) prog_1_method_25_code 2 (some .int),
    Jvm.Cond.code (⟨"SettlementFundLaw", "dice", "([II)I"⟩ : Jvm.MethodName) method_2_code 2 (some .int)] := by
  first
  | rfl
  | simp only [tables_1_1, List.filter, rs_isCode]
set_option maxRecDepth 16384 in
theorem rz1.codes_hold_1 : ∀ c ∈ tables_1_1.filter rs_isCode, c.before args0 about = true := by
  rw [codes_are_1]
  exact List.forall_mem_cons.mpr ⟨code0, List.forall_mem_cons.mpr ⟨code1, List.forall_mem_cons.mpr ⟨code2, List.forall_mem_cons.mpr ⟨code3, List.forall_mem_cons.mpr ⟨code4, List.forall_mem_cons.mpr ⟨code5, List.forall_mem_cons.mpr ⟨code6, List.forall_mem_cons.mpr ⟨code7, List.forall_mem_cons.mpr ⟨code8, List.forall_mem_cons.mpr ⟨code9, List.forall_mem_cons.mpr ⟨code10, List.forall_mem_cons.mpr ⟨code11, List.forall_mem_cons.mpr ⟨code12, List.forall_mem_cons.mpr ⟨code13, List.forall_mem_cons.mpr ⟨code14, List.forall_mem_cons.mpr ⟨code15, List.forall_mem_cons.mpr ⟨code16, List.forall_mem_cons.mpr ⟨code17, List.forall_mem_nil _⟩⟩⟩⟩⟩⟩⟩⟩⟩⟩⟩⟩⟩⟩⟩⟩⟩⟩
set_option maxRecDepth 16384 in
theorem rz1.others_1_0 : (tables_1_1.take 40).all (fun c => rs_isCode c || c.before args0 about) = true := by decide +kernel
set_option maxRecDepth 16384 in
theorem rz1.others_1_1 : ((tables_1_1.drop 40).take 40).all (fun c => rs_isCode c || c.before args0 about) = true := by decide +kernel
