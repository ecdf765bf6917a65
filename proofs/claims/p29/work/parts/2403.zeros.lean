set_option maxRecDepth 16384 in
theorem rz1.code0 : (Jvm.Cond.code (⟨"SettlementFund", "<init>", "()V"⟩ : Jvm.MethodName) prog_1_method_1_code 2 none).before args0 about = true :=
  rs_hand_word (m := ⟨2, 0⟩) (by decide +kernel) rfl (by decide +kernel) (by decide +kernel)
set_option maxRecDepth 16384 in
theorem rz1.code1 : (Jvm.Cond.code (⟨"java/lang/Object", "<init>", "()V"⟩ : Jvm.MethodName) object_method_1_code 1 none).before args0 about = true :=
  rs_hand_word (m := ⟨1, 0⟩) (by decide +kernel) rfl (by decide +kernel) (by decide +kernel)
set_option maxRecDepth 16384 in
theorem rz1.code2 : (Jvm.Cond.code (⟨"SettlementFund$ClaimBook", "<init>", "()V"⟩ : Jvm.MethodName) prog_2_method_1_code 2 none).before args0 about = true :=
  rs_hand_word (m := ⟨3, 0⟩) (by decide +kernel) rfl (by decide +kernel) (by decide +kernel)
set_option maxRecDepth 16384 in
theorem rz1.code3 : (Jvm.Cond.code (⟨"SettlementFund$PaymentBook", "<init>", "()V"⟩ : Jvm.MethodName) prog_3_method_1_code 1 none).before args0 about = true :=
  rs_hand_word (m := ⟨4, 0⟩) (by decide +kernel) rfl (by decide +kernel) (by decide +kernel)
set_option maxRecDepth 16384 in
theorem rz1.code4 : (Jvm.Cond.code (⟨"SettlementFund$Sharing", "<init>", "()V"⟩ : Jvm.MethodName) prog_4_method_1_code 1 none).before args0 about = true :=
  rs_hand_word (m := ⟨5, 0⟩) (by decide +kernel) rfl (by decide +kernel) (by decide +kernel)
set_option maxRecDepth 16384 in
theorem rz1.code5 : (Jvm.Cond.code (⟨"SettlementFund", "claims", "()I"⟩ : Jvm.MethodName) prog_1_method_13_code 1 (some .int)).before args0 about = true :=
  rs_hand_word (m := ⟨2, 12⟩) (by decide +kernel) rfl (by decide +kernel) (by decide +kernel)
set_option maxRecDepth 16384 in
theorem rz1.code6 : (Jvm.Cond.code (⟨"SettlementFund", "fee", "()I"⟩ : Jvm.MethodName) prog_1_method_21_code 1 (some .int)).before args0 about = true :=
  rs_hand_word (m := ⟨2, 20⟩) (by decide +kernel) rfl (by decide +kernel) (by decide +kernel)
set_option maxRecDepth 16384 in
theorem rz1.code7 : (Jvm.Cond.code (⟨"SettlementFund", "payments", "()I"⟩ : Jvm.MethodName) prog_1_method_22_code 1 (some .int)).before args0 about = true :=
  rs_hand_word (m := ⟨2, 21⟩) (by decide +kernel) rfl (by decide +kernel) (by decide +kernel)
set_option maxRecDepth 16384 in
theorem rz1.code8 : (Jvm.Cond.code (⟨"SettlementFund", "amountOf", "(I)I"⟩ : Jvm.MethodName) prog_1_method_24_code 2 (some .int)).before args0 about = true :=
  rs_hand_word (m := ⟨2, 23⟩) (by decide +kernel) rfl (by decide +kernel) (by decide +kernel)
set_option maxRecDepth 16384 in
theorem rz1.code9 : (Jvm.Cond.code (⟨"SettlementFund", "mustBePayment", "(I)V"⟩ : Jvm.MethodName) prog_1_method_31_code 2 none).before args0 about = true :=
  rs_hand_word (m := ⟨2, 30⟩) (by decide +kernel) rfl (by decide +kernel) (by decide +kernel)
set_option maxRecDepth 16384 in
theorem rz1.code10 : (Jvm.Cond.code (⟨"SettlementFund$PaymentBook", "has", "(I)Z"⟩ : Jvm.MethodName) prog_3_method_2_code 2 (some .boolean)).before args0 about = true :=
  rs_hand_word (m := ⟨4, 1⟩) (by decide +kernel) rfl (by decide +kernel) (by decide +kernel)
set_option maxRecDepth 16384 in
theorem rz1.code11 : (Jvm.Cond.code (⟨"java/lang/Throwable", "<init>", "()V"⟩ : Jvm.MethodName) prog_14_method_1_code 1 none).before args0 about = true :=
  rs_hand_word (m := ⟨6, 0⟩) (by decide +kernel) rfl (by decide +kernel) (by decide +kernel)
set_option maxRecDepth 16384 in
theorem rz1.code12 : (Jvm.Cond.code (⟨"java/lang/IndexOutOfBoundsException", "<init>", "(Ljava/lang/String;)V"⟩ : Jvm.MethodName) prog_10_method_2_code 2 none).before args0 about = true :=
  rs_hand_word (m := ⟨11, 0⟩) (by decide +kernel) rfl (by decide +kernel) (by decide +kernel)
set_option maxRecDepth 16384 in
theorem rz1.code13 : (Jvm.Cond.code (⟨"java/lang/RuntimeException", "<init>", "(Ljava/lang/String;)V"⟩ : Jvm.MethodName) prog_12_method_2_code 2 none).before args0 about = true :=
  rs_hand_word (m := ⟨10, 1⟩) (by decide +kernel) rfl (by decide +kernel) (by decide +kernel)
set_option maxRecDepth 16384 in
theorem rz1.code14 : (Jvm.Cond.code (⟨"java/lang/Exception", "<init>", "(Ljava/lang/String;)V"⟩ : Jvm.MethodName) prog_7_method_2_code 2 none).before args0 about = true :=
  rs_hand_word (m := ⟨9, 1⟩) (by decide +kernel) rfl (by decide +kernel) (by decide +kernel)
set_option maxRecDepth 16384 in
theorem rz1.code15 : (Jvm.Cond.code (⟨"java/lang/Throwable", "<init>", "(Ljava/lang/String;)V"⟩ : Jvm.MethodName) prog_14_method_2_code 2 none).before args0 about = true :=
  rs_hand_word (m := ⟨6, 1⟩) (by decide +kernel) rfl (by decide +kernel) (by decide +kernel)
set_option maxRecDepth 16384 in
theorem rz1.code16 : (Jvm.Cond.code (⟨"SettlementFund", "paymentState", "(I)I"⟩ : Jvm.MethodName) prog_1_method_25_code 2 (some .int)).before args0 about = true :=
  rs_hand_word (m := ⟨2, 24⟩) (by decide +kernel) rfl (by decide +kernel) (by decide +kernel)
set_option maxRecDepth 16384 in
theorem rz1.code17 : (Jvm.Cond.code (⟨"SettlementFundLaw", "dice", "([II)I"⟩ : Jvm.MethodName) method_2_code 2 (some .int)).before args0 about = true :=
  rs_hand_word (m := ⟨0, 1⟩) (by decide +kernel) rfl (by decide +kernel) (by decide +kernel)
