set_option maxRecDepth 16384 in
theorem rz1.code66 : (Jvm.Cond.code (⟨"SettlementFund", "claim", "(IIZI)I"⟩ : Jvm.MethodName) prog_1_method_5_code 6 (some .int)).before args0 about = true :=
  rs_hand_word (m := ⟨2, 4⟩) (by decide +kernel) rfl (by decide +kernel) (by decide +kernel)
set_option maxRecDepth 16384 in
theorem rz1.code67 : (Jvm.Cond.code (⟨"SettlementFund$ClaimBook", "join", "(IIZ)V"⟩ : Jvm.MethodName) prog_2_method_5_code 4 none).before args0 about = true :=
  rs_hand_word (m := ⟨3, 4⟩) (by decide +kernel) rfl (by decide +kernel) (by decide +kernel)
set_option maxRecDepth 16384 in
theorem rz1.code68 : (Jvm.Cond.code (⟨"java/lang/Math", "max", "(II)I"⟩ : Jvm.MethodName) prog_11_method_65_code 2 (some .int)).before args0 about = true :=
  rs_hand_word (m := ⟨7, 0⟩) (by decide +kernel) rfl (by decide +kernel) (by decide +kernel)
set_option maxRecDepth 16384 in
theorem rz1.code69 : (Jvm.Cond.code (⟨"SettlementFund$ClaimBook", "hasPlace", "()Z"⟩ : Jvm.MethodName) prog_2_method_3_code 1 (some .boolean)).before args0 about = true :=
  rs_hand_word (m := ⟨3, 2⟩) (by decide +kernel) rfl (by decide +kernel) (by decide +kernel)
set_option maxRecDepth 16384 in
theorem rz1.code70 : (Jvm.Cond.code (⟨"SettlementFund$ClaimBook", "enter", "(IIII)I"⟩ : Jvm.MethodName) prog_2_method_4_code 6 (some .int)).before args0 about = true :=
  rs_hand_word (m := ⟨3, 3⟩) (by decide +kernel) rfl (by decide +kernel) (by decide +kernel)
set_option maxRecDepth 16384 in
theorem rz1.code71 : (Jvm.Cond.code (⟨"SettlementFund", "setGrade", "(III)V"⟩ : Jvm.MethodName) prog_1_method_3_code 4 none).before args0 about = true :=
  rs_hand_word (m := ⟨2, 2⟩) (by decide +kernel) rfl (by decide +kernel) (by decide +kernel)
set_option maxRecDepth 16384 in
theorem rz1.code72 : (Jvm.Cond.code (⟨"SettlementFundLaw", "areMoney", "(LSettlementFund;[I)Z"⟩ : Jvm.MethodName) method_7_code 8 (some .boolean)).before args0 about = true :=
  rs_hand_word (m := ⟨0, 6⟩) (by decide +kernel) rfl (by decide +kernel) (by decide +kernel)
set_option maxRecDepth 16384 in
theorem rz1.code73 : (Jvm.Cond.code (⟨"SettlementFund", "paymentTo", "(I)I"⟩ : Jvm.MethodName) prog_1_method_23_code 2 (some .int)).before args0 about = true :=
  rs_hand_word (m := ⟨2, 22⟩) (by decide +kernel) rfl (by decide +kernel) (by decide +kernel)
set_option maxRecDepth 16384 in
theorem rz1.code74 : (Jvm.Cond.code (⟨"SettlementFund", "gradeOf", "(I)I"⟩ : Jvm.MethodName) prog_1_method_16_code 2 (some .int)).before args0 about = true :=
  rs_hand_word (m := ⟨2, 15⟩) (by decide +kernel) rfl (by decide +kernel) (by decide +kernel)
set_option maxRecDepth 16384 in
theorem rz1.code75 : (Jvm.Cond.code (⟨"SettlementFund", "paidTo", "(I)I"⟩ : Jvm.MethodName) prog_1_method_18_code 2 (some .int)).before args0 about = true :=
  rs_hand_word (m := ⟨2, 17⟩) (by decide +kernel) rfl (by decide +kernel) (by decide +kernel)
set_option maxRecDepth 16384 in
theorem rz1.code76 : (Jvm.Cond.code (⟨"SettlementFund", "count", "(I)I"⟩ : Jvm.MethodName) prog_1_method_19_code 2 (some .int)).before args0 about = true :=
  rs_hand_word (m := ⟨2, 18⟩) (by decide +kernel) rfl (by decide +kernel) (by decide +kernel)
set_option maxRecDepth 16384 in
theorem rz1.code77 : (Jvm.Cond.code (⟨"SettlementFundLaw", "areShares", "(LSettlementFund;[I[I[II)Z"⟩ : Jvm.MethodName) method_9_code 18 (some .boolean)).before args0 about = true :=
  rs_hand_word (m := ⟨0, 8⟩) (by decide +kernel) rfl (by decide +kernel) (by decide +kernel)
set_option maxRecDepth 16384 in
theorem rz1.code78 : (Jvm.Cond.code (⟨"SettlementFund", "shareOf", "(II)I"⟩ : Jvm.MethodName) prog_1_method_26_code 3 (some .int)).before args0 about = true :=
  rs_hand_word (m := ⟨2, 25⟩) (by decide +kernel) rfl (by decide +kernel) (by decide +kernel)
set_option maxRecDepth 16384 in
theorem rz1.code79 : (Jvm.Cond.code (⟨"SettlementFund", "shareFor", "(IIZ)I"⟩ : Jvm.MethodName) prog_1_method_34_code 4 (some .int)).before args0 about = true :=
  rs_hand_word (m := ⟨2, 33⟩) (by decide +kernel) rfl (by decide +kernel) (by decide +kernel)
set_option maxRecDepth 16384 in
theorem rz1.code80 : (Jvm.Cond.code (⟨"SettlementFund", "stateOf", "(I)I"⟩ : Jvm.MethodName) prog_1_method_15_code 2 (some .int)).before args0 about = true :=
  rs_hand_word (m := ⟨2, 14⟩) (by decide +kernel) rfl (by decide +kernel) (by decide +kernel)
set_option maxRecDepth 16384 in
theorem rz1.code81 : (Jvm.Cond.code (⟨"SettlementFundLaw", "hasVoid", "(LSettlementFund;I)Z"⟩ : Jvm.MethodName) method_8_code 4 (some .boolean)).before args0 about = true :=
  rs_hand_word (m := ⟨0, 7⟩) (by decide +kernel) rfl (by decide +kernel) (by decide +kernel)
set_option maxRecDepth 16384 in
theorem rz1.code82 : (Jvm.Cond.code (⟨"SettlementFund", "shareBySorting", "(II)I"⟩ : Jvm.MethodName) prog_1_method_27_code 3 (some .int)).before args0 about = true :=
  rs_hand_word (m := ⟨2, 26⟩) (by decide +kernel) rfl (by decide +kernel) (by decide +kernel)
set_option maxRecDepth 16384 in
theorem rz1.code83 : (Jvm.Cond.code (⟨"SettlementFundLaw", "isRefused", "(LSettlementFund;[II)Z"⟩ : Jvm.MethodName) method_10_code 11 (some .boolean)).before args0 about = true :=
  rs_hand_word (m := ⟨0, 9⟩) (by decide +kernel) rfl (by decide +kernel) (by decide +kernel)
set_option maxRecDepth 16384 in
theorem rz1.code84 : (Jvm.Cond.code (⟨"SettlementFundLaw", "all", "(LSettlementFund;)J"⟩ : Jvm.MethodName) method_6_code 4 (some .long)).before args0 about = true :=
  rs_hand_word (m := ⟨0, 5⟩) (by decide +kernel) rfl (by decide +kernel) (by decide +kernel)
set_option maxRecDepth 16384 in
theorem rz1.code85 : (Jvm.Cond.code (⟨"SettlementFund", "today", "()I"⟩ : Jvm.MethodName) prog_1_method_12_code 1 (some .int)).before args0 about = true :=
  rs_hand_word (m := ⟨2, 11⟩) (by decide +kernel) rfl (by decide +kernel) (by decide +kernel)
set_option maxRecDepth 16384 in
theorem rz1.code86 : (Jvm.Cond.code (⟨"SettlementFund", "claimOf", "(I)I"⟩ : Jvm.MethodName) prog_1_method_14_code 2 (some .int)).before args0 about = true :=
  rs_hand_word (m := ⟨2, 13⟩) (by decide +kernel) rfl (by decide +kernel) (by decide +kernel)
set_option maxRecDepth 16384 in
theorem rz1.code87 : (Jvm.Cond.code (⟨"SettlementFundLaw", "isClaimed", "(LSettlementFund;[IIIZI)Z"⟩ : Jvm.MethodName) method_11_code 12 (some .boolean)).before args0 about = true :=
  rs_hand_word (m := ⟨0, 10⟩) (by decide +kernel) rfl (by decide +kernel) (by decide +kernel)
set_option maxRecDepth 16384 in
theorem rz1.code88 : (Jvm.Cond.code (⟨"SettlementFundLaw", "isPassed", "(LSettlementFund;[I[I[II)Z"⟩ : Jvm.MethodName) method_12_code 10 (some .boolean)).before args0 about = true :=
  rs_hand_word (m := ⟨0, 11⟩) (by decide +kernel) rfl (by decide +kernel) (by decide +kernel)
set_option maxRecDepth 16384 in
theorem rz1.code89 : (Jvm.Cond.code (⟨"SettlementFundLaw", "isChanged", "(LSettlementFund;[IIIZ)Z"⟩ : Jvm.MethodName) method_13_code 11 (some .boolean)).before args0 about = true :=
  rs_hand_word (m := ⟨0, 12⟩) (by decide +kernel) rfl (by decide +kernel) (by decide +kernel)
set_option maxRecDepth 16384 in
theorem rz1.code90 : (Jvm.Cond.code (⟨"SettlementFundLaw", "isRound", "(LSettlementFund;[I[II)Z"⟩ : Jvm.MethodName) method_14_code 13 (some .boolean)).before args0 about = true :=
  rs_hand_word (m := ⟨0, 13⟩) (by decide +kernel) rfl (by decide +kernel) (by decide +kernel)
