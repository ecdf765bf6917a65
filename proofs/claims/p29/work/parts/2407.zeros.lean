set_option maxRecDepth 16384 in
theorem rz1.code18 : (Jvm.Cond.code (⟨"SettlementFund", "setFund", "(III)I"⟩ : Jvm.MethodName) prog_1_method_2_code 4 (some .int)).before args0 about = true :=
  rs_hand_word (m := ⟨2, 1⟩) (by decide +kernel) rfl (by decide +kernel) (by decide +kernel)
set_option maxRecDepth 16384 in
theorem rz1.code19 : (Jvm.Cond.code (⟨"SettlementFund", "isOutside", "(III)Z"⟩ : Jvm.MethodName) prog_1_method_28_code 3 (some .boolean)).before args0 about = true :=
  rs_hand_word (m := ⟨2, 27⟩) (by decide +kernel) rfl (by decide +kernel) (by decide +kernel)
set_option maxRecDepth 16384 in
theorem rz1.code20 : (Jvm.Cond.code (⟨"java/lang/IllegalArgumentException", "<init>", "(Ljava/lang/String;)V"⟩ : Jvm.MethodName) prog_8_method_2_code 2 none).before args0 about = true :=
  rs_hand_word (m := ⟨12, 0⟩) (by decide +kernel) rfl (by decide +kernel) (by decide +kernel)
set_option maxRecDepth 16384 in
theorem rz1.code21 : (Jvm.Cond.code (⟨"SettlementFund", "mustHaveNoPayments", "()V"⟩ : Jvm.MethodName) prog_1_method_33_code 1 none).before args0 about = true :=
  rs_hand_word (m := ⟨2, 32⟩) (by decide +kernel) rfl (by decide +kernel) (by decide +kernel)
set_option maxRecDepth 16384 in
theorem rz1.code22 : (Jvm.Cond.code (⟨"java/lang/IllegalStateException", "<init>", "(Ljava/lang/String;)V"⟩ : Jvm.MethodName) prog_9_method_2_code 2 none).before args0 about = true :=
  rs_hand_word (m := ⟨13, 0⟩) (by decide +kernel) rfl (by decide +kernel) (by decide +kernel)
set_option maxRecDepth 16384 in
theorem rz1.code23 : (Jvm.Cond.code (⟨"SettlementFund", "moneyLeft", "()I"⟩ : Jvm.MethodName) prog_1_method_20_code 1 (some .int)).before args0 about = true :=
  rs_hand_word (m := ⟨2, 19⟩) (by decide +kernel) rfl (by decide +kernel) (by decide +kernel)
set_option maxRecDepth 16384 in
theorem rz1.code24 : (Jvm.Cond.code (⟨"SettlementFund$PaymentBook", "sumOfAll", "()I"⟩ : Jvm.MethodName) prog_3_method_9_code 3 (some .int)).before args0 about = true :=
  rs_hand_word (m := ⟨4, 8⟩) (by decide +kernel) rfl (by decide +kernel) (by decide +kernel)
set_option maxRecDepth 16384 in
theorem rz1.code25 : (Jvm.Cond.code (⟨"SettlementFund", "pass", "(I)I"⟩ : Jvm.MethodName) prog_1_method_4_code 2 (some .int)).before args0 about = true :=
  rs_hand_word (m := ⟨2, 3⟩) (by decide +kernel) rfl (by decide +kernel) (by decide +kernel)
set_option maxRecDepth 16384 in
theorem rz1.code26 : (Jvm.Cond.code (⟨"SettlementFund$ClaimBook", "denyLate", "(I)V"⟩ : Jvm.MethodName) prog_2_method_6_code 3 none).before args0 about = true :=
  rs_hand_word (m := ⟨3, 5⟩) (by decide +kernel) rfl (by decide +kernel) (by decide +kernel)
set_option maxRecDepth 16384 in
theorem rz1.code27 : (Jvm.Cond.code (⟨"SettlementFund$PaymentBook", "voidLate", "(I)V"⟩ : Jvm.MethodName) prog_3_method_5_code 3 none).before args0 about = true :=
  rs_hand_word (m := ⟨4, 4⟩) (by decide +kernel) rfl (by decide +kernel) (by decide +kernel)
set_option maxRecDepth 16384 in
theorem rz1.code28 : (Jvm.Cond.code (⟨"SettlementFund", "round", "(I)I"⟩ : Jvm.MethodName) prog_1_method_10_code 3 (some .int)).before args0 about = true :=
  rs_hand_word (m := ⟨2, 9⟩) (by decide +kernel) rfl (by decide +kernel) (by decide +kernel)
set_option maxRecDepth 16384 in
theorem rz1.code29 : (Jvm.Cond.code (⟨"SettlementFund", "mustBeLeast", "(I)V"⟩ : Jvm.MethodName) prog_1_method_32_code 2 none).before args0 about = true :=
  rs_hand_word (m := ⟨2, 31⟩) (by decide +kernel) rfl (by decide +kernel) (by decide +kernel)
set_option maxRecDepth 16384 in
theorem rz1.code30 : (Jvm.Cond.code (⟨"SettlementFund$ClaimBook", "tally", "(I)I"⟩ : Jvm.MethodName) prog_2_method_7_code 4 (some .int)).before args0 about = true :=
  rs_hand_word (m := ⟨3, 6⟩) (by decide +kernel) rfl (by decide +kernel) (by decide +kernel)
set_option maxRecDepth 16384 in
theorem rz1.code31 : (Jvm.Cond.code (⟨"SettlementFund$PaymentBook", "hasOpen", "()Z"⟩ : Jvm.MethodName) prog_3_method_6_code 2 (some .boolean)).before args0 about = true :=
  rs_hand_word (m := ⟨4, 5⟩) (by decide +kernel) rfl (by decide +kernel) (by decide +kernel)
set_option maxRecDepth 16384 in
theorem rz1.code32 : (Jvm.Cond.code (⟨"SettlementFund", "shareMoneyLeft", "(IZ)V"⟩ : Jvm.MethodName) prog_1_method_35_code 5 none).before args0 about = true :=
  rs_hand_word (m := ⟨2, 34⟩) (by decide +kernel) rfl (by decide +kernel) (by decide +kernel)
set_option maxRecDepth 16384 in
theorem rz1.code33 : (Jvm.Cond.code (⟨"SettlementFund$Sharing", "clear", "()V"⟩ : Jvm.MethodName) prog_4_method_2_code 1 none).before args0 about = true :=
  rs_hand_word (m := ⟨5, 1⟩) (by decide +kernel) rfl (by decide +kernel) (by decide +kernel)
set_option maxRecDepth 16384 in
theorem rz1.code34 : (Jvm.Cond.code (⟨"SettlementFund", "takesPart", "(I)Z"⟩ : Jvm.MethodName) prog_1_method_36_code 2 (some .boolean)).before args0 about = true :=
  rs_hand_word (m := ⟨2, 35⟩) (by decide +kernel) rfl (by decide +kernel) (by decide +kernel)
set_option maxRecDepth 16384 in
theorem rz1.code35 : (Jvm.Cond.code (⟨"SettlementFund", "room", "(I)I"⟩ : Jvm.MethodName) prog_1_method_17_code 3 (some .int)).before args0 about = true :=
  rs_hand_word (m := ⟨2, 16⟩) (by decide +kernel) rfl (by decide +kernel) (by decide +kernel)
set_option maxRecDepth 16384 in
theorem rz1.code36 : (Jvm.Cond.code (⟨"SettlementFund", "mustBeClaim", "(I)V"⟩ : Jvm.MethodName) prog_1_method_30_code 2 none).before args0 about = true :=
  rs_hand_word (m := ⟨2, 29⟩) (by decide +kernel) rfl (by decide +kernel) (by decide +kernel)
set_option maxRecDepth 16384 in
theorem rz1.code37 : (Jvm.Cond.code (⟨"SettlementFund$ClaimBook", "has", "(I)Z"⟩ : Jvm.MethodName) prog_2_method_2_code 2 (some .boolean)).before args0 about = true :=
  rs_hand_word (m := ⟨3, 1⟩) (by decide +kernel) rfl (by decide +kernel) (by decide +kernel)
set_option maxRecDepth 16384 in
theorem rz1.code38 : (Jvm.Cond.code (⟨"SettlementFund", "valueAt", "([II)I"⟩ : Jvm.MethodName) prog_1_method_29_code 2 (some .int)).before args0 about = true :=
  rs_hand_word (m := ⟨2, 28⟩) (by decide +kernel) rfl (by decide +kernel) (by decide +kernel)
set_option maxRecDepth 16384 in
theorem rz1.code39 : (Jvm.Cond.code (⟨"SettlementFund$PaymentBook", "sumFor", "(I)I"⟩ : Jvm.MethodName) prog_3_method_8_code 4 (some .int)).before args0 about = true :=
  rs_hand_word (m := ⟨4, 7⟩) (by decide +kernel) rfl (by decide +kernel) (by decide +kernel)
set_option maxRecDepth 16384 in
theorem rz1.code40 : (Jvm.Cond.code (⟨"SettlementFund$PaymentBook", "hasVoidFor", "(I)Z"⟩ : Jvm.MethodName) prog_3_method_7_code 3 (some .boolean)).before args0 about = true :=
  rs_hand_word (m := ⟨4, 6⟩) (by decide +kernel) rfl (by decide +kernel) (by decide +kernel)
set_option maxRecDepth 16384 in
theorem rz1.code41 : (Jvm.Cond.code (⟨"SettlementFund$Sharing", "add", "(III)V"⟩ : Jvm.MethodName) prog_4_method_3_code 4 none).before args0 about = true :=
  rs_hand_word (m := ⟨5, 2⟩) (by decide +kernel) rfl (by decide +kernel) (by decide +kernel)
set_option maxRecDepth 16384 in
theorem rz1.code42 : (Jvm.Cond.code (⟨"SettlementFund$Sharing", "shareOut", "(IIZ)V"⟩ : Jvm.MethodName) prog_4_method_4_code 6 none).before args0 about = true :=
  rs_hand_word (m := ⟨5, 3⟩) (by decide +kernel) rfl (by decide +kernel) (by decide +kernel)
set_option maxRecDepth 16384 in
theorem rz1.code43 : (Jvm.Cond.code (⟨"SettlementFund$Sharing", "sortByRoomPerPoint", "()V"⟩ : Jvm.MethodName) prog_4_method_17_code 3 none).before args0 about = true :=
  rs_hand_word (m := ⟨5, 16⟩) (by decide +kernel) rfl (by decide +kernel) (by decide +kernel)
set_option maxRecDepth 16384 in
theorem rz1.code44 : (Jvm.Cond.code (⟨"SettlementFund$Sharing", "hasLessRoomPerPoint", "(II)Z"⟩ : Jvm.MethodName) prog_4_method_18_code 3 (some .boolean)).before args0 about = true :=
  rs_hand_word (m := ⟨5, 17⟩) (by decide +kernel) rfl (by decide +kernel) (by decide +kernel)
set_option maxRecDepth 16384 in
theorem rz1.code45 : (Jvm.Cond.code (⟨"SettlementFund$Sharing", "swapPlaces", "(II)V"⟩ : Jvm.MethodName) prog_4_method_19_code 6 none).before args0 about = true :=
  rs_hand_word (m := ⟨5, 18⟩) (by decide +kernel) rfl (by decide +kernel) (by decide +kernel)
set_option maxRecDepth 16384 in
theorem rz1.code46 : (Jvm.Cond.code (⟨"SettlementFund$Sharing", "copyPlace", "(II)V"⟩ : Jvm.MethodName) prog_4_method_16_code 3 none).before args0 about = true :=
  rs_hand_word (m := ⟨5, 15⟩) (by decide +kernel) rfl (by decide +kernel) (by decide +kernel)
set_option maxRecDepth 16384 in
theorem rz1.code47 : (Jvm.Cond.code (⟨"SettlementFund$Sharing", "shareOnce", "(IZ)V"⟩ : Jvm.MethodName) prog_4_method_7_code 4 none).before args0 about = true :=
  rs_hand_word (m := ⟨5, 6⟩) (by decide +kernel) rfl (by decide +kernel) (by decide +kernel)
set_option maxRecDepth 16384 in
theorem rz1.code48 : (Jvm.Cond.code (⟨"SettlementFund$Sharing", "fillFromFront", "()V"⟩ : Jvm.MethodName) prog_4_method_9_code 2 none).before args0 about = true :=
  rs_hand_word (m := ⟨5, 8⟩) (by decide +kernel) rfl (by decide +kernel) (by decide +kernel)
set_option maxRecDepth 16384 in
theorem rz1.code49 : (Jvm.Cond.code (⟨"SettlementFund$Sharing", "reachesRoom", "(IJJ)Z"⟩ : Jvm.MethodName) prog_4_method_10_code 6 (some .boolean)).before args0 about = true :=
  rs_hand_word (m := ⟨5, 9⟩) (by decide +kernel) rfl (by decide +kernel) (by decide +kernel)
set_option maxRecDepth 16384 in
theorem rz1.code50 : (Jvm.Cond.code (⟨"SettlementFund$Sharing", "fill", "(I)V"⟩ : Jvm.MethodName) prog_4_method_11_code 2 none).before args0 about = true :=
  rs_hand_word (m := ⟨5, 10⟩) (by decide +kernel) rfl (by decide +kernel) (by decide +kernel)
set_option maxRecDepth 16384 in
theorem rz1.code51 : (Jvm.Cond.code (⟨"SettlementFund$Sharing", "fillInLooks", "()V"⟩ : Jvm.MethodName) prog_4_method_8_code 8 none).before args0 about = true :=
  rs_hand_word (m := ⟨5, 7⟩) (by decide +kernel) rfl (by decide +kernel) (by decide +kernel)
set_option maxRecDepth 16384 in
theorem rz1.code52 : (Jvm.Cond.code (⟨"SettlementFund$Sharing", "shareRestByPoints", "()V"⟩ : Jvm.MethodName) prog_4_method_12_code 4 none).before args0 about = true :=
  rs_hand_word (m := ⟨5, 11⟩) (by decide +kernel) rfl (by decide +kernel) (by decide +kernel)
set_option maxRecDepth 16384 in
theorem rz1.code53 : (Jvm.Cond.code (⟨"SettlementFund$Sharing", "notFullBelow", "(I)I"⟩ : Jvm.MethodName) prog_4_method_13_code 4 (some .int)).before args0 about = true :=
  rs_hand_word (m := ⟨5, 12⟩) (by decide +kernel) rfl (by decide +kernel) (by decide +kernel)
set_option maxRecDepth 16384 in
theorem rz1.code54 : (Jvm.Cond.code (⟨"SettlementFund$Sharing", "placeOfSmallest", "()I"⟩ : Jvm.MethodName) prog_4_method_14_code 3 (some .int)).before args0 about = true :=
  rs_hand_word (m := ⟨5, 13⟩) (by decide +kernel) rfl (by decide +kernel) (by decide +kernel)
set_option maxRecDepth 16384 in
theorem rz1.code55 : (Jvm.Cond.code (⟨"SettlementFund$Sharing", "takeOut", "(I)V"⟩ : Jvm.MethodName) prog_4_method_15_code 3 none).before args0 about = true :=
  rs_hand_word (m := ⟨5, 14⟩) (by decide +kernel) rfl (by decide +kernel) (by decide +kernel)
set_option maxRecDepth 16384 in
theorem rz1.code56 : (Jvm.Cond.code (⟨"SettlementFund$Sharing", "gainers", "()I"⟩ : Jvm.MethodName) prog_4_method_6_code 3 (some .int)).before args0 about = true :=
  rs_hand_word (m := ⟨5, 5⟩) (by decide +kernel) rfl (by decide +kernel) (by decide +kernel)
set_option maxRecDepth 16384 in
theorem rz1.code57 : (Jvm.Cond.code (⟨"SettlementFund$PaymentBook", "hasPlacesFor", "(I)Z"⟩ : Jvm.MethodName) prog_3_method_3_code 2 (some .boolean)).before args0 about = true :=
  rs_hand_word (m := ⟨4, 2⟩) (by decide +kernel) rfl (by decide +kernel) (by decide +kernel)
set_option maxRecDepth 16384 in
theorem rz1.code58 : (Jvm.Cond.code (⟨"SettlementFund", "makePayments", "()V"⟩ : Jvm.MethodName) prog_1_method_37_code 3 none).before args0 about = true :=
  rs_hand_word (m := ⟨2, 36⟩) (by decide +kernel) rfl (by decide +kernel) (by decide +kernel)
set_option maxRecDepth 16384 in
theorem rz1.code59 : (Jvm.Cond.code (⟨"SettlementFund$Sharing", "shareGivenTo", "(I)I"⟩ : Jvm.MethodName) prog_4_method_5_code 3 (some .int)).before args0 about = true :=
  rs_hand_word (m := ⟨5, 4⟩) (by decide +kernel) rfl (by decide +kernel) (by decide +kernel)
set_option maxRecDepth 16384 in
theorem rz1.code60 : (Jvm.Cond.code (⟨"SettlementFund$PaymentBook", "add", "(III)V"⟩ : Jvm.MethodName) prog_3_method_4_code 4 none).before args0 about = true :=
  rs_hand_word (m := ⟨4, 3⟩) (by decide +kernel) rfl (by decide +kernel) (by decide +kernel)
set_option maxRecDepth 16384 in
theorem rz1.code61 : (Jvm.Cond.code (⟨"SettlementFund", "cash", "(I)I"⟩ : Jvm.MethodName) prog_1_method_11_code 2 (some .int)).before args0 about = true :=
  rs_hand_word (m := ⟨2, 10⟩) (by decide +kernel) rfl (by decide +kernel) (by decide +kernel)
set_option maxRecDepth 16384 in
theorem rz1.code62 : (Jvm.Cond.code (⟨"SettlementFund", "cure", "(I)I"⟩ : Jvm.MethodName) prog_1_method_6_code 2 (some .int)).before args0 about = true :=
  rs_hand_word (m := ⟨2, 5⟩) (by decide +kernel) rfl (by decide +kernel) (by decide +kernel)
set_option maxRecDepth 16384 in
theorem rz1.code63 : (Jvm.Cond.code (⟨"SettlementFund", "deny", "(I)I"⟩ : Jvm.MethodName) prog_1_method_7_code 3 (some .int)).before args0 about = true :=
  rs_hand_word (m := ⟨2, 6⟩) (by decide +kernel) rfl (by decide +kernel) (by decide +kernel)
set_option maxRecDepth 16384 in
theorem rz1.code64 : (Jvm.Cond.code (⟨"SettlementFund", "object", "(I)I"⟩ : Jvm.MethodName) prog_1_method_8_code 2 (some .int)).before args0 about = true :=
  rs_hand_word (m := ⟨2, 7⟩) (by decide +kernel) rfl (by decide +kernel) (by decide +kernel)
set_option maxRecDepth 16384 in
theorem rz1.code65 : (Jvm.Cond.code (⟨"SettlementFund", "decide", "(IZ)I"⟩ : Jvm.MethodName) prog_1_method_9_code 3 (some .int)).before args0 about = true :=
  rs_hand_word (m := ⟨2, 8⟩) (by decide +kernel) rfl (by decide +kernel) (by decide +kernel)
