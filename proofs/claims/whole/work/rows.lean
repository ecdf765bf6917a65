section
-- ===== PART A: goes FIRST, ahead of the names: the tables' words, and 'selects' of the private methods out of them =====
/-- a private method of a class that the tables say can be made, by its rows of tables_1 -/
def lw_okq (q : MethodName × Nat) : Prop := (q.1.cls ≠ "java/lang/invoke/MethodHandle" ∧ q.1.cls ≠ "java/lang/invoke/VarHandle") ∧ Cond.instantiable q.1.cls q.2 ∈ tables_1 ∧ Cond.privateMethod q.1 ∈ tables_1 ∧ Cond.instanceMethod q.1 ∈ tables_1
theorem lw_p0 : lw_okq (⟨"java/lang/Throwable", "fillInStackTrace", "(I)Ljava/lang/Throwable;"⟩, 6) := ⟨⟨by decide +kernel, by decide +kernel⟩, List.mem_of_getElem? (i := 218) (by decide +kernel), List.mem_of_getElem? (i := 216) (by decide +kernel), List.mem_of_getElem? (i := 217) (by decide +kernel)⟩
theorem lw_p1 : lw_okq (⟨"SettlementFund", "mustHaveNoPayments", "()V"⟩, 9) := ⟨⟨by decide +kernel, by decide +kernel⟩, List.mem_of_getElem? (i := 14) (by decide +kernel), List.mem_of_getElem? (i := 248) (by decide +kernel), List.mem_of_getElem? (i := 249) (by decide +kernel)⟩
theorem lw_p2 : lw_okq (⟨"SettlementFund", "mustBeClaim", "(I)V"⟩, 9) := ⟨⟨by decide +kernel, by decide +kernel⟩, List.mem_of_getElem? (i := 14) (by decide +kernel), List.mem_of_getElem? (i := 345) (by decide +kernel), List.mem_of_getElem? (i := 346) (by decide +kernel)⟩
theorem lw_p3 : lw_okq (⟨"SettlementFund", "mustBeLeast", "(I)V"⟩, 9) := ⟨⟨by decide +kernel, by decide +kernel⟩, List.mem_of_getElem? (i := 14) (by decide +kernel), List.mem_of_getElem? (i := 386) (by decide +kernel), List.mem_of_getElem? (i := 387) (by decide +kernel)⟩
theorem lw_p4 : lw_okq (⟨"SettlementFund", "shareMoneyLeft", "(IZ)V"⟩, 9) := ⟨⟨by decide +kernel, by decide +kernel⟩, List.mem_of_getElem? (i := 14) (by decide +kernel), List.mem_of_getElem? (i := 399) (by decide +kernel), List.mem_of_getElem? (i := 400) (by decide +kernel)⟩
theorem lw_p5 : lw_okq (⟨"SettlementFund", "takesPart", "(I)Z"⟩, 9) := ⟨⟨by decide +kernel, by decide +kernel⟩, List.mem_of_getElem? (i := 14) (by decide +kernel), List.mem_of_getElem? (i := 407) (by decide +kernel), List.mem_of_getElem? (i := 408) (by decide +kernel)⟩
theorem lw_p6 : lw_okq (⟨"SettlementFund$Sharing", "sortByRoomPerPoint", "()V"⟩, 8) := ⟨⟨by decide +kernel, by decide +kernel⟩, List.mem_of_getElem? (i := 81) (by decide +kernel), List.mem_of_getElem? (i := 434) (by decide +kernel), List.mem_of_getElem? (i := 435) (by decide +kernel)⟩
theorem lw_p7 : lw_okq (⟨"SettlementFund$Sharing", "hasLessRoomPerPoint", "(II)Z"⟩, 8) := ⟨⟨by decide +kernel, by decide +kernel⟩, List.mem_of_getElem? (i := 81) (by decide +kernel), List.mem_of_getElem? (i := 438) (by decide +kernel), List.mem_of_getElem? (i := 439) (by decide +kernel)⟩
theorem lw_p8 : lw_okq (⟨"SettlementFund$Sharing", "swapPlaces", "(II)V"⟩, 8) := ⟨⟨by decide +kernel, by decide +kernel⟩, List.mem_of_getElem? (i := 81) (by decide +kernel), List.mem_of_getElem? (i := 442) (by decide +kernel), List.mem_of_getElem? (i := 443) (by decide +kernel)⟩
theorem lw_p9 : lw_okq (⟨"SettlementFund$Sharing", "copyPlace", "(II)V"⟩, 8) := ⟨⟨by decide +kernel, by decide +kernel⟩, List.mem_of_getElem? (i := 81) (by decide +kernel), List.mem_of_getElem? (i := 446) (by decide +kernel), List.mem_of_getElem? (i := 447) (by decide +kernel)⟩
theorem lw_p10 : lw_okq (⟨"SettlementFund$Sharing", "shareOnce", "(IZ)V"⟩, 8) := ⟨⟨by decide +kernel, by decide +kernel⟩, List.mem_of_getElem? (i := 81) (by decide +kernel), List.mem_of_getElem? (i := 450) (by decide +kernel), List.mem_of_getElem? (i := 451) (by decide +kernel)⟩
theorem lw_p11 : lw_okq (⟨"SettlementFund$Sharing", "fillFromFront", "()V"⟩, 8) := ⟨⟨by decide +kernel, by decide +kernel⟩, List.mem_of_getElem? (i := 81) (by decide +kernel), List.mem_of_getElem? (i := 454) (by decide +kernel), List.mem_of_getElem? (i := 455) (by decide +kernel)⟩
theorem lw_p12 : lw_okq (⟨"SettlementFund$Sharing", "reachesRoom", "(IJJ)Z"⟩, 8) := ⟨⟨by decide +kernel, by decide +kernel⟩, List.mem_of_getElem? (i := 81) (by decide +kernel), List.mem_of_getElem? (i := 458) (by decide +kernel), List.mem_of_getElem? (i := 459) (by decide +kernel)⟩
theorem lw_p13 : lw_okq (⟨"SettlementFund$Sharing", "fill", "(I)V"⟩, 8) := ⟨⟨by decide +kernel, by decide +kernel⟩, List.mem_of_getElem? (i := 81) (by decide +kernel), List.mem_of_getElem? (i := 462) (by decide +kernel), List.mem_of_getElem? (i := 463) (by decide +kernel)⟩
theorem lw_p14 : lw_okq (⟨"SettlementFund$Sharing", "fillInLooks", "()V"⟩, 8) := ⟨⟨by decide +kernel, by decide +kernel⟩, List.mem_of_getElem? (i := 81) (by decide +kernel), List.mem_of_getElem? (i := 466) (by decide +kernel), List.mem_of_getElem? (i := 467) (by decide +kernel)⟩
theorem lw_p15 : lw_okq (⟨"SettlementFund$Sharing", "shareRestByPoints", "()V"⟩, 8) := ⟨⟨by decide +kernel, by decide +kernel⟩, List.mem_of_getElem? (i := 81) (by decide +kernel), List.mem_of_getElem? (i := 470) (by decide +kernel), List.mem_of_getElem? (i := 471) (by decide +kernel)⟩
def lw_privs_1 : List (MethodName × Nat) := [(⟨"java/lang/Throwable", "fillInStackTrace", "(I)Ljava/lang/Throwable;"⟩, 6), (⟨"SettlementFund", "mustHaveNoPayments", "()V"⟩, 9), (⟨"SettlementFund", "mustBeClaim", "(I)V"⟩, 9), (⟨"SettlementFund", "mustBeLeast", "(I)V"⟩, 9), (⟨"SettlementFund", "shareMoneyLeft", "(IZ)V"⟩, 9), (⟨"SettlementFund", "takesPart", "(I)Z"⟩, 9), (⟨"SettlementFund$Sharing", "sortByRoomPerPoint", "()V"⟩, 8), (⟨"SettlementFund$Sharing", "hasLessRoomPerPoint", "(II)Z"⟩, 8), (⟨"SettlementFund$Sharing", "swapPlaces", "(II)V"⟩, 8), (⟨"SettlementFund$Sharing", "copyPlace", "(II)V"⟩, 8), (⟨"SettlementFund$Sharing", "shareOnce", "(IZ)V"⟩, 8), (⟨"SettlementFund$Sharing", "fillFromFront", "()V"⟩, 8), (⟨"SettlementFund$Sharing", "reachesRoom", "(IJJ)Z"⟩, 8), (⟨"SettlementFund$Sharing", "fill", "(I)V"⟩, 8), (⟨"SettlementFund$Sharing", "fillInLooks", "()V"⟩, 8), (⟨"SettlementFund$Sharing", "shareRestByPoints", "()V"⟩, 8)]
theorem lw_r1 : ∀ q ∈ lw_privs_1, lw_okq q := List.forall_mem_cons.mpr ⟨lw_p0, List.forall_mem_cons.mpr ⟨lw_p1, List.forall_mem_cons.mpr ⟨lw_p2, List.forall_mem_cons.mpr ⟨lw_p3, List.forall_mem_cons.mpr ⟨lw_p4, List.forall_mem_cons.mpr ⟨lw_p5, List.forall_mem_cons.mpr ⟨lw_p6, List.forall_mem_cons.mpr ⟨lw_p7, List.forall_mem_cons.mpr ⟨lw_p8, List.forall_mem_cons.mpr ⟨lw_p9, List.forall_mem_cons.mpr ⟨lw_p10, List.forall_mem_cons.mpr ⟨lw_p11, List.forall_mem_cons.mpr ⟨lw_p12, List.forall_mem_cons.mpr ⟨lw_p13, List.forall_mem_cons.mpr ⟨lw_p14, List.forall_mem_cons.mpr ⟨lw_p15, fun _ h => absurd h List.not_mem_nil⟩⟩⟩⟩⟩⟩⟩⟩⟩⟩⟩⟩⟩⟩⟩⟩
theorem lw_p16 : lw_okq (⟨"SettlementFund$Sharing", "notFullBelow", "(I)I"⟩, 8) := ⟨⟨by decide +kernel, by decide +kernel⟩, List.mem_of_getElem? (i := 81) (by decide +kernel), List.mem_of_getElem? (i := 474) (by decide +kernel), List.mem_of_getElem? (i := 475) (by decide +kernel)⟩
theorem lw_p17 : lw_okq (⟨"SettlementFund$Sharing", "placeOfSmallest", "()I"⟩, 8) := ⟨⟨by decide +kernel, by decide +kernel⟩, List.mem_of_getElem? (i := 81) (by decide +kernel), List.mem_of_getElem? (i := 478) (by decide +kernel), List.mem_of_getElem? (i := 479) (by decide +kernel)⟩
theorem lw_p18 : lw_okq (⟨"SettlementFund$Sharing", "takeOut", "(I)V"⟩, 8) := ⟨⟨by decide +kernel, by decide +kernel⟩, List.mem_of_getElem? (i := 81) (by decide +kernel), List.mem_of_getElem? (i := 482) (by decide +kernel), List.mem_of_getElem? (i := 483) (by decide +kernel)⟩
theorem lw_p19 : lw_okq (⟨"SettlementFund", "makePayments", "()V"⟩, 9) := ⟨⟨by decide +kernel, by decide +kernel⟩, List.mem_of_getElem? (i := 14) (by decide +kernel), List.mem_of_getElem? (i := 495) (by decide +kernel), List.mem_of_getElem? (i := 496) (by decide +kernel)⟩
theorem lw_p20 : lw_okq (⟨"SettlementFund", "mustBePayment", "(I)V"⟩, 9) := ⟨⟨by decide +kernel, by decide +kernel⟩, List.mem_of_getElem? (i := 14) (by decide +kernel), List.mem_of_getElem? (i := 515) (by decide +kernel), List.mem_of_getElem? (i := 516) (by decide +kernel)⟩
theorem lw_p21 : lw_okq (⟨"SettlementFund", "shareFor", "(IIZ)I"⟩, 9) := ⟨⟨by decide +kernel, by decide +kernel⟩, List.mem_of_getElem? (i := 14) (by decide +kernel), List.mem_of_getElem? (i := 594) (by decide +kernel), List.mem_of_getElem? (i := 595) (by decide +kernel)⟩
theorem lw_p22 : lw_okq (⟨"SettlementFundModel", "goes", "(I)Z"⟩, 22) := ⟨⟨by decide +kernel, by decide +kernel⟩, List.mem_of_getElem? (i := 605) (by decide +kernel), List.mem_of_getElem? (i := 691) (by decide +kernel), List.mem_of_getElem? (i := 692) (by decide +kernel)⟩
theorem lw_p23 : lw_okq (⟨"SettlementFundModel", "left", "()I"⟩, 22) := ⟨⟨by decide +kernel, by decide +kernel⟩, List.mem_of_getElem? (i := 605) (by decide +kernel), List.mem_of_getElem? (i := 695) (by decide +kernel), List.mem_of_getElem? (i := 696) (by decide +kernel)⟩
theorem lw_p24 : lw_okq (⟨"SettlementFundModel", "feeNow", "()I"⟩, 22) := ⟨⟨by decide +kernel, by decide +kernel⟩, List.mem_of_getElem? (i := 605) (by decide +kernel), List.mem_of_getElem? (i := 699) (by decide +kernel), List.mem_of_getElem? (i := 700) (by decide +kernel)⟩
theorem lw_p25 : lw_okq (⟨"SettlementFundModel", "ofPerson", "(I)I"⟩, 22) := ⟨⟨by decide +kernel, by decide +kernel⟩, List.mem_of_getElem? (i := 605) (by decide +kernel), List.mem_of_getElem? (i := 716) (by decide +kernel), List.mem_of_getElem? (i := 717) (by decide +kernel)⟩
theorem lw_p26 : lw_okq (⟨"SettlementFundModel", "isClaim", "(I)Z"⟩, 22) := ⟨⟨by decide +kernel, by decide +kernel⟩, List.mem_of_getElem? (i := 605) (by decide +kernel), List.mem_of_getElem? (i := 724) (by decide +kernel), List.mem_of_getElem? (i := 725) (by decide +kernel)⟩
theorem lw_p27 : lw_okq (⟨"SettlementFundModel", "countOf", "(I)I"⟩, 22) := ⟨⟨by decide +kernel, by decide +kernel⟩, List.mem_of_getElem? (i := 605) (by decide +kernel), List.mem_of_getElem? (i := 736) (by decide +kernel), List.mem_of_getElem? (i := 737) (by decide +kernel)⟩
theorem lw_p28 : lw_okq (⟨"SettlementFundModel", "lays", "(I)V"⟩, 22) := ⟨⟨by decide +kernel, by decide +kernel⟩, List.mem_of_getElem? (i := 605) (by decide +kernel), List.mem_of_getElem? (i := 749) (by decide +kernel), List.mem_of_getElem? (i := 750) (by decide +kernel)⟩
theorem lw_p29 : lw_okq (⟨"SettlementFundModel", "roomOf", "(I)I"⟩, 22) := ⟨⟨by decide +kernel, by decide +kernel⟩, List.mem_of_getElem? (i := 605) (by decide +kernel), List.mem_of_getElem? (i := 753) (by decide +kernel), List.mem_of_getElem? (i := 754) (by decide +kernel)⟩
theorem lw_p30 : lw_okq (⟨"SettlementFundModel", "paid", "(I)I"⟩, 22) := ⟨⟨by decide +kernel, by decide +kernel⟩, List.mem_of_getElem? (i := 605) (by decide +kernel), List.mem_of_getElem? (i := 757) (by decide +kernel), List.mem_of_getElem? (i := 758) (by decide +kernel)⟩
theorem lw_p31 : lw_okq (⟨"SettlementFundModel", "hasVoid", "(I)Z"⟩, 22) := ⟨⟨by decide +kernel, by decide +kernel⟩, List.mem_of_getElem? (i := 605) (by decide +kernel), List.mem_of_getElem? (i := 761) (by decide +kernel), List.mem_of_getElem? (i := 762) (by decide +kernel)⟩
def lw_privs_2 : List (MethodName × Nat) := [(⟨"SettlementFund$Sharing", "notFullBelow", "(I)I"⟩, 8), (⟨"SettlementFund$Sharing", "placeOfSmallest", "()I"⟩, 8), (⟨"SettlementFund$Sharing", "takeOut", "(I)V"⟩, 8), (⟨"SettlementFund", "makePayments", "()V"⟩, 9), (⟨"SettlementFund", "mustBePayment", "(I)V"⟩, 9), (⟨"SettlementFund", "shareFor", "(IIZ)I"⟩, 9), (⟨"SettlementFundModel", "goes", "(I)Z"⟩, 22), (⟨"SettlementFundModel", "left", "()I"⟩, 22), (⟨"SettlementFundModel", "feeNow", "()I"⟩, 22), (⟨"SettlementFundModel", "ofPerson", "(I)I"⟩, 22), (⟨"SettlementFundModel", "isClaim", "(I)Z"⟩, 22), (⟨"SettlementFundModel", "countOf", "(I)I"⟩, 22), (⟨"SettlementFundModel", "lays", "(I)V"⟩, 22), (⟨"SettlementFundModel", "roomOf", "(I)I"⟩, 22), (⟨"SettlementFundModel", "paid", "(I)I"⟩, 22), (⟨"SettlementFundModel", "hasVoid", "(I)Z"⟩, 22)]
theorem lw_r2 : ∀ q ∈ lw_privs_2, lw_okq q := List.forall_mem_cons.mpr ⟨lw_p16, List.forall_mem_cons.mpr ⟨lw_p17, List.forall_mem_cons.mpr ⟨lw_p18, List.forall_mem_cons.mpr ⟨lw_p19, List.forall_mem_cons.mpr ⟨lw_p20, List.forall_mem_cons.mpr ⟨lw_p21, List.forall_mem_cons.mpr ⟨lw_p22, List.forall_mem_cons.mpr ⟨lw_p23, List.forall_mem_cons.mpr ⟨lw_p24, List.forall_mem_cons.mpr ⟨lw_p25, List.forall_mem_cons.mpr ⟨lw_p26, List.forall_mem_cons.mpr ⟨lw_p27, List.forall_mem_cons.mpr ⟨lw_p28, List.forall_mem_cons.mpr ⟨lw_p29, List.forall_mem_cons.mpr ⟨lw_p30, List.forall_mem_cons.mpr ⟨lw_p31, fun _ h => absurd h List.not_mem_nil⟩⟩⟩⟩⟩⟩⟩⟩⟩⟩⟩⟩⟩⟩⟩⟩
theorem lw_p32 : lw_okq (⟨"SettlementFundModel", "shares", "(I)V"⟩, 22) := ⟨⟨by decide +kernel, by decide +kernel⟩, List.mem_of_getElem? (i := 605) (by decide +kernel), List.mem_of_getElem? (i := 765) (by decide +kernel), List.mem_of_getElem? (i := 766) (by decide +kernel)⟩
theorem lw_p33 : lw_okq (⟨"SettlementFundModel", "givesRooms", "(I)I"⟩, 22) := ⟨⟨by decide +kernel, by decide +kernel⟩, List.mem_of_getElem? (i := 605) (by decide +kernel), List.mem_of_getElem? (i := 769) (by decide +kernel), List.mem_of_getElem? (i := 770) (by decide +kernel)⟩
theorem lw_p34 : lw_okq (⟨"SettlementFundModel", "allPoints", "()J"⟩, 22) := ⟨⟨by decide +kernel, by decide +kernel⟩, List.mem_of_getElem? (i := 605) (by decide +kernel), List.mem_of_getElem? (i := 773) (by decide +kernel), List.mem_of_getElem? (i := 774) (by decide +kernel)⟩
theorem lw_p35 : lw_okq (⟨"SettlementFundModel", "isLeft", "(I)Z"⟩, 22) := ⟨⟨by decide +kernel, by decide +kernel⟩, List.mem_of_getElem? (i := 605) (by decide +kernel), List.mem_of_getElem? (i := 777) (by decide +kernel), List.mem_of_getElem? (i := 778) (by decide +kernel)⟩
theorem lw_p36 : lw_okq (⟨"SettlementFundModel", "givesRest", "(I)V"⟩, 22) := ⟨⟨by decide +kernel, by decide +kernel⟩, List.mem_of_getElem? (i := 605) (by decide +kernel), List.mem_of_getElem? (i := 781) (by decide +kernel), List.mem_of_getElem? (i := 782) (by decide +kernel)⟩
theorem lw_p37 : lw_okq (⟨"SettlementFundModel", "lowest", "()I"⟩, 22) := ⟨⟨by decide +kernel, by decide +kernel⟩, List.mem_of_getElem? (i := 605) (by decide +kernel), List.mem_of_getElem? (i := 785) (by decide +kernel), List.mem_of_getElem? (i := 786) (by decide +kernel)⟩
theorem lw_p38 : lw_okq (⟨"SettlementFundModel", "isOpen", "()Z"⟩, 22) := ⟨⟨by decide +kernel, by decide +kernel⟩, List.mem_of_getElem? (i := 605) (by decide +kernel), List.mem_of_getElem? (i := 789) (by decide +kernel), List.mem_of_getElem? (i := 790) (by decide +kernel)⟩
theorem lw_p39 : lw_okq (⟨"SettlementFundModel", "isPayment", "(I)Z"⟩, 22) := ⟨⟨by decide +kernel, by decide +kernel⟩, List.mem_of_getElem? (i := 605) (by decide +kernel), List.mem_of_getElem? (i := 797) (by decide +kernel), List.mem_of_getElem? (i := 798) (by decide +kernel)⟩
theorem lw_p40 : lw_okq (⟨"SettlementFundModel", "asks", "(I)Z"⟩, 22) := ⟨⟨by decide +kernel, by decide +kernel⟩, List.mem_of_getElem? (i := 605) (by decide +kernel), List.mem_of_getElem? (i := 817) (by decide +kernel), List.mem_of_getElem? (i := 818) (by decide +kernel)⟩
theorem lw_p41 : lw_okq (⟨"SettlementFundModel", "asksPayment", "(I)Z"⟩, 22) := ⟨⟨by decide +kernel, by decide +kernel⟩, List.mem_of_getElem? (i := 605) (by decide +kernel), List.mem_of_getElem? (i := 853) (by decide +kernel), List.mem_of_getElem? (i := 854) (by decide +kernel)⟩
theorem lw_p42 : lw_okq (⟨"SettlementFundModel", "shareNow", "(II)I"⟩, 22) := ⟨⟨by decide +kernel, by decide +kernel⟩, List.mem_of_getElem? (i := 605) (by decide +kernel), List.mem_of_getElem? (i := 869) (by decide +kernel), List.mem_of_getElem? (i := 870) (by decide +kernel)⟩
def lw_privs_3 : List (MethodName × Nat) := [(⟨"SettlementFundModel", "shares", "(I)V"⟩, 22), (⟨"SettlementFundModel", "givesRooms", "(I)I"⟩, 22), (⟨"SettlementFundModel", "allPoints", "()J"⟩, 22), (⟨"SettlementFundModel", "isLeft", "(I)Z"⟩, 22), (⟨"SettlementFundModel", "givesRest", "(I)V"⟩, 22), (⟨"SettlementFundModel", "lowest", "()I"⟩, 22), (⟨"SettlementFundModel", "isOpen", "()Z"⟩, 22), (⟨"SettlementFundModel", "isPayment", "(I)Z"⟩, 22), (⟨"SettlementFundModel", "asks", "(I)Z"⟩, 22), (⟨"SettlementFundModel", "asksPayment", "(I)Z"⟩, 22), (⟨"SettlementFundModel", "shareNow", "(II)I"⟩, 22)]
theorem lw_r3 : ∀ q ∈ lw_privs_3, lw_okq q := List.forall_mem_cons.mpr ⟨lw_p32, List.forall_mem_cons.mpr ⟨lw_p33, List.forall_mem_cons.mpr ⟨lw_p34, List.forall_mem_cons.mpr ⟨lw_p35, List.forall_mem_cons.mpr ⟨lw_p36, List.forall_mem_cons.mpr ⟨lw_p37, List.forall_mem_cons.mpr ⟨lw_p38, List.forall_mem_cons.mpr ⟨lw_p39, List.forall_mem_cons.mpr ⟨lw_p40, List.forall_mem_cons.mpr ⟨lw_p41, List.forall_mem_cons.mpr ⟨lw_p42, fun _ h => absurd h List.not_mem_nil⟩⟩⟩⟩⟩⟩⟩⟩⟩⟩⟩
def lw_privs : List (MethodName × Nat) := lw_privs_1 ++ (lw_privs_2 ++ (lw_privs_3))
def lw_tbl : List Cond := k2_sels lw_privs ++ tables_1
theorem lw_privs_ok : ∀ q ∈ lw_privs, lw_okq q := by
  show ∀ q ∈ lw_privs_1 ++ (lw_privs_2 ++ (lw_privs_3)), lw_okq q
  exact List.forall_mem_append.mpr ⟨lw_r1, List.forall_mem_append.mpr ⟨lw_r2, lw_r3⟩⟩
end
section
/-! ===== BEGIN words of one list among another's, by their places ===== -/
theorem goodIn_r {big : List Cond} (ws : List Cond) (ps : List Nat) (hp : ws = ps.filterMap (fun i => big[i]?)) (h : ws.all goodWord = true) : GoodIn big ws := by
  intro w hw
  have h1 := List.all_eq_true.mp h w hw
  rw [hp] at hw
  obtain ⟨i, -, hi⟩ := List.mem_filterMap.mp hw
  have hm : w ∈ big := by first | exact List.mem_of_getElem? hi | exact List.getElem?_mem hi
  exact ⟨hm, good_of_word h1⟩
theorem goodIn_app {big a b : List Cond} (ha : GoodIn big a) (hb : GoodIn big b) : GoodIn big (a ++ b) := fun w h => (List.mem_append.mp h).elim (ha w) (hb w)
theorem goodIn_ca {big a b : List Cond} {c : Cond} (ha : GoodIn big (c :: a)) (hb : GoodIn big b) : GoodIn big (c :: (a ++ b)) := fun w h => (List.mem_cons.mp h).elim (fun e => ha w (List.mem_cons.mpr (Or.inl e))) (fun h => (List.mem_append.mp h).elim (fun h => ha w (List.mem_cons.mpr (Or.inr h))) (hb w))
theorem goodIn_sub {big ws : List Cond} (hm : ∀ w ∈ ws, w ∈ big) (h : ws.all goodWord = true) : GoodIn big ws := fun w hw => ⟨hm w hw, good_of_word (List.all_eq_true.mp h w hw)⟩
/-! ===== END ===== -/

/-! ===== BEGIN exceptions that leave a method, and their catching by the caller (launches without stack traces) ===== -/
section VXA
/-! The laws vx_back, vx_callV, vx_callS, vx_callSW, vx_throw0, vx_throwS follow proofs of the library, with one case more: JvmDerived/Free/Laws.lean (Back.of_free), Shelf42/LK1.lean (callV, callS), Shelf/KitTraced.lean (throwNew0V, throwNewS). -/
/-- where a method has thrown q: the class by its name, the cell, what was written, the world -/
def vx_T (XC : String → State → State → Prop) (st : State) (q : Addr) (t : State) (mc ms : Nat) (free : Addr → Prop) : Prop :=
  ∃ (E : String) (ce : Cell) (L : List Loc), XC E st t ∧ t.heap[q]? = some ce ∧ ce.vm = .none ∧ st.vm.findClass E = some ce.cls ∧ st.WarmedH t.vm ∧ st.sameButNew ({ t with vm := st.vm } : State) L mc ms ∧ ∀ z ∈ L, free z.base
def vx_Q (Qc : Array Value → State → Outcome → State → Prop) (XC : String → State → State → Prop) (mc ms : Nat) (free : Addr → Prop) : Array Value → State → Outcome → State → Prop := fun a st o t =>
  (Qc a st o t ∧ ∃ L, FrameEnd st o t L mc ms ∧ ∀ q ∈ L, free q.base) ∨ ∃ q, o = .threw q ∧ vx_T XC st q t mc ms free
/-- a callee that returns or throws -/
def vx_Met (l : Launch) (y : MethodName) (ws : List Cond) (rm : Room) (Pc : Array Value → State → Prop) (Qc : Array Value → State → Outcome → State → Prop) (XC : String → State → State → Prop) (mc ms : Nat) (free : Addr → Prop) : Prop :=
  MetFree l y (headSpec ws rm) Pc (fun _ _ _ _ _ => True) (vx_Q Qc XC mc ms free)
def vx_Post (XC : String → State → State → Prop) (mc ms : Nat) (free : Addr → Prop) : Pt → Array Value → Addr → Pt → Prop := fun A a q B =>
  ∃ (g : JFrame) (mk : MethodId) (t : State) (L : List Loc) (E : String) (ce : Cell), B.U.heap = t.heap ∧ B.U.vm = t.vm ∧ XC E (A.U.calling g mk a) t ∧ t.heap[q]? = some ce ∧ ce.vm = .none ∧ A.U.vm.findClass E = some ce.cls ∧ B.locs = A.locs ++ L ∧ (∀ z ∈ L, free z.base) ∧ B.cells = A.cells + mc ∧ B.slots = A.slots + ms
def vx_Back (l : Launch) (R : Room) (p : Program) (e : Env) (below : List Frame) (s : State) (sargs : Array Value) (y : MethodName) (len W9 : Nat)
    (Pre : Pt → Array Value → Prop) (Post : Pt → Array Value → Option Value → Pt → Prop) (PostX : Pt → Array Value → Addr → Pt → Prop) : Prop :=
  ∀ (m : MethodId) (meth : Method) (c : Code) (A : Pt) (g : JFrame) (ig : Instr) (mk : MethodId) (a : Array Value),
    Stand p l e R s m sargs below meth c A.U A.locs A.cells A.slots → g.method = m → g.locals.size = c.maxLocals → decode c.code g.pc = .ok (ig, len) →
    2 * g.monitorRoom + (g.stack.map fun v => v.category).sum ≤ W9 → A.U.methodNamed? y = some mk → Pre A a →
    (∃ (v : Option Value) (B : Pt), Stand p l e R s m sargs below meth c B.U B.locs B.cells B.slots ∧ Post A a v B ∧
      Steps p.tables e below (doInvoke e (A.U.setTop g) [] mk a).1 (B.U.setTop { g with pc := g.pc + len, stack := v.toList ++ g.stack })) ∨
    (∃ (q : Addr) (B : Pt), Stand p l e R s m sargs below meth c B.U B.locs B.cells B.slots ∧ PostX A a q B ∧
      Steps p.tables e below (doInvoke e (A.U.setTop g) [] mk a).1 ((B.U.setTop g).pushFrame (.throwing q)))
section Payer
variable {l : Launch} {R : Room} {p : Program} {e : Env} {below : List Frame} {s : State} {sargs : Array Value} {y : MethodName} {len W9 : Nat}
theorem vx_back {ws : List Cond} {rm : Room} {Pc : Array Value → State → Prop} {Qc : Array Value → State → Outcome → State → Prop} {XC : String → State → State → Prop} {mc ms : Nat} {free : Addr → Prop} {bytes : ByteArray} {maxL : Nat} {ret : Option FieldType}
    (hM : vx_Met l y ws rm Pc Qc XC mc ms free) (hblind : FrameBlind Pc) (hrc : rm.cells = mc) (hrs : rm.slots = ms)
    (hframes : rm.frames + 1 ≤ R.frames) (hlocals : W9 + (maxL + 11) + rm.locals ≤ R.locals)
    (hws : ∀ w ∈ ws, ∀ a' U, s.WarmedH U.vm → w.before a' U = true) (hcode : Cond.code y bytes maxL ret ∈ ws) (hinit : ∀ a' U, s.WarmedH U.vm → (Cond.initialized y.cls).before a' U = true) :
    vx_Back l R p e below s sargs y len W9 (PreOf R mc ms Pc) (PostOf Qc mc ms free) (vx_Post XC mc ms free) := by
  intro m meth c A g ig mk a X hg hsize hdg hW hn hp
  have h1 : (headSpec ws rm).pre.before a A.U = true := atoms_intro fun w hw => hws w hw _ _ X.warmed
  have h2 : (Cond.code y bytes maxL ret).before a A.U = true := hws _ hcode _ _ X.warmed
  have h3 : (Cond.initialized y.cls).before a A.U = true := hinit _ _ X.warmed
  have h4 : A.cells + (headSpec ws rm).room.cells ≤ R.cells := by rw [show (headSpec ws rm).room.cells = mc from hrc]; exact hp.1
  have h5 : A.slots + (headSpec ws rm).room.slots ≤ R.slots := by rw [show (headSpec ws rm).room.slots = ms from hrs]; exact hp.2.1
  have hPc : Pc a (A.U.calling g mk a) := hblind _ _ _ _ hp.2.2
  obtain ⟨U, Ls, c0, s0⟩ := A
  dsimp only [Pt.U, Pt.locs, Pt.cells, Pt.slots] at h1 h2 h3 h4 h5 X hn hPc ⊢
  obtain ⟨methY, cY, hmY, hcY, -, hlY, -, -, -, -⟩ := Cond.code_spec hn h2
  obtain ⟨kY, hkY, -⟩ := className_of_methodNamed hn
  have hinitY : kY.init = .initialized := Cond.initialized_spec (findClass_of_methodNamed hn) hkY h3
  have h : At U g.method c below := by rw [hg]; exact X.here
  have hlocals9 : W9 + (maxL + 11) + (headSpec ws rm).room.locals ≤ R.locals := hlocals
  have happ : (headSpec ws rm).appliesLoose y e.platform (U.calling g mk a) = true :=
    Spec.appliesLoose_calling (g := g) h hdg hn hkY hinitY
      (X.room_calling (g := g) (R' := (headSpec ws rm).room) hsize hmY hcY hframes (by rw [hlY]; omega) h4 h5) h1
  obtain ⟨mid, hmid⟩ := h.above
  have hfr : (U.setTop g).frames = (.java g :: mid) ++ below := by rw [State.frames_setTop' g h.top, hmid]; rfl
  obtain ⟨o, s₂, hsteps, -, hend, hq⟩ := Steps.callFree hM p X.admits X.cas X.clock (acts := []) hfr happ hPc trivial
  have hq' : vx_Q Qc XC mc ms free a (U.calling g mk a) o s₂ := hq
  rw [State.frames_setTop' g h.top] at hend
  obtain ⟨g₀, hg0⟩ := Option.isSome_iff_exists.mp h.top
  obtain ⟨r, hr⟩ := State.topJava?_eq_some.mp hg0
  have hr' : (({ U with heap := s₂.heap, slotsUsed := s₂.slotsUsed } : State).setVm s₂.vm).frames = .java g₀ :: r := hr
  rcases hq' with ⟨hqc, L, hfe, hL⟩ | ⟨q, rfl, E, ce, L, hx, hce, hcv, hcl, hW₂, hsm, hL⟩
  · obtain ⟨⟨v, rfl⟩, hW₂, e2, q2, q3, q4, q5, q6⟩ := id hfe
    have e3 : s₂ = ({ (U.calling g mk a).setFrames s₂.frames with heap := s₂.heap, slotsUsed := s₂.slotsUsed } : State).setVm s₂.vm := by
      have : s₂ = ({ s₂ with vm := (U.calling g mk a).vm } : State).setVm s₂.vm := rfl
      rw [e2] at this
      exact this
    obtain ⟨c₂, i₂, len₂, hc₂, hd₂, hf₂⟩ := hend
    have hW' : U.WarmedH s₂.vm := hW₂
    have hcc : c₂ = c := by
      have h1 : s₂.code? g.method = U.code? g.method := by
        rw [State.code?_eq, State.code?_eq, hW'.alike.method?]
      exact Option.some.inj (hc₂.symm.trans (h1.trans h.code))
    subst hcc
    have hlen : len₂ = len := by rw [hdg] at hd₂; cases hd₂; rfl
    subst hlen
    have hs₂ : s₂ = (({ U with heap := s₂.heap, slotsUsed := s₂.slotsUsed } : State).setVm s₂.vm).setTop { g with pc := g.pc + len₂, stack := v.toList ++ g.stack } := by
      refine e3.trans ?_
      rw [hf₂, State.calling_eq h.top, State.setFrames_setFrames, State.setTop_of_frames _ hr', hr]
      rfl
    have hsame : U.sameButNew ({ U with heap := s₂.heap, slotsUsed := s₂.slotsUsed } : State) L mc ms := by
      refine ⟨?_, q2, q3, q4, q5, q6⟩
      obtain ⟨t, ht, -⟩ := State.frames_cons hr
      show ({ U with heap := s₂.heap, slotsUsed := s₂.slotsUsed } : State) = { U.setFrames U.frames with heap := s₂.heap, slotsUsed := s₂.slotsUsed }
      rw [State.setFrames_self ht]
    subst hg
    refine Or.inl ⟨v, ⟨(({ U with heap := s₂.heap, slotsUsed := s₂.slotsUsed } : State).setVm s₂.vm), Ls ++ L, c0 + mc, s0 + ms⟩,
      ⟨X.admits, X.cas, X.clock, X.frames, X.room, X.hears, X.method, X.code, (X.here.setHeapUsed s₂.heap s₂.slotsUsed).setVm hW'.alike, X.tail, State.WarmedH.trans X.warmed hW', X.limits, X.bytes, X.same.trans (hsame.setVm s.vm)⟩,
      ⟨g, mk, s₂, L, rfl, rfl, hqc, rfl, hL, rfl, rfl⟩, ?_⟩
    show Steps p.tables e below _ ((({ U with heap := s₂.heap, slotsUsed := s₂.slotsUsed } : State).setVm s₂.vm).setTop { g with pc := g.pc + len₂, stack := v.toList ++ g.stack })
    rw [← hs₂]
    exact hsteps
  · obtain ⟨e2, q2, q3, q4, q5, q6⟩ := id hsm
    have e3 : s₂ = ({ (U.calling g mk a).setFrames s₂.frames with heap := s₂.heap, slotsUsed := s₂.slotsUsed } : State).setVm s₂.vm := by
      have : s₂ = ({ s₂ with vm := (U.calling g mk a).vm } : State).setVm s₂.vm := rfl
      rw [e2] at this
      exact this
    have hf₂ : s₂.frames = .throwing q :: .java g :: U.frames.tail := hend
    have hW' : U.WarmedH s₂.vm := hW₂
    have hs₂ : s₂ = ((({ U with heap := s₂.heap, slotsUsed := s₂.slotsUsed } : State).setVm s₂.vm).setTop g).pushFrame (.throwing q) := by
      refine e3.trans ?_
      rw [hf₂, State.calling_eq h.top, State.setFrames_setFrames, State.pushFrame, State.frames_setTop _ hr', State.setTop_of_frames _ hr', State.setFrames_setFrames, hr]
      rfl
    have hsame : U.sameButNew ({ U with heap := s₂.heap, slotsUsed := s₂.slotsUsed } : State) L mc ms := by
      refine ⟨?_, q2, q3, q4, q5, q6⟩
      obtain ⟨t, ht, -⟩ := State.frames_cons hr
      show ({ U with heap := s₂.heap, slotsUsed := s₂.slotsUsed } : State) = { U.setFrames U.frames with heap := s₂.heap, slotsUsed := s₂.slotsUsed }
      rw [State.setFrames_self ht]
    subst hg
    refine Or.inr ⟨q, ⟨(({ U with heap := s₂.heap, slotsUsed := s₂.slotsUsed } : State).setVm s₂.vm), Ls ++ L, c0 + mc, s0 + ms⟩,
      ⟨X.admits, X.cas, X.clock, X.frames, X.room, X.hears, X.method, X.code, (X.here.setHeapUsed s₂.heap s₂.slotsUsed).setVm hW'.alike, X.tail, State.WarmedH.trans X.warmed hW', X.limits, X.bytes, X.same.trans (hsame.setVm s.vm)⟩,
      ⟨g, mk, s₂, L, E, ce, rfl, rfl, hx, hce, hcv, hcl, rfl, hL, rfl, rfl⟩, ?_⟩
    show Steps p.tables e below _ (((({ U with heap := s₂.heap, slotsUsed := s₂.slotsUsed } : State).setVm s₂.vm).setTop g).pushFrame (.throwing q))
    rw [← hs₂]
    exact hsteps
end Payer
section Calls
variable {p : Program} {l : Launch} {e : Env} {R : Room} {s : State} {m : MethodId} {args : Array Value} {below : List Frame} {meth : Method} {c : Code} {T : State} {locs : List Loc} {cells slots : Nat}
theorem vx_callV (X : Stand p l e R s m args below meth c T locs cells slots) (hexec : p.tables.exec = Jvm.exec) {own C : String} {index : Nat} {y : MethodName} {bytes : ByteArray} {maxL : Nat} {ret : Option FieldType}
    (hown : s.vm.findClass own = some m.cls) (hlink : (Cond.methodLink own index y).before args s = true) (hinst : (Cond.instanceMethod y).before args s = true) (hsel : (Cond.selects C y y).before args s = true)
    (hcode : (Cond.code y bytes maxL ret).before args s = true) (hy : y.cls ≠ "java/lang/invoke/MethodHandle" ∧ y.cls ≠ "java/lang/invoke/VarHandle")
    {W9 : Nat} {Pre : Pt → Array Value → Prop} {Post : Pt → Array Value → Option Value → Pt → Prop} {PostX : Pt → Array Value → Addr → Pt → Prop} (hK : vx_Back l R p e below s args y 3 W9 Pre Post PostX)
    {b : Addr} {cellB : Cell} (hcell : T.heap[b]? = some cellB) (hobj : cellB.vm.isStatics = false) (hcls : s.vm.findClass C = some cellB.cls)
    {g : JFrame} (hg : g.method = m) (hsize : g.locals.size = c.maxLocals) {argsL rest : List Value} (hlen : ∀ sig, parseMethodDescriptor y.desc = some sig → argsL.length = sig.parameters.length)
    (hstack : g.stack = argsL.reverse ++ .ref b :: rest) (hW : 2 * g.monitorRoom + (rest.map fun v => v.category).sum ≤ W9) (hdg : decode c.code g.pc = .ok (.invokevirtual index, 3))
    (hpre : ∀ vm₁, s.WarmedH vm₁ → Pre ⟨T.setVm vm₁, locs, cells, slots⟩ (Value.ref b :: argsL).toArray) :
    (∃ (v : Option Value) (vm₁ : Vm) (B : Pt), s.WarmedH vm₁ ∧ Stand p l e R s m args below meth c B.U B.locs B.cells B.slots ∧ Post ⟨T.setVm vm₁, locs, cells, slots⟩ (Value.ref b :: argsL).toArray v B ∧
      ∀ target, Steps p.tables e below (B.U.setTop { g with pc := g.pc + 3, stack := v.toList ++ rest }) target → Steps p.tables e below (T.setTop g) target) ∨
    (∃ (q : Addr) (vm₁ : Vm) (B : Pt), s.WarmedH vm₁ ∧ Stand p l e R s m args below meth c B.U B.locs B.cells B.slots ∧ PostX ⟨T.setVm vm₁, locs, cells, slots⟩ (Value.ref b :: argsL).toArray q B ∧
      Steps p.tables e below (T.setTop g) ((B.U.setTop { g with stack := rest }).pushFrame (.throwing q))) := by
  obtain ⟨mk, methM, hnamed, hmethM, hstM, habM⟩ := Cond.instanceMethod_spec hinst
  obtain ⟨methM', cM, hmethM', -, -, -, -, -, -, hsigM⟩ := Cond.code_spec hnamed hcode
  cases hmethM.symm.trans hmethM'
  obtain ⟨c2, r2, m2, q1, q2, q3, q4, kP, hkP, hkPi⟩ := Cond.selects_spec hsel
  cases hcls.symm.trans q1
  cases (State.methodFound?_of_named hnamed hy).symm.trans q2
  cases hnamed.symm.trans q3
  have hselP : selectMethod e.platform s.vm cellB.cls mk = .method mk := by rw [Launch.admits_selectMethod X.admits]; exact q4
  obtain ⟨vm₁, X₁, hstep₁⟩ := X.invokevirtual hexec hown hlink hnamed hmethM hstM hkP hkPi hy (a := b) (cell := cellB) hcell
    (fun z h => by rw [h] at hobj; cases hobj) hselP hmethM habM hkP hkPi (g := g) hg (argsL := argsL) (rest := rest) (hlen _ hsigM) hstack hdg
  rcases hK m meth c ⟨T.setVm vm₁, locs, cells, slots⟩ { g with stack := rest } (.invokevirtual index) mk (Value.ref b :: argsL).toArray X₁ hg hsize hdg hW (X₁.named hnamed) (hpre vm₁ X₁.warmed) with ⟨v, B, X', hpost, hsteps⟩ | ⟨q, B, X', hpost, hsteps⟩
  · exact Or.inl ⟨v, vm₁, B, X₁.warmed, X', hpost, fun target h => hstep₁ _ fun acts => by rw [doInvoke_state]; exact hsteps.trans h⟩
  · exact Or.inr ⟨q, vm₁, B, X₁.warmed, X', hpost, hstep₁ _ fun acts => by rw [doInvoke_state]; exact hsteps⟩
theorem vx_callS (X : Stand p l e R s m args below meth c T locs cells slots) (hexec : p.tables.exec = Jvm.exec) {own : String} {index : Nat} {y : MethodName} {bytes : ByteArray} {maxL : Nat} {ret : Option FieldType}
    (hown : s.vm.findClass own = some m.cls) (hlink : (Cond.methodLink own index y).before args s = true) (hstat : (Cond.static y).before args s = true) (hinit : (Cond.initialized y.cls).before args s = true)
    (hcode : (Cond.code y bytes maxL ret).before args s = true) (hy : y.cls ≠ "java/lang/invoke/MethodHandle" ∧ y.cls ≠ "java/lang/invoke/VarHandle")
    {W9 : Nat} {Pre : Pt → Array Value → Prop} {Post : Pt → Array Value → Option Value → Pt → Prop} {PostX : Pt → Array Value → Addr → Pt → Prop} (hK : vx_Back l R p e below s args y 3 W9 Pre Post PostX)
    {g : JFrame} (hg : g.method = m) (hsize : g.locals.size = c.maxLocals) {argsL rest : List Value} (hlen : ∀ sig, parseMethodDescriptor y.desc = some sig → argsL.length = sig.parameters.length)
    (hstack : g.stack = argsL.reverse ++ rest) (hW : 2 * g.monitorRoom + (rest.map fun v => v.category).sum ≤ W9) (hdg : decode c.code g.pc = .ok (.invokestatic index, 3))
    (hpre : ∀ vm₁, s.WarmedH vm₁ → Pre ⟨T.setVm vm₁, locs, cells, slots⟩ argsL.toArray) :
    (∃ (v : Option Value) (vm₁ : Vm) (B : Pt), s.WarmedH vm₁ ∧ Stand p l e R s m args below meth c B.U B.locs B.cells B.slots ∧ Post ⟨T.setVm vm₁, locs, cells, slots⟩ argsL.toArray v B ∧
      ∀ target, Steps p.tables e below (B.U.setTop { g with pc := g.pc + 3, stack := v.toList ++ rest }) target → Steps p.tables e below (T.setTop g) target) ∨
    (∃ (q : Addr) (vm₁ : Vm) (B : Pt), s.WarmedH vm₁ ∧ Stand p l e R s m args below meth c B.U B.locs B.cells B.slots ∧ PostX ⟨T.setVm vm₁, locs, cells, slots⟩ argsL.toArray q B ∧
      Steps p.tables e below (T.setTop g) ((B.U.setTop { g with stack := rest }).pushFrame (.throwing q))) := by
  obtain ⟨mk, hnamed⟩ := Cond.code_named hcode
  obtain ⟨methM, cM, hmethM, -, -, -, -, -, -, hsigM⟩ := Cond.code_spec hnamed hcode
  have hstatic : methM.isStatic = true := Cond.static_spec hnamed hmethM hstat
  obtain ⟨kP, hkP, -⟩ := className_of_methodNamed hnamed
  have hinitP : kP.init = .initialized := Cond.initialized_spec (findClass_of_methodNamed hnamed) hkP hinit
  obtain ⟨vm₁, X₁, hstep₁⟩ := X.invokestatic hexec hown hlink hnamed hmethM hstatic hkP hinitP hy (g := g) hg (argsL := argsL) (rest := rest) (hlen _ hsigM) hstack hdg
  rcases hK m meth c ⟨T.setVm vm₁, locs, cells, slots⟩ { g with stack := rest } (.invokestatic index) mk argsL.toArray X₁ hg hsize hdg hW (X₁.named hnamed) (hpre vm₁ X₁.warmed) with ⟨v, B, X', hpost, hsteps⟩ | ⟨q, B, X', hpost, hsteps⟩
  · exact Or.inl ⟨v, vm₁, B, X₁.warmed, X', hpost, fun target h => hstep₁ _ fun acts => by rw [doInvoke_state]; exact hsteps.trans h⟩
  · exact Or.inr ⟨q, vm₁, B, X₁.warmed, X', hpost, hstep₁ _ fun acts => by rw [doInvoke_state]; exact hsteps⟩
end Calls
theorem vx_cls {s : State} {T : State} {vm₁ : Vm} {E : String} {k : ClassId} (hW : s.WarmedH vm₁) (h : (T.setVm vm₁).vm.findClass E = some k) : s.vm.findClass E = some k := by
  have h1 : vm₁.findClass E = some k := h
  rw [hW.alike.findClass] at h1
  exact h1
/-- the method's frame g, with q thrown over it -/
def vx_W (p : Program) (l : Launch) (e : Env) (R : Room) (s : State) (m : MethodId) (args : Array Value) (below : List Frame) (meth : Method) (c : Code) (H : Heap) (locs : List Loc) (cells slots : Nat) (Q : State → Prop) (g : JFrame) (q : Addr) : Prop :=
  ∀ T : State, T.heap = H → Stand p l e R s m args below meth c T locs cells slots → ∃ t, Steps p.tables e below ((T.setTop g).pushFrame (.throwing q)) t ∧ Q t
def vx_Run (p : Program) (l : Launch) (e : Env) (R : Room) (s : State) (m : MethodId) (args : Array Value) (below : List Frame) (meth : Method) (c : Code) (H : Heap) (locs : List Loc) (cells slots mc ms : Nat) (g : JFrame) (rest : List Value) (Qa : State → Outcome → State → Prop) (XC : String → State → State → Prop) (free : Addr → Prop) : Prop :=
  ∀ T : State, T.heap = H → Stand p l e R s m args below meth c T locs cells slots →
    (∃ (v : Option Value) (st₀ t T' : State) (L : List Loc), st₀.heap = H ∧ Stand p l e R s m args below meth c T' (locs ++ L) (cells + mc) (slots + ms) ∧ (∀ q ∈ L, free q.base) ∧ T'.heap = t.heap ∧ T'.vm = t.vm ∧ Qa st₀ (.returned v) t ∧
      Goes p e below T g T' { g with pc := g.pc + 3, stack := v.toList ++ rest }) ∨
    (∃ (q : Addr) (st₀ t T' : State) (L : List Loc) (E : String) (ce : Cell), st₀.heap = H ∧ Stand p l e R s m args below meth c T' (locs ++ L) (cells + mc) (slots + ms) ∧ (∀ z ∈ L, free z.base) ∧ T'.heap = t.heap ∧ T'.vm = t.vm ∧ XC E st₀ t ∧ t.heap[q]? = some ce ∧ ce.vm = .none ∧ s.vm.findClass E = some ce.cls ∧
      Steps p.tables e below (T.setTop g) ((T'.setTop { g with stack := rest }).pushFrame (.throwing q)))
def vx_X {S : Type} (px : S → Prop) (B : String → S → State → Prop) (A : Nat → Prop) : String → State → State → Prop := fun E st t => ∃ u : S, px u ∧ B E u t ∧ va_F A st t
section Runs
variable {p : Program} {l : Launch} {e : Env} {R : Room} {s : State} {m : MethodId} {args : Array Value} {below : List Frame} {meth : Method} {c : Code} {H : Heap} {locs : List Loc} {cells slots : Nat}
variable {y : MethodName} {bytes cc : ByteArray} {maxL nL mc ms n index : Nat} {ret : Option FieldType} {ws : List Cond} {rm : Room} {Pc : Array Value → State → Prop} {Qc : Array Value → State → Outcome → State → Prop} {XC : String → State → State → Prop} {free : Addr → Prop} {Ts : List Cond} {own C : String} {b : Addr} {As rest : List Value} {g : JFrame}
theorem vx_callBack (cb : CallB R s args own index y bytes maxL ret ws rm mc ms n) (hM : vx_Met l y ws rm Pc Qc XC mc ms free) (hbl : FrameBlind Pc) : vx_Back l R p e below s args y 3 8 (PreOf R mc ms Pc) (PostOf Qc mc ms free) (vx_Post XC mc ms free) := by
  obtain ⟨hrc, hrs, hfr, hlo, hws, hcw, -, hini, -⟩ := cb
  exact vx_back (bytes := bytes) (maxL := maxL) (ret := ret) hM hbl hrc hrs hfr hlo hws hcw (fun a' U hW => word_at hW (Or.inl (by first | rfl | simp [Cond.onTables, Cond.keeps, Cond.steady])) hini)
theorem vx_runV (S : CallFix p m c cc nL s args Ts own) (hM : vx_Met l y ws rm Pc Qc XC mc ms free) (cw : CallW R s args own C index y bytes maxL ret ws rm mc ms n) (hp : PreV s H C b Pc As)
    (hg : g.method = m) (hn : As.length = n) (hsize : g.locals.size = nL) (hstack : g.stack = As.reverse ++ .ref b :: rest) (hW : 2 * g.monitorRoom + (rest.map fun v => v.category).sum ≤ 8) (hdg : decode cc g.pc = .ok (.invokevirtual index, 3)) (hf : cells + mc ≤ R.cells ∧ slots + ms ≤ R.slots) :
    vx_Run p l e R s m args below meth c H locs cells slots mc ms g rest (Qc (Value.ref b :: As).toArray) XC free := by
  have hK : vx_Back l R p e below s args y 3 8 (PreOf R mc ms Pc) (PostOf Qc mc ms free) (vx_Post XC mc ms free) := vx_callBack cw.1 hM hp.1
  obtain ⟨⟨-, -, -, -, -, -, hcode, -, hy, hlen, hl⟩, hin, hse⟩ := cw
  obtain ⟨hx, hb, hml, ho, -⟩ := S
  obtain ⟨-, ⟨cellB, hcB, hoB, hclB⟩, hPc⟩ := hp
  intro T hT X
  rcases vx_callV X hx (C := C) (bytes := bytes) (maxL := maxL) (ret := ret) ho hl hin hse hcode hy hK (by rw [hT]; exact hcB) hoB hclB hg (hsize.trans hml.symm) (argsL := As) (rest := rest) (fun sig h => hn.trans (hlen sig h)) hstack hW (by rw [hb]; exact hdg)
    (fun vm₁ hW₁ => ⟨hf.1, hf.2, hPc (T.setVm vm₁) hT hW₁⟩) with ⟨v, vm₁, ⟨U', l2, c2, s2⟩, hW₁, X', ⟨g', mk, t, L, e1, e2, hq, h1, hL, h2, h3⟩, st⟩ | ⟨q, vm₁, ⟨U', l2, c2, s2⟩, hW₁, X', ⟨g', mk, t, L, E, ce, e1, e2, hq, hce, hcv, hcl, h1, hL, h2, h3⟩, st⟩
  · dsimp only [Pt.U, Pt.locs, Pt.cells, Pt.slots] at X' e1 e2 h1 h2 h3 st
    subst h1; subst h2; subst h3
    exact Or.inl ⟨v, (T.setVm vm₁).calling g' mk (Value.ref b :: As).toArray, t, U', L, hT, X', hL, e1, e2, hq, st⟩
  · dsimp only [Pt.U, Pt.locs, Pt.cells, Pt.slots] at X' e1 e2 h1 h2 h3 st hcl
    subst h1; subst h2; subst h3
    exact Or.inr ⟨q, (T.setVm vm₁).calling g' mk (Value.ref b :: As).toArray, t, U', L, E, ce, hT, X', hL, e1, e2, hq, hce, hcv, vx_cls hW₁ hcl, st⟩
theorem vx_runS (S : CallFix p m c cc nL s args Ts own) (hM : vx_Met l y ws rm Pc Qc XC mc ms free) (cw : CallB R s args own index y bytes maxL ret ws rm mc ms n ∧ (Cond.static y).before args s = true) (hp : PreS s H Pc As)
    (hg : g.method = m) (hn : As.length = n) (hsize : g.locals.size = nL) (hstack : g.stack = As.reverse ++ rest) (hW : 2 * g.monitorRoom + (rest.map fun v => v.category).sum ≤ 8) (hdg : decode cc g.pc = .ok (.invokestatic index, 3)) (hf : cells + mc ≤ R.cells ∧ slots + ms ≤ R.slots) :
    vx_Run p l e R s m args below meth c H locs cells slots mc ms g rest (Qc As.toArray) XC free := by
  have hK : vx_Back l R p e below s args y 3 8 (PreOf R mc ms Pc) (PostOf Qc mc ms free) (vx_Post XC mc ms free) := vx_callBack cw.1 hM hp.1
  obtain ⟨⟨-, -, -, -, -, -, hcode, hini, hy, hlen, hl⟩, hstt⟩ := cw
  obtain ⟨hx, hb, hml, ho, -⟩ := S
  intro T hT X
  rcases vx_callS X hx (bytes := bytes) (maxL := maxL) (ret := ret) ho hl hstt hini hcode hy hK hg (hsize.trans hml.symm) (argsL := As) (rest := rest) (fun sig h => hn.trans (hlen sig h)) hstack hW (by rw [hb]; exact hdg)
    (fun vm₁ hW₁ => ⟨hf.1, hf.2, hp.2 (T.setVm vm₁) hT hW₁⟩) with ⟨v, vm₁, ⟨U', l2, c2, s2⟩, hW₁, X', ⟨g', mk, t, L, e1, e2, hq, h1, hL, h2, h3⟩, st⟩ | ⟨q, vm₁, ⟨U', l2, c2, s2⟩, hW₁, X', ⟨g', mk, t, L, E, ce, e1, e2, hq, hce, hcv, hcl, h1, hL, h2, h3⟩, st⟩
  · dsimp only [Pt.U, Pt.locs, Pt.cells, Pt.slots] at X' e1 e2 h1 h2 h3 st
    subst h1; subst h2; subst h3
    exact Or.inl ⟨v, (T.setVm vm₁).calling g' mk As.toArray, t, U', L, hT, X', hL, e1, e2, hq, st⟩
  · dsimp only [Pt.U, Pt.locs, Pt.cells, Pt.slots] at X' e1 e2 h1 h2 h3 st hcl
    subst h1; subst h2; subst h3
    exact Or.inr ⟨q, (T.setVm vm₁).calling g' mk As.toArray, t, U', L, E, ce, hT, X', hL, e1, e2, hq, hce, hcv, vx_cls hW₁ hcl, st⟩
end Runs
section Rows
variable {p : Program} {l : Launch} {e : Env} {R : Room} {s : State} {m : MethodId} {args : Array Value} {below : List Frame} {meth : Method} {c : Code} {H : Heap} {locs : List Loc} {cells slots : Nat} {Q : State → Prop}
variable {mc ms : Nat} {free : Addr → Prop} {A0 A1 : Nat → Prop} {H0 : Heap} {a : Array Value} {pc : Nat} {ls : Array Slot} {st0 rest : List Value}
theorem vx_keep {st₀ t T' : State} {L : List Loc} (h0 : st₀.heap = H) (e1 : T'.heap = t.heap) (hS : va_S A0 H0 H locs) (hA : ∀ q, q < H.size → A1 q → A0 q) (hf : ∀ q, free q → A0 q) (hL : ∀ q ∈ L, free q.base) (hF : va_F A1 st₀ t) :
    H.size ≤ T'.heap.size ∧ (∀ q : Nat, q < H.size → ¬ A1 q → T'.heap[q]? = H[q]?) ∧ va_S A0 H0 T'.heap (locs ++ L) := by
  obtain ⟨hz, hk⟩ := hF
  rw [h0] at hz hk
  exact ⟨by rw [e1]; exact hz, fun q h1 h2 => by rw [e1]; exact hk q h1 h2,
    ⟨Nat.le_trans hS.1 (by rw [e1]; exact hz), fun q h1 h2 => by rw [e1, hk q (Nat.lt_of_lt_of_le h1 hS.1) (fun z => h2 (hA q (Nat.lt_of_lt_of_le h1 hS.1) z))]; exact hS.2.1 q h1 h2, fun q hq => by
      rcases List.mem_append.mp hq with h | h
      · exact hS.2.2 q h
      · exact hf _ (hL q h)⟩⟩
theorem vx_calli {S SX : Type} {post : Int32 → S → Prop} {px : SX → Prop} {B : S → State → Prop} {BX : String → SX → State → Prop} {AX : Nat → Prop} (hr : vx_Run p l e R s m args below meth c H locs cells slots mc ms (F0 m pc ls st0) rest (va_Qi post B A1 a) (vx_X px BX AX) free) (hS : va_S A0 H0 H locs) (hA : ∀ q, q < H.size → A1 q → A0 q) (hf : ∀ q, free q → A0 q) (hAX : ∀ q, q < H.size → AX q → A0 q)
    (kx : ∀ (E : String) (ce : Cell) (q9 : Addr) (u : SX) (t : State) (H1 : Heap) (locs1 : List Loc), t.heap = H1 → s.vm.Alike t.vm → px u → BX E u t → H.size ≤ H1.size → (∀ q : Nat, q < H.size → ¬ AX q → H1[q]? = H[q]?) → va_S A0 H0 H1 locs1 → H1[q9]? = some ce → ce.vm = .none → s.vm.findClass E = some ce.cls → vx_W p l e R s m args below meth c H1 locs1 (cells + mc) (slots + ms) Q (F0 m pc ls rest) q9)
    (kk : ∀ (r : Int32) (u : S) (t : State) (H1 : Heap) (locs1 : List Loc), t.heap = H1 → s.vm.Alike t.vm → post r u → B u t → H.size ≤ H1.size → (∀ q : Nat, q < H.size → ¬ A1 q → H1[q]? = H[q]?) → va_S A0 H0 H1 locs1 → W p l e R s m args below meth c H1 locs1 (cells + mc) (slots + ms) Q (F0 m (pc + 3) ls (.int r :: rest))) : W p l e R s m args below meth c H locs cells slots Q (F0 m pc ls st0) := by
  intro T hT X
  rcases hr T hT X with ⟨v, st₀, t, T', L, h0, X', hL, e1, e2, ⟨⟨r, u, hv, hp, hb⟩, hF⟩, st⟩ | ⟨q, st₀, t, T', L, E, ce, h0, X', hL, e1, e2, ⟨u, hp, hb, hF⟩, hce, hcv, hcl, st⟩
  · cases hv
    obtain ⟨k1, k2, k3⟩ := vx_keep h0 e1 hS hA hf hL hF
    obtain ⟨t2, a1, b1⟩ := kk r u t T'.heap (locs ++ L) e1.symm (by rw [← e2]; exact X'.warmed.alike) hp hb k1 k2 k3 T' rfl X'
    exact ⟨t2, st t2 a1, b1⟩
  · obtain ⟨k1, k2, k3⟩ := vx_keep h0 e1 hS hAX hf hL hF
    obtain ⟨t2, a1, b1⟩ := kx E ce q u t T'.heap (locs ++ L) e1.symm (by rw [← e2]; exact X'.warmed.alike) hp hb k1 k2 k3 (by rw [e1]; exact hce) hcv hcl T' rfl X'
    exact ⟨t2, st.trans a1, b1⟩
theorem vx_calll {S SX : Type} {post : Int64 → S → Prop} {px : SX → Prop} {B : S → State → Prop} {BX : String → SX → State → Prop} {AX : Nat → Prop} (hr : vx_Run p l e R s m args below meth c H locs cells slots mc ms (F0 m pc ls st0) rest (va_Ql post B A1 a) (vx_X px BX AX) free) (hS : va_S A0 H0 H locs) (hA : ∀ q, q < H.size → A1 q → A0 q) (hf : ∀ q, free q → A0 q) (hAX : ∀ q, q < H.size → AX q → A0 q)
    (kx : ∀ (E : String) (ce : Cell) (q9 : Addr) (u : SX) (t : State) (H1 : Heap) (locs1 : List Loc), t.heap = H1 → s.vm.Alike t.vm → px u → BX E u t → H.size ≤ H1.size → (∀ q : Nat, q < H.size → ¬ AX q → H1[q]? = H[q]?) → va_S A0 H0 H1 locs1 → H1[q9]? = some ce → ce.vm = .none → s.vm.findClass E = some ce.cls → vx_W p l e R s m args below meth c H1 locs1 (cells + mc) (slots + ms) Q (F0 m pc ls rest) q9)
    (kk : ∀ (r : Int64) (u : S) (t : State) (H1 : Heap) (locs1 : List Loc), t.heap = H1 → s.vm.Alike t.vm → post r u → B u t → H.size ≤ H1.size → (∀ q : Nat, q < H.size → ¬ A1 q → H1[q]? = H[q]?) → va_S A0 H0 H1 locs1 → W p l e R s m args below meth c H1 locs1 (cells + mc) (slots + ms) Q (F0 m (pc + 3) ls (.long r :: rest))) : W p l e R s m args below meth c H locs cells slots Q (F0 m pc ls st0) := by
  intro T hT X
  rcases hr T hT X with ⟨v, st₀, t, T', L, h0, X', hL, e1, e2, ⟨⟨r, u, hv, hp, hb⟩, hF⟩, st⟩ | ⟨q, st₀, t, T', L, E, ce, h0, X', hL, e1, e2, ⟨u, hp, hb, hF⟩, hce, hcv, hcl, st⟩
  · cases hv
    obtain ⟨k1, k2, k3⟩ := vx_keep h0 e1 hS hA hf hL hF
    obtain ⟨t2, a1, b1⟩ := kk r u t T'.heap (locs ++ L) e1.symm (by rw [← e2]; exact X'.warmed.alike) hp hb k1 k2 k3 T' rfl X'
    exact ⟨t2, st t2 a1, b1⟩
  · obtain ⟨k1, k2, k3⟩ := vx_keep h0 e1 hS hAX hf hL hF
    obtain ⟨t2, a1, b1⟩ := kx E ce q u t T'.heap (locs ++ L) e1.symm (by rw [← e2]; exact X'.warmed.alike) hp hb k1 k2 k3 (by rw [e1]; exact hce) hcv hcl T' rfl X'
    exact ⟨t2, st.trans a1, b1⟩
theorem vx_callf {S SX : Type} {post : UInt32 → S → Prop} {px : SX → Prop} {B : S → State → Prop} {BX : String → SX → State → Prop} {AX : Nat → Prop} (hr : vx_Run p l e R s m args below meth c H locs cells slots mc ms (F0 m pc ls st0) rest (va_Qf post B A1 a) (vx_X px BX AX) free) (hS : va_S A0 H0 H locs) (hA : ∀ q, q < H.size → A1 q → A0 q) (hf : ∀ q, free q → A0 q) (hAX : ∀ q, q < H.size → AX q → A0 q)
    (kx : ∀ (E : String) (ce : Cell) (q9 : Addr) (u : SX) (t : State) (H1 : Heap) (locs1 : List Loc), t.heap = H1 → s.vm.Alike t.vm → px u → BX E u t → H.size ≤ H1.size → (∀ q : Nat, q < H.size → ¬ AX q → H1[q]? = H[q]?) → va_S A0 H0 H1 locs1 → H1[q9]? = some ce → ce.vm = .none → s.vm.findClass E = some ce.cls → vx_W p l e R s m args below meth c H1 locs1 (cells + mc) (slots + ms) Q (F0 m pc ls rest) q9)
    (kk : ∀ (r : UInt32) (u : S) (t : State) (H1 : Heap) (locs1 : List Loc), t.heap = H1 → s.vm.Alike t.vm → post r u → B u t → H.size ≤ H1.size → (∀ q : Nat, q < H.size → ¬ A1 q → H1[q]? = H[q]?) → va_S A0 H0 H1 locs1 → W p l e R s m args below meth c H1 locs1 (cells + mc) (slots + ms) Q (F0 m (pc + 3) ls (.float r :: rest))) : W p l e R s m args below meth c H locs cells slots Q (F0 m pc ls st0) := by
  intro T hT X
  rcases hr T hT X with ⟨v, st₀, t, T', L, h0, X', hL, e1, e2, ⟨⟨r, u, hv, hp, hb⟩, hF⟩, st⟩ | ⟨q, st₀, t, T', L, E, ce, h0, X', hL, e1, e2, ⟨u, hp, hb, hF⟩, hce, hcv, hcl, st⟩
  · cases hv
    obtain ⟨k1, k2, k3⟩ := vx_keep h0 e1 hS hA hf hL hF
    obtain ⟨t2, a1, b1⟩ := kk r u t T'.heap (locs ++ L) e1.symm (by rw [← e2]; exact X'.warmed.alike) hp hb k1 k2 k3 T' rfl X'
    exact ⟨t2, st t2 a1, b1⟩
  · obtain ⟨k1, k2, k3⟩ := vx_keep h0 e1 hS hAX hf hL hF
    obtain ⟨t2, a1, b1⟩ := kx E ce q u t T'.heap (locs ++ L) e1.symm (by rw [← e2]; exact X'.warmed.alike) hp hb k1 k2 k3 (by rw [e1]; exact hce) hcv hcl T' rfl X'
    exact ⟨t2, st.trans a1, b1⟩
theorem vx_calld {S SX : Type} {post : UInt64 → S → Prop} {px : SX → Prop} {B : S → State → Prop} {BX : String → SX → State → Prop} {AX : Nat → Prop} (hr : vx_Run p l e R s m args below meth c H locs cells slots mc ms (F0 m pc ls st0) rest (va_Qd post B A1 a) (vx_X px BX AX) free) (hS : va_S A0 H0 H locs) (hA : ∀ q, q < H.size → A1 q → A0 q) (hf : ∀ q, free q → A0 q) (hAX : ∀ q, q < H.size → AX q → A0 q)
    (kx : ∀ (E : String) (ce : Cell) (q9 : Addr) (u : SX) (t : State) (H1 : Heap) (locs1 : List Loc), t.heap = H1 → s.vm.Alike t.vm → px u → BX E u t → H.size ≤ H1.size → (∀ q : Nat, q < H.size → ¬ AX q → H1[q]? = H[q]?) → va_S A0 H0 H1 locs1 → H1[q9]? = some ce → ce.vm = .none → s.vm.findClass E = some ce.cls → vx_W p l e R s m args below meth c H1 locs1 (cells + mc) (slots + ms) Q (F0 m pc ls rest) q9)
    (kk : ∀ (r : UInt64) (u : S) (t : State) (H1 : Heap) (locs1 : List Loc), t.heap = H1 → s.vm.Alike t.vm → post r u → B u t → H.size ≤ H1.size → (∀ q : Nat, q < H.size → ¬ A1 q → H1[q]? = H[q]?) → va_S A0 H0 H1 locs1 → W p l e R s m args below meth c H1 locs1 (cells + mc) (slots + ms) Q (F0 m (pc + 3) ls (.double r :: rest))) : W p l e R s m args below meth c H locs cells slots Q (F0 m pc ls st0) := by
  intro T hT X
  rcases hr T hT X with ⟨v, st₀, t, T', L, h0, X', hL, e1, e2, ⟨⟨r, u, hv, hp, hb⟩, hF⟩, st⟩ | ⟨q, st₀, t, T', L, E, ce, h0, X', hL, e1, e2, ⟨u, hp, hb, hF⟩, hce, hcv, hcl, st⟩
  · cases hv
    obtain ⟨k1, k2, k3⟩ := vx_keep h0 e1 hS hA hf hL hF
    obtain ⟨t2, a1, b1⟩ := kk r u t T'.heap (locs ++ L) e1.symm (by rw [← e2]; exact X'.warmed.alike) hp hb k1 k2 k3 T' rfl X'
    exact ⟨t2, st t2 a1, b1⟩
  · obtain ⟨k1, k2, k3⟩ := vx_keep h0 e1 hS hAX hf hL hF
    obtain ⟨t2, a1, b1⟩ := kx E ce q u t T'.heap (locs ++ L) e1.symm (by rw [← e2]; exact X'.warmed.alike) hp hb k1 k2 k3 (by rw [e1]; exact hce) hcv hcl T' rfl X'
    exact ⟨t2, st.trans a1, b1⟩
theorem vx_callv {S SX : Type} {post : S → Prop} {px : SX → Prop} {B : S → State → Prop} {BX : String → SX → State → Prop} {AX : Nat → Prop} (hr : vx_Run p l e R s m args below meth c H locs cells slots mc ms (F0 m pc ls st0) rest (va_Qv post B A1 a) (vx_X px BX AX) free) (hS : va_S A0 H0 H locs) (hA : ∀ q, q < H.size → A1 q → A0 q) (hf : ∀ q, free q → A0 q) (hAX : ∀ q, q < H.size → AX q → A0 q)
    (kx : ∀ (E : String) (ce : Cell) (q9 : Addr) (u : SX) (t : State) (H1 : Heap) (locs1 : List Loc), t.heap = H1 → s.vm.Alike t.vm → px u → BX E u t → H.size ≤ H1.size → (∀ q : Nat, q < H.size → ¬ AX q → H1[q]? = H[q]?) → va_S A0 H0 H1 locs1 → H1[q9]? = some ce → ce.vm = .none → s.vm.findClass E = some ce.cls → vx_W p l e R s m args below meth c H1 locs1 (cells + mc) (slots + ms) Q (F0 m pc ls rest) q9)
    (kk : ∀ (u : S) (t : State) (H1 : Heap) (locs1 : List Loc), t.heap = H1 → s.vm.Alike t.vm → post u → B u t → H.size ≤ H1.size → (∀ q : Nat, q < H.size → ¬ A1 q → H1[q]? = H[q]?) → va_S A0 H0 H1 locs1 → W p l e R s m args below meth c H1 locs1 (cells + mc) (slots + ms) Q (F0 m (pc + 3) ls (rest))) : W p l e R s m args below meth c H locs cells slots Q (F0 m pc ls st0) := by
  intro T hT X
  rcases hr T hT X with ⟨v, st₀, t, T', L, h0, X', hL, e1, e2, ⟨⟨u, hv, hp, hb⟩, hF⟩, st⟩ | ⟨q, st₀, t, T', L, E, ce, h0, X', hL, e1, e2, ⟨u, hp, hb, hF⟩, hce, hcv, hcl, st⟩
  · cases hv
    obtain ⟨k1, k2, k3⟩ := vx_keep h0 e1 hS hA hf hL hF
    obtain ⟨t2, a1, b1⟩ := kk u t T'.heap (locs ++ L) e1.symm (by rw [← e2]; exact X'.warmed.alike) hp hb k1 k2 k3 T' rfl X'
    exact ⟨t2, st t2 a1, b1⟩
  · obtain ⟨k1, k2, k3⟩ := vx_keep h0 e1 hS hAX hf hL hF
    obtain ⟨t2, a1, b1⟩ := kx E ce q u t T'.heap (locs ++ L) e1.symm (by rw [← e2]; exact X'.warmed.alike) hp hb k1 k2 k3 (by rw [e1]; exact hce) hcv hcl T' rfl X'
    exact ⟨t2, st.trans a1, b1⟩
/-- caught by the row x of this method's table; the rows ahead don't take it -/
theorem vx_catch {own name : String} {E : String} {ce : Cell} {q : Addr} (hown : s.vm.findClass own = some m.cls) (pre : List ExceptionTableEntry) (x : ExceptionTableEntry) (suf : List ExceptionTableEntry) (hsplit : c.exceptionTable.toList = pre ++ x :: suf)
    (hpass : ∀ z ∈ pre, covers z pc = false ∨ (z.catchType ≠ 0 ∧ ∃ nm : String, (Cond.classLink own z.catchType nm).before args s = true ∧ va_Nc E nm s)) (hx : covers x pc = true) (h0 : x.catchType ≠ 0)
    (hlink : (Cond.classLink own x.catchType name).before args s = true) (hcast : (Cond.castable E name).before args s = true) (hcell : H[q]? = some ce) (hv : ce.vm = .none) (hcl : s.vm.findClass E = some ce.cls)
    (kk : W p l e R s m args below meth c H locs cells slots Q (F0 m x.handlerPc ls [.ref q])) : vx_W p l e R s m args below meth c H locs cells slots Q (F0 m pc ls rest) q := by
  intro T hT X
  have hpl : e.platform.magicAccessors = ({} : Platform).magicAccessors := by rw [X.admits.platform]
  obtain ⟨c3, c4, hc3, hc4, hasg⟩ := Cond.castable_spec hcast
  cases Option.some.inj (hc3.symm.trans hcl)
  obtain ⟨c5, hc5, hcl5⟩ := Cond.classLink_spec hown hlink e.platform hpl
  cases Option.some.inj (hc4.symm.trans hc5)
  obtain ⟨vm', X', st⟩ := X.thenCaughtThrough q (g := F0 m pc ls rest) rfl (Steps.refl _) (by rw [hT]; exact hcell) (by rw [hv]; rfl) (by obtain ⟨k9, h9, -⟩ := Vm.findClass_spec hcl; exact ⟨k9, h9⟩) pre x suf hsplit
    (fun z hz => by
      rcases hpass z hz with h | ⟨hz0, nm, hl1, hn1⟩
      · exact Or.inl h
      · obtain ⟨c6, hc6, hcl6⟩ := Cond.classLink_spec hown hl1 e.platform hpl
        obtain ⟨a8, b8, h1, h2, h3⟩ := hn1
        cases Option.some.inj (h1.symm.trans hcl)
        cases Option.some.inj (h2.symm.trans hc6)
        exact Or.inr ⟨hz0, _, hcl6, h3⟩) hx (Or.inr ⟨h0, c4, hcl5, hasg⟩)
  obtain ⟨t, a1, b1⟩ := kk (T.setVm vm') hT X'
  exact ⟨t, st.trans a1, b1⟩
end Rows
section Ends
variable {p : Program} {l : Launch} {e : Env} {R : Room} {s : State} {m : MethodId} {args : Array Value} {below : List Frame} {meth : Method} {c : Code} {H : Heap} {locs : List Loc} {cells slots : Nat} {Q : State → Prop}
variable {mc ms : Nat} {free : Addr → Prop} {A0 A1 : Nat → Prop} {H0 : Heap} {a : Array Value} {ls : Array Slot} {st0 rest : List Value}
variable {Qc : Array Value → State → Outcome → State → Prop} {XC : String → State → State → Prop}
/-- what a body that may throw owes at its end -/
def vx_MQ (below : List Frame) (Qc : Array Value → State → Outcome → State → Prop) (XC : String → State → State → Prop) (a : Array Value) (s : State) (mc ms : Nat) (free : Addr → Prop) : State → Prop := fun t =>
  ∃ o, t.status = .running ∧ Ended t below o ∧ vx_Q Qc XC mc ms free a s o t
theorem vx_ret {g : JFrame} {mc ms : Nat} (k : W p l e R s m args below meth c H locs cells slots (MQ below Qc args s mc ms free) g) : W p l e R s m args below meth c H locs cells slots (vx_MQ below Qc XC args s mc ms free) g := by
  intro T hT X
  obtain ⟨t, a1, o, b1, b2, b3, b4⟩ := k T hT X
  exact ⟨t, a1, o, b1, b2, Or.inl ⟨b3, b4⟩⟩
/-- not caught here: it goes on to the caller -/
theorem vx_widen {g : JFrame} {q : Addr} {k n : Nat} (h1 : cells ≤ k) (h2 : slots ≤ n) (kk : vx_W p l e R s m args below meth c H locs k n Q g q) : vx_W p l e R s m args below meth c H locs cells slots Q g q := fun T hT X => kk T hT (stand_widen X h1 h2)
theorem vx_out {pc : Nat} {E : String} {ce : Cell} {q : Addr} {mc ms : Nat} (hout : ∀ x ∈ c.exceptionTable.toList, covers x pc = false) (hlocks : meth.locks = false) (hcell : H[q]? = some ce) (hv : ce.vm = .none) (hcl : s.vm.findClass E = some ce.cls)
    (hx : ∀ t : State, t.heap = H → s.vm.Alike t.vm → XC E s t) (hf : ∀ z ∈ locs, free z.base) (hc : cells ≤ mc) (hs : slots ≤ ms) :
    vx_W p l e R s m args below meth c H locs cells slots (vx_MQ below Qc XC args s mc ms free) (F0 m pc ls rest) q := by
  intro T hT X
  obtain ⟨st1, hrun, hend, hW, hsm⟩ := X.leaveThrown q (g := F0 m pc ls rest) rfl rfl rfl hout hlocks
  have hcell9 : (T.setFrames (.throwing q :: below)).heap[q]? = some ce := by
    show T.heap[q]? = some ce
    rw [hT]; exact hcell
  exact ⟨_, st1, .threw q, hrun, hend, Or.inr ⟨q, rfl, E, ce, locs, hx _ hT hW.alike, hcell9, hv, hcl, hW, hsm.mono hc hs, hf⟩⟩
theorem vx_frame {U : State} {k n : Nat} (h : s.sameButNew ({ U with vm := s.vm } : State) locs k n) : s.heap.size ≤ U.heap.size ∧ ∀ q : Nat, q < s.heap.size → (∀ z ∈ locs, z.base ≠ q) → U.heap[q]? = s.heap[q]? := by
  obtain ⟨-, h2, -, -, -, h6⟩ := h
  refine ⟨h2, fun q hq hz => ?_⟩
  obtain ⟨c9, e1, e2, e3, e4⟩ := h6 q _ (Array.getElem?_eq_getElem hq)
  have hs : c9.slots = (s.heap[q]).slots := Array.ext_getElem? fun i => e4 i fun hm => hz _ hm rfl
  have h9 : c9 = s.heap[q] := by
    rw [hs] at e2
    exact e2
  have e5 : U.heap[q]? = some c9 := e1
  rw [e5, h9, Array.getElem?_eq_getElem hq]
/-- the words of a throw but the four that speak of the heap -/
def vx_no (w : Cond) : Bool := decide (w ≠ .isRef (.static Bundle.tN "UNASSIGNED_STACK" Bundle.steD)) && decide (w ≠ .isRef (.static Bundle.tN "SUPPRESSED_SENTINEL" Bundle.listD)) && decide (w ≠ .laysStatic Bundle.tN "UNASSIGNED_STACK" Bundle.steD) && decide (w ≠ .laysStatic Bundle.tN "SUPPRESSED_SENTINEL" Bundle.listD)
def vx_at0 (own : String) (ic : Nat) (X : String) (names : List String) : List Cond := (Bundle.ownAtoms0 own ic X names).filter vx_no
def vx_atS (own : String) (ic : Nat) (X : String) (names : List String) : List Cond := (Bundle.ownAtoms own ic X names).filter vx_no
/-- a word that the tables alone decide, or a good one -/
def vx_ot (w : Cond) : Bool := w.onTables || goodWord w
theorem vx_ot_at {args a' : Array Value} {s U : State} {w : Cond} (hW : s.WarmedH U.vm) (hvm : s.vm = U.vm) (hg : vx_ot w = true) (h : w.before args s = true) : w.before a' U = true := by
  simp only [vx_ot, Bool.or_eq_true] at hg
  rcases hg with hg | hg
  · exact va_tabs hg hvm h
  · exact word_at hW (good_of_word hg) h
/-- a list's words: the good ones out of the method's own list, the others by premises of their own -/
theorem vx_hat {args : Array Value} {s : State} {L B : List Cond} (h1 : ∀ w ∈ L.filter goodWord, w.before args s = true) (h2 : ∀ w ∈ L.filter (fun w => !goodWord w), w ∈ B) (h3 : ∀ w ∈ B, w.before args s = true) : ∀ w ∈ L, w.before args s = true := by
  intro w hw
  by_cases g : goodWord w = true
  · exact h1 w (List.mem_filter.mpr ⟨hw, g⟩)
  · refine h3 w (h2 w (List.mem_filter.mpr ⟨hw, ?_⟩))
    show (!goodWord w) = true
    cases hgw : goodWord w
    · rfl
    · exact absurd hgw g
theorem vx_c {args : Array Value} {s : State} {w : Cond} {B : List Cond} (h : w.before args s = true) (t : ∀ w ∈ B, w.before args s = true) : ∀ w' ∈ w :: B, w'.before args s = true := fun w' h' => (List.mem_cons.mp h').elim (fun e => by rw [e]; exact h) (t w')
theorem vx_n {args : Array Value} {s : State} : ∀ w ∈ ([] : List Cond), w.before args s = true := fun _ h => nomatch h
theorem vx_own {args : Array Value} {s : State} {L : List Cond} (h1 : ∀ w ∈ L.filter vx_no, w.before args s = true)
    (hU : (Cond.isRef (.static Bundle.tN "UNASSIGNED_STACK" Bundle.steD)).before args s = true) (hN : (Cond.isRef (.static Bundle.tN "SUPPRESSED_SENTINEL" Bundle.listD)).before args s = true)
    (lU : (Cond.laysStatic Bundle.tN "UNASSIGNED_STACK" Bundle.steD).before args s = true) (lN : (Cond.laysStatic Bundle.tN "SUPPRESSED_SENTINEL" Bundle.listD).before args s = true) : ∀ w ∈ L, w.before args s = true := by
  intro w hw
  by_cases e1 : w = .isRef (.static Bundle.tN "UNASSIGNED_STACK" Bundle.steD)
  · rw [e1]; exact hU
  · by_cases e2 : w = .isRef (.static Bundle.tN "SUPPRESSED_SENTINEL" Bundle.listD)
    · rw [e2]; exact hN
    · by_cases e3 : w = .laysStatic Bundle.tN "UNASSIGNED_STACK" Bundle.steD
      · rw [e3]; exact lU
      · by_cases e4 : w = .laysStatic Bundle.tN "SUPPRESSED_SENTINEL" Bundle.listD
        · rw [e4]; exact lN
        · exact h1 w (List.mem_filter.mpr ⟨hw, by unfold vx_no; rw [decide_eq_true e1, decide_eq_true e2, decide_eq_true e3, decide_eq_true e4]; rfl⟩)
/-- where a static field lies, its class's statics cell in H -/
def vx_L (C n d : String) (A : Nat → Prop) (U : State) (H : Heap) : Prop := ∃ (c : ClassId) (k : Class) (i : Nat) (f : Field) (a : Nat) (cell : Cell), U.vm.findClass C = some c ∧ U.fieldFound? C n d = some (c, k, i, f) ∧ f.isStatic = true ∧ k.statics = some a ∧ H[a]? = some cell ∧ cell.vm.isStatics = true ∧ cell.cls = c ∧ f.slot < cell.slots.size ∧ k.staticTypes[f.slot]? = some f.type ∧ ¬ A a
theorem vx_L.moved {C n d : String} {A : Nat → Prop} {u U : State} {H : Heap} (hvm : u.vm.Alike U.vm) (h : vx_L C n d A u H) : vx_L C n d A U H := by
  obtain ⟨c, k, i, f, a, cell, h1, h2, h3, h4, h5, h6, h7, h8, h9, h10⟩ := h
  obtain ⟨k', hi', he⟩ := State.fieldFound?_setVm hvm h2
  exact ⟨c, k', i, f, a, cell, by rw [hvm.findClass]; exact h1, hi', h3, by rw [he]; exact h4, h5, h6, h7, h8, by rw [he]; exact h9, h10⟩
theorem vx_L.kept {C n d : String} {A : Nat → Prop} {U : State} {H H1 : Heap} (h : vx_L C n d A U H) (hq : ∀ a : Nat, a < H.size → ¬ A a → H1[a]? = H[a]?) : vx_L C n d A U H1 := by
  obtain ⟨c, k, i, f, a, cell, h1, h2, h3, h4, h5, h6, h7, h8, h9, h10⟩ := h
  exact ⟨c, k, i, f, a, cell, h1, h2, h3, h4, by rw [hq a (Array.getElem?_eq_some_iff.mp h5).1 h10]; exact h5, h6, h7, h8, h9, h10⟩
theorem vx_L.narrow {C n d : String} {A B : Nat → Prop} {U : State} {H : Heap} (h : vx_L C n d A U H) (hAB : ∀ q, B q → A q) : vx_L C n d B U H := by
  obtain ⟨c, k, i, f, a, cell, h1, h2, h3, h4, h5, h6, h7, h8, h9, h10⟩ := h
  exact ⟨c, k, i, f, a, cell, h1, h2, h3, h4, h5, h6, h7, h8, h9, fun z => h10 (hAB _ z)⟩
theorem vx_L.word {C n d : String} {A : Nat → Prop} {s : State} {args : Array Value} (h : vx_L C n d A s s.heap) : (Cond.laysStatic C n d).before args s = true := by
  obtain ⟨c, k, i, f, a, cell, h1, h2, h3, h4, h5, h6, h7, h8, h9, -⟩ := h
  show (Cond.laysStatic C n d).holds args s none s [] = true
  exact Cond.laysStatic_of h1 h2 h3 h4 h5 h6 h7 h8 h9
/-- .. and what it holds: null or some reference -/
def vx_Zq (C n d : String) (A : Nat → Prop) (U : State) (H : Heap) : Prop := va_Zq C n d A U H ∧ vx_L C n d A U H
theorem vx_Zq.moved {C n d : String} {A : Nat → Prop} {u U : State} {H : Heap} (hvm : u.vm.Alike U.vm) (h : vx_Zq C n d A u H) : vx_Zq C n d A U H := ⟨va_Zq.moved hvm h.1, vx_L.moved hvm h.2⟩
theorem vx_Zq.kept {C n d : String} {A : Nat → Prop} {U : State} {H H1 : Heap} (h : vx_Zq C n d A U H) (hq : ∀ a : Nat, a < H.size → ¬ A a → H1[a]? = H[a]?) : vx_Zq C n d A U H1 := ⟨va_Zq.kept h.1 hq, vx_L.kept h.2 hq⟩
theorem vx_Zq.narrow {C n d : String} {A B : Nat → Prop} {U : State} {H : Heap} (h : vx_Zq C n d A U H) (hAB : ∀ q, B q → A q) : vx_Zq C n d B U H := ⟨va_Zq.narrow h.1 hAB, vx_L.narrow h.2 hAB⟩
theorem vx_Zqof {args : Array Value} {s : State} {C n d : String} {A : Nat → Prop} (hl : (Cond.laysStatic C n d).before args s = true) (hini : (Cond.initialized C).before args s = true) (h : (Cond.isRef (.static C n d)).before args s = true) (hA : ∀ a : Nat, a < s.heap.size → ¬ A a) : vx_Zq C n d A s s.heap := by
  refine ⟨va_Zqof hl hini h hA, ?_⟩
  obtain ⟨c, k, i, f, a, cell, h1, h2, h3, h4, h5, h6, h7, h8, h9⟩ := Cond.laysStatic_spec hl
  exact ⟨c, k, i, f, a, cell, h1, h2, h3, h4, h5, h6, h7, h8, h9, hA a (Array.getElem?_eq_some_iff.mp h5).1⟩
theorem vx_isRef {C n d : String} {v : Value} {A : Nat → Prop} {s : State} {args : Array Value} (h : va_Z C n d v A s s.heap) (hv : v.isRef = true) : (Cond.isRef (.static C n d)).before args s = true := by
  obtain ⟨cf, kf, fi, f, a, cell, h1, h2, h3, h4, h5, h6, h7, -⟩ := h
  have he : (Term.static C n d).eval args s none [] s = some v := by
    simp [Term.eval, State.fieldNamed?, h1, h2, h4, h5, h6, h7]
  simp only [Cond.before, Cond.holds, Cond.value, he]
  cases v <;> simp_all [Value.isRef]
theorem vx_isRefq {C n d : String} {A : Nat → Prop} {s : State} {args : Array Value} (h : va_Zq C n d A s s.heap) : (Cond.isRef (.static C n d)).before args s = true := by
  rcases h with h | ⟨t, h⟩
  · exact vx_isRef h rfl
  · exact vx_isRef h rfl
/-- the same frame, seen from here: as if the method were called anew in this heap -/
theorem vx_rebase {T : State} (X : Stand p l e R s m args below meth c T locs cells slots) {R' : Room} (hf : R'.frames ≤ R.frames) (hl : R'.locals ≤ R.locals) (hc : cells + R'.cells ≤ R.cells) (hs : slots + R'.slots ≤ R.slots) :
    Stand p l e R' ((T.setVm s.vm).setFrames (.invoking m args :: below)) m args below meth c T [] 0 0 := by
  have htop : (T.setVm s.vm).topJava?.isSome := X.here.top
  have hF : ((T.setVm s.vm).setFrames (.invoking m args :: below)).frames = .invoking m args :: below := State.frames_setFrames _ (State.cur_lt_of_top htop)
  obtain ⟨g₀, hg0⟩ := Option.isSome_iff_exists.mp htop
  obtain ⟨r, hr⟩ := State.topJava?_eq_some.mp hg0
  have hl9 : e.platform.stackLimits (T.setVm s.vm).me = e.platform.stackLimits s.me := X.limits
  have hb9 : (T.setVm s.vm).me.stackBytes = s.me.stackBytes := X.bytes
  refine ⟨X.admits, X.cas, X.clock, hF, ?_, X.hears, X.method, X.code, X.here, X.tail, X.warmed, ?_, ?_, ?_⟩
  · have h := X.room
    have hU : ((T.setVm s.vm).setFrames (.invoking m args :: below)).localsInUse = s.localsInUse := by
      rw [State.localsInUse_invoking hF (meth := meth) (c := c) X.method X.code, State.localsInUse_invoking X.frames X.method X.code]
    simp only [State.hasRoom, Bool.and_eq_true, decide_eq_true_eq] at h ⊢
    obtain ⟨⟨⟨⟨h1, h2, h3, h4, h5, h6⟩, h7⟩, h8⟩, h9⟩ := h
    rw [X.frames, List.length_cons] at h2 h3
    have q1 := X.heapSize
    have q2 := X.used
    simp only [hF, hU, List.length_cons, State.stackLimits_setFrames, State.stackBytes_setFrames, hl9, hb9]
    refine ⟨⟨⟨⟨by omega, by omega, by omega, by omega, by omega, h6⟩, ?_⟩, ?_⟩, X.book⟩
    · show T.heap.size + R'.cells ≤ e.platform.maxCells
      omega
    · show T.slotsUsed + R'.slots ≤ e.platform.maxSlots
      omega
  · rw [State.stackLimits_setFrames]; rfl
  · rw [State.stackBytes_setFrames]; rfl
  · refine ⟨?_, Nat.le_refl _, Nat.le_refl _, ?_, ?_, fun a c9 h9 => ⟨c9, h9, rfl, rfl, fun _ _ => rfl⟩⟩
    · obtain ⟨t, ht, -⟩ := State.frames_cons hr
      show T.setVm s.vm = { ((T.setVm s.vm).setFrames (.invoking m args :: below)).setFrames (T.setVm s.vm).frames with heap := T.heap, slotsUsed := T.slotsUsed }
      rw [State.setFrames_setFrames, State.setFrames_self ht]
      rfl
    · show T.slotsUsed = T.slotsUsed + ((T.heap.toList.drop T.heap.size).map (·.slots.size)).sum
      rw [List.drop_eq_nil_of_le (Nat.le_of_eq Array.length_toList)]
      rfl
    · show ((T.heap.toList.drop T.heap.size).map (·.slots.size)).sum ≤ 0
      rw [List.drop_eq_nil_of_le (Nat.le_of_eq Array.length_toList)]
      exact Nat.le_refl _
/-- 'throw new E()': new; dup; invokespecial; athrow -/
theorem vx_throw0 {cc : ByteArray} {pc : Nat} (hexec : p.tables.exec = Jvm.exec) (hb : c.code = cc) (hl : l.stackTraces = false) {own cls : String} {names : List String} {ik ic mc ms : Nat} {A : Nat → Prop}
    (hown : s.vm.findClass own = some m.cls) (hcls : Bundle.fit cls = true) (hnames : ∀ n ∈ names, Bundle.fit n = true)
    (hk : (Cond.classLink own ik cls).before args s = true) (hini : (Cond.initialized cls).before args s = true) (hat : ∀ w ∈ vx_at0 own ic cls names, w.before args s = true)
    (hgood : ∀ w ∈ Cond.classLink own ik cls :: Cond.initialized cls :: vx_at0 own ic cls names, vx_ot w = true)
    (hU : vx_Zq Bundle.tN "UNASSIGNED_STACK" Bundle.steD A s s.heap) (hN : vx_Zq Bundle.tN "SUPPRESSED_SENTINEL" Bundle.listD A s s.heap) (hS : va_S A s.heap H locs) (hsize : ls.size = c.maxLocals)
    (d0 : decode cc pc = .ok (.new ik, 3)) (d3 : decode cc (pc + 3) = .ok (.dup, 1)) (d4 : decode cc (pc + 4) = .ok (.invokespecial ic, 3)) (d7 : decode cc (pc + 7) = .ok (.athrow, 1))
    (hout : ∀ x ∈ c.exceptionTable.toList, covers x (pc + 7) = false)
    (hRframes : names.length + 3 < R.frames) (hRlocals : (rest.map fun v => v.category).sum + (13 * (names.length + 1) + 42) ≤ R.locals) (hRcells : cells + 1 ≤ R.cells) (hRslots : slots + 6 ≤ R.slots) (hlocks : meth.locks = false)
    (hx : ∀ t : State, s.vm.Alike t.vm → H.size ≤ t.heap.size → (∀ q : Nat, q < H.size → t.heap[q]? = H[q]?) → XC cls s t)
    (hf : ∀ z ∈ locs, free z.base) (hc : cells + 1 ≤ mc) (hs : slots + 6 ≤ ms) :
    W p l e R s m args below meth c H locs cells slots (vx_MQ below Qc XC args s mc ms free) (F0 m pc ls rest) := by
  intro T hT X
  have htr : e.platform.stackTraces = false := (show e.platform.stackTraces = l.stackTraces by rw [X.admits.platform]).trans hl
  have Y := vx_rebase X (R' := { frames := R.frames, locals := R.locals, cells := 1, slots := 6 }) (Nat.le_refl _) (Nat.le_refl _) hRcells hRslots
  obtain ⟨s', hA⟩ : ∃ z, z = (T.setVm s.vm).setFrames (.invoking m args :: below) := ⟨_, rfl⟩
  rw [← hA] at Y
  have hvm : s'.vm = s.vm := by rw [hA]; rfl
  have hhp : s'.heap = H := by rw [hA]; exact hT
  have hW0 : s.WarmedH s'.vm := by rw [hvm]; exact State.WarmedH.refl s
  have hat' : ∀ w ∈ vx_at0 own ic cls names, w.before args s' = true := fun w hw => vx_ot_at hW0 hvm.symm (hgood w (List.mem_cons_of_mem _ (List.mem_cons_of_mem _ hw))) (hat w hw)
  have hk' : (Cond.classLink own ik cls).before args s' = true := vx_ot_at hW0 hvm.symm (hgood _ List.mem_cons_self) hk
  have hini' : (Cond.initialized cls).before args s' = true := vx_ot_at hW0 hvm.symm (hgood _ (List.mem_cons_of_mem _ List.mem_cons_self)) hini
  have hU' : vx_Zq Bundle.tN "UNASSIGNED_STACK" Bundle.steD A s' s'.heap := by rw [hhp]; exact vx_Zq.moved hW0.alike (hU.kept hS.2.1)
  have hN' : vx_Zq Bundle.tN "SUPPRESSED_SENTINEL" Bundle.listD A s' s'.heap := by rw [hhp]; exact vx_Zq.moved hW0.alike (hN.kept hS.2.1)
  have h : ∀ w ∈ Bundle.ownAtoms0 own ic cls names, w.before args s' = true := vx_own hat' (vx_isRefq hU'.1) (vx_isRefq hN'.1) hU'.2.word hN'.2.word
  have hown' : s'.vm.findClass own = some m.cls := by rw [hvm]; exact hown
  have hins : (Cond.instantiable cls 6).before args s' = true := h _ (by simp [Bundle.ownAtoms0])
  obtain ⟨vm₁, cX, kX, hfX, hkX, -, -, X₁, st1⟩ := Y.newCold hexec (own := own) (C := cls) (index := ik) (n := 6) hown' hk' hins hini'
    (g := F0 m pc ls rest) rfl (by rw [hb]; exact d0) (Nat.le_refl _) (Nat.le_refl _)
  generalize hT1 : (T.setVm vm₁).pushCell { cls := cX, slots := kX.instanceTypes.map defaultValue, vm := .none } = T1 at X₁ st1
  have hcat : (Value.ref T.heap.size).category = 1 := rfl
  have hcellA : T1.heap[T.heap.size]? = some (freshCell cX kX) := by rw [← hT1]; exact State.heap_pushCell_size _ _
  have d3' : decode c.code (pc + 3) = .ok (.dup, 1) := by rw [hb]; exact d3
  obtain ⟨U, hsteps, hrun, hend, hW, hsame, ce, hce, hO⟩ := X₁.ctorThrow0 hexec htr (own := own) (cls := cls) (names := names) (ic := ic) hown' hcls hnames h (fun x hx => nomatch hx) hfX hkX hcellA (by rw [hhp, hT]; exact Nat.le_refl _)
    (g := { method := m, pc := pc + 4, locals := ls, stack := .ref T.heap.size :: .ref T.heap.size :: rest, locked := none }) rfl hsize rfl rfl (rest := rest) rfl
    (by rw [hb]; exact d4) (by rw [hb]; exact d7) hout hRframes (by simp only [List.map_cons, List.sum_cons, hcat]; omega) hlocks
  obtain ⟨f1, f2⟩ := vx_frame hsame
  rw [hhp] at f1 f2
  have hWs : s.WarmedH U.vm := State.WarmedH.trans hW0 hW
  have hcl : s.vm.findClass cls = some ce.cls := by
    have h9 := hO.cls
    rw [hvm] at h9
    exact h9
  have hall : s.sameButNew ({ U with vm := s.vm } : State) locs mc ms := by
    subst hA
    obtain ⟨e1, e2⟩ := hsame
    rw [State.setFrames_setFrames] at e1
    have h2 : (T.setVm s.vm).sameButNew ({ U with vm := s.vm } : State) [] (0 + 1) (0 + 6) := ⟨e1, e2⟩
    have h3 := X.same.trans h2
    rw [List.append_nil] at h3
    exact h3.mono hc hs
  refine ⟨U, ?_, .threw T.heap.size, hrun, hend, Or.inr ⟨T.heap.size, rfl, cls, ce, locs, hx U hWs.alike f1 (fun q hq => f2 q hq (fun z hz => nomatch hz)), hce, hO.vm, hcl, hWs, hall, hf⟩⟩
  refine st1 _ ?_
  show Steps p.tables e below (T1.setTop { method := m, pc := pc + 3, locals := ls, stack := .ref T.heap.size :: rest, locked := none }) _
  jvm_step X₁.here [X₁.here.top, hexec, d3', Value.category]
  exact hsteps
/-- 'throw new E("text")': new; dup; ldc; invokespecial; athrow -/
theorem vx_throwS {cc : ByteArray} {pc : Nat} (hexec : p.tables.exec = Jvm.exec) (hb : c.code = cc) (hl : l.stackTraces = false) {own cls text : String} {names : List String} {ik is ic mc ms sa : Nat} {A : Nat → Prop}
    (hown : s.vm.findClass own = some m.cls) (hcls : Bundle.fit cls = true) (hnames : ∀ n ∈ names, Bundle.fit n = true)
    (hk : (Cond.classLink own ik cls).before args s = true) (hini : (Cond.initialized cls).before args s = true) (hstr : vk_R own is text sa s) (hat : ∀ w ∈ vx_atS own ic cls names, w.before args s = true)
    (hgood : ∀ w ∈ Cond.classLink own ik cls :: Cond.initialized cls :: vx_atS own ic cls names, vx_ot w = true)
    (hU : vx_Zq Bundle.tN "UNASSIGNED_STACK" Bundle.steD A s s.heap) (hN : vx_Zq Bundle.tN "SUPPRESSED_SENTINEL" Bundle.listD A s s.heap) (hS : va_S A s.heap H locs) (hsize : ls.size = c.maxLocals)
    (d0 : decode cc pc = .ok (.new ik, 3)) (d3 : decode cc (pc + 3) = .ok (.dup, 1)) (d4 : decode cc (pc + 4) = .ok (.ldc is, 2)) (d6 : decode cc (pc + 6) = .ok (.invokespecial ic, 3)) (d9 : decode cc (pc + 9) = .ok (.athrow, 1))
    (hout : ∀ x ∈ c.exceptionTable.toList, covers x (pc + 9) = false)
    (hRframes : names.length + 3 < R.frames) (hRlocals : (rest.map fun v => v.category).sum + (13 * (names.length + 1) + 43) ≤ R.locals) (hRcells : cells + 1 ≤ R.cells) (hRslots : slots + 6 ≤ R.slots) (hlocks : meth.locks = false)
    (hx : ∀ t : State, s.vm.Alike t.vm → H.size ≤ t.heap.size → (∀ q : Nat, q < H.size → t.heap[q]? = H[q]?) → XC cls s t)
    (hf : ∀ z ∈ locs, free z.base) (hc : cells + 1 ≤ mc) (hs : slots + 6 ≤ ms) :
    W p l e R s m args below meth c H locs cells slots (vx_MQ below Qc XC args s mc ms free) (F0 m pc ls rest) := by
  intro T hT X
  have htr : e.platform.stackTraces = false := (show e.platform.stackTraces = l.stackTraces by rw [X.admits.platform]).trans hl
  have Y := vx_rebase X (R' := { frames := R.frames, locals := R.locals, cells := 1, slots := 6 }) (Nat.le_refl _) (Nat.le_refl _) hRcells hRslots
  obtain ⟨s', hA⟩ : ∃ z, z = (T.setVm s.vm).setFrames (.invoking m args :: below) := ⟨_, rfl⟩
  rw [← hA] at Y
  have hvm : s'.vm = s.vm := by rw [hA]; rfl
  have hhp : s'.heap = H := by rw [hA]; exact hT
  have hW0 : s.WarmedH s'.vm := by rw [hvm]; exact State.WarmedH.refl s
  have hat' : ∀ w ∈ vx_atS own ic cls names, w.before args s' = true := fun w hw => vx_ot_at hW0 hvm.symm (hgood w (List.mem_cons_of_mem _ (List.mem_cons_of_mem _ hw))) (hat w hw)
  have hk' : (Cond.classLink own ik cls).before args s' = true := vx_ot_at hW0 hvm.symm (hgood _ List.mem_cons_self) hk
  have hini' : (Cond.initialized cls).before args s' = true := vx_ot_at hW0 hvm.symm (hgood _ (List.mem_cons_of_mem _ List.mem_cons_self)) hini
  have hU' : vx_Zq Bundle.tN "UNASSIGNED_STACK" Bundle.steD A s' s'.heap := by rw [hhp]; exact vx_Zq.moved hW0.alike (hU.kept hS.2.1)
  have hN' : vx_Zq Bundle.tN "SUPPRESSED_SENTINEL" Bundle.listD A s' s'.heap := by rw [hhp]; exact vx_Zq.moved hW0.alike (hN.kept hS.2.1)
  have h : ∀ w ∈ Bundle.ownAtoms own ic cls names, w.before args s' = true := vx_own hat' (vx_isRefq hU'.1) (vx_isRefq hN'.1) hU'.2.word hN'.2.word
  have hown' : s'.vm.findClass own = some m.cls := by rw [hvm]; exact hown
  have hins : (Cond.instantiable cls 6).before args s' = true := h _ (by simp [Bundle.ownAtoms])
  obtain ⟨vm₁, cX, kX, hfX, hkX, -, -, X₁, st1⟩ := Y.newCold hexec (own := own) (C := cls) (index := ik) (n := 6) hown' hk' hins hini'
    (g := F0 m pc ls rest) rfl (by rw [hb]; exact d0) (Nat.le_refl _) (Nat.le_refl _)
  generalize hT1 : (T.setVm vm₁).pushCell { cls := cX, slots := kX.instanceTypes.map defaultValue, vm := .none } = T1 at X₁ st1
  have hcat : (Value.ref T.heap.size).category = 1 := rfl
  have hcellA : T1.heap[T.heap.size]? = some (freshCell cX kX) := by rw [← hT1]; exact State.heap_pushCell_size _ _
  have d3' : decode c.code (pc + 3) = .ok (.dup, 1) := by rw [hb]; exact d3
  have d4' : decode c.code (pc + 4) = .ok (.ldc is, 2) := by rw [hb]; exact d4
  have hstr' : vk_R own is text sa s' := vk_R.warm hW0 hstr
  obtain ⟨U, hsteps, hrun, hend, hW, hsame, ce, hce, hO⟩ := X₁.ctorThrowS hexec htr (own := own) (cls := cls) (names := names) (ic := ic) hown' hcls hnames h (fun x hx => nomatch hx) hfX hkX hcellA (by rw [hhp, hT]; exact Nat.le_refl _) (msg := .ref sa) rfl
    (g := { method := m, pc := pc + 6, locals := ls, stack := .ref sa :: .ref T.heap.size :: .ref T.heap.size :: rest, locked := none }) rfl hsize rfl rfl (rest := rest) rfl
    (by rw [hb]; exact d6) (by rw [hb]; exact d9) hout hRframes (by simp only [List.map_cons, List.sum_cons, hcat]; omega) hlocks
  obtain ⟨f1, f2⟩ := vx_frame hsame
  rw [hhp] at f1 f2
  have hWs : s.WarmedH U.vm := State.WarmedH.trans hW0 hW
  have hcl : s.vm.findClass cls = some ce.cls := by
    have h9 := hO.cls
    rw [hvm] at h9
    exact h9
  have hall : s.sameButNew ({ U with vm := s.vm } : State) locs mc ms := by
    subst hA
    obtain ⟨e1, e2⟩ := hsame
    rw [State.setFrames_setFrames] at e1
    have h2 : (T.setVm s.vm).sameButNew ({ U with vm := s.vm } : State) [] (0 + 1) (0 + 6) := ⟨e1, e2⟩
    have h3 := X.same.trans h2
    rw [List.append_nil] at h3
    exact h3.mono hc hs
  refine ⟨U, ?_, .threw T.heap.size, hrun, hend, Or.inr ⟨T.heap.size, rfl, cls, ce, locs, hx U hWs.alike f1 (fun q hq => f2 q hq (fun z hz => nomatch hz)), hce, hO.vm, hcl, hWs, hall, hf⟩⟩
  refine st1 _ ?_
  show Steps p.tables e below (T1.setTop { method := m, pc := pc + 3, locals := ls, stack := .ref T.heap.size :: rest, locked := none }) _
  jvm_step X₁.here [X₁.here.top, hexec, d3', Value.category]
  exact X₁.ldcString hexec (own := own) (text := text) (index := is) (a := sa) hown' hstr'.1 hstr'.2
    (g := { method := m, pc := pc + 4, locals := ls, stack := .ref T.heap.size :: .ref T.heap.size :: rest, locked := none }) rfl d4' _ hsteps
/-- 'throw new E("text")', the text by a wide index -/
theorem vx_throwSW {cc : ByteArray} {pc : Nat} (hexec : p.tables.exec = Jvm.exec) (hb : c.code = cc) (hl : l.stackTraces = false) {own cls text : String} {names : List String} {ik is ic mc ms sa : Nat} {A : Nat → Prop}
    (hown : s.vm.findClass own = some m.cls) (hcls : Bundle.fit cls = true) (hnames : ∀ n ∈ names, Bundle.fit n = true)
    (hk : (Cond.classLink own ik cls).before args s = true) (hini : (Cond.initialized cls).before args s = true) (hstr : vk_R own is text sa s) (hat : ∀ w ∈ vx_atS own ic cls names, w.before args s = true)
    (hgood : ∀ w ∈ Cond.classLink own ik cls :: Cond.initialized cls :: vx_atS own ic cls names, vx_ot w = true)
    (hU : vx_Zq Bundle.tN "UNASSIGNED_STACK" Bundle.steD A s s.heap) (hN : vx_Zq Bundle.tN "SUPPRESSED_SENTINEL" Bundle.listD A s s.heap) (hS : va_S A s.heap H locs) (hsize : ls.size = c.maxLocals)
    (d0 : decode cc pc = .ok (.new ik, 3)) (d3 : decode cc (pc + 3) = .ok (.dup, 1)) (d4 : decode cc (pc + 4) = .ok (.ldc_w is, 3)) (d7 : decode cc (pc + 7) = .ok (.invokespecial ic, 3)) (d10 : decode cc (pc + 10) = .ok (.athrow, 1))
    (hout : ∀ x ∈ c.exceptionTable.toList, covers x (pc + 10) = false)
    (hRframes : names.length + 3 < R.frames) (hRlocals : (rest.map fun v => v.category).sum + (13 * (names.length + 1) + 43) ≤ R.locals) (hRcells : cells + 1 ≤ R.cells) (hRslots : slots + 6 ≤ R.slots) (hlocks : meth.locks = false)
    (hx : ∀ t : State, s.vm.Alike t.vm → H.size ≤ t.heap.size → (∀ q : Nat, q < H.size → t.heap[q]? = H[q]?) → XC cls s t)
    (hf : ∀ z ∈ locs, free z.base) (hc : cells + 1 ≤ mc) (hs : slots + 6 ≤ ms) :
    W p l e R s m args below meth c H locs cells slots (vx_MQ below Qc XC args s mc ms free) (F0 m pc ls rest) := by
  intro T hT X
  have htr : e.platform.stackTraces = false := (show e.platform.stackTraces = l.stackTraces by rw [X.admits.platform]).trans hl
  have Y := vx_rebase X (R' := { frames := R.frames, locals := R.locals, cells := 1, slots := 6 }) (Nat.le_refl _) (Nat.le_refl _) hRcells hRslots
  obtain ⟨s', hA⟩ : ∃ z, z = (T.setVm s.vm).setFrames (.invoking m args :: below) := ⟨_, rfl⟩
  rw [← hA] at Y
  have hvm : s'.vm = s.vm := by rw [hA]; rfl
  have hhp : s'.heap = H := by rw [hA]; exact hT
  have hW0 : s.WarmedH s'.vm := by rw [hvm]; exact State.WarmedH.refl s
  have hat' : ∀ w ∈ vx_atS own ic cls names, w.before args s' = true := fun w hw => vx_ot_at hW0 hvm.symm (hgood w (List.mem_cons_of_mem _ (List.mem_cons_of_mem _ hw))) (hat w hw)
  have hk' : (Cond.classLink own ik cls).before args s' = true := vx_ot_at hW0 hvm.symm (hgood _ List.mem_cons_self) hk
  have hini' : (Cond.initialized cls).before args s' = true := vx_ot_at hW0 hvm.symm (hgood _ (List.mem_cons_of_mem _ List.mem_cons_self)) hini
  have hU' : vx_Zq Bundle.tN "UNASSIGNED_STACK" Bundle.steD A s' s'.heap := by rw [hhp]; exact vx_Zq.moved hW0.alike (hU.kept hS.2.1)
  have hN' : vx_Zq Bundle.tN "SUPPRESSED_SENTINEL" Bundle.listD A s' s'.heap := by rw [hhp]; exact vx_Zq.moved hW0.alike (hN.kept hS.2.1)
  have h : ∀ w ∈ Bundle.ownAtoms own ic cls names, w.before args s' = true := vx_own hat' (vx_isRefq hU'.1) (vx_isRefq hN'.1) hU'.2.word hN'.2.word
  have hown' : s'.vm.findClass own = some m.cls := by rw [hvm]; exact hown
  have hins : (Cond.instantiable cls 6).before args s' = true := h _ (by simp [Bundle.ownAtoms])
  obtain ⟨vm₁, cX, kX, hfX, hkX, -, -, X₁, st1⟩ := Y.newCold hexec (own := own) (C := cls) (index := ik) (n := 6) hown' hk' hins hini'
    (g := F0 m pc ls rest) rfl (by rw [hb]; exact d0) (Nat.le_refl _) (Nat.le_refl _)
  generalize hT1 : (T.setVm vm₁).pushCell { cls := cX, slots := kX.instanceTypes.map defaultValue, vm := .none } = T1 at X₁ st1
  have hcat : (Value.ref T.heap.size).category = 1 := rfl
  have hcellA : T1.heap[T.heap.size]? = some (freshCell cX kX) := by rw [← hT1]; exact State.heap_pushCell_size _ _
  have d3' : decode c.code (pc + 3) = .ok (.dup, 1) := by rw [hb]; exact d3
  have d4' : decode c.code (pc + 4) = .ok (.ldc_w is, 3) := by rw [hb]; exact d4
  have hstr' : vk_R own is text sa s' := vk_R.warm hW0 hstr
  obtain ⟨U, hsteps, hrun, hend, hW, hsame, ce, hce, hO⟩ := X₁.ctorThrowS hexec htr (own := own) (cls := cls) (names := names) (ic := ic) hown' hcls hnames h (fun x hx => nomatch hx) hfX hkX hcellA (by rw [hhp, hT]; exact Nat.le_refl _) (msg := .ref sa) rfl
    (g := { method := m, pc := pc + 7, locals := ls, stack := .ref sa :: .ref T.heap.size :: .ref T.heap.size :: rest, locked := none }) rfl hsize rfl rfl (rest := rest) rfl
    (by rw [hb]; exact d7) (by rw [hb]; exact d10) hout hRframes (by simp only [List.map_cons, List.sum_cons, hcat]; omega) hlocks
  obtain ⟨f1, f2⟩ := vx_frame hsame
  rw [hhp] at f1 f2
  have hWs : s.WarmedH U.vm := State.WarmedH.trans hW0 hW
  have hcl : s.vm.findClass cls = some ce.cls := by
    have h9 := hO.cls
    rw [hvm] at h9
    exact h9
  have hall : s.sameButNew ({ U with vm := s.vm } : State) locs mc ms := by
    subst hA
    obtain ⟨e1, e2⟩ := hsame
    rw [State.setFrames_setFrames] at e1
    have h2 : (T.setVm s.vm).sameButNew ({ U with vm := s.vm } : State) [] (0 + 1) (0 + 6) := ⟨e1, e2⟩
    have h3 := X.same.trans h2
    rw [List.append_nil] at h3
    exact h3.mono hc hs
  refine ⟨U, ?_, .threw T.heap.size, hrun, hend, Or.inr ⟨T.heap.size, rfl, cls, ce, locs, hx U hWs.alike f1 (fun q hq => f2 q hq (fun z hz => nomatch hz)), hce, hO.vm, hcl, hWs, hall, hf⟩⟩
  refine st1 _ ?_
  show Steps p.tables e below (T1.setTop { method := m, pc := pc + 3, locals := ls, stack := .ref T.heap.size :: rest, locked := none }) _
  jvm_step X₁.here [X₁.here.top, hexec, d3', Value.category]
  exact X₁.ldcStringW hexec (own := own) (text := text) (index := is) (a := sa) hown' hstr'.1 hstr'.2
    (g := { method := m, pc := pc + 4, locals := ls, stack := .ref T.heap.size :: .ref T.heap.size :: rest, locked := none }) rfl d4' _ hsteps
end Ends
section Bodies
variable {l : Launch}
theorem vx_ofW {y : MethodName} {ws ws' : List Cond} {rm : Room} {Pc : Array Value → State → Prop} {Qc : Array Value → State → Outcome → State → Prop} {XC : String → State → State → Prop} {mc ms : Nat} {free : Addr → Prop} {cc : ByteArray} {maxL : Nat} {ret : Option FieldType}
    (hy : plainName y.cls = true) (hw : ws = Cond.code y cc maxL ret :: ws')
    (body : ∀ p e s m args below meth c s₁, BodyLoose p l y (headSpec ws rm) cc maxL ret e s m args below meth c s₁ → c.maxLocals = maxL → (∀ x ∈ c.exceptionTable.toList, False) → Pc args s →
      W p l e (headSpec ws rm).room s m args below meth c s.heap [] 0 0 (vx_MQ below Qc XC args s mc ms free) (entryFrame m args maxL)) : vx_Met l y ws rm Pc Qc XC mc ms free := by
  refine MetFree.of_bodyS (code := cc) (maxLocals := maxL) (ret := ret) hy ?_ ?_
  · intro args s m h hn
    obtain ⟨meth, c, h1, h2, h3, h4, h5, h6, -, -⟩ := Cond.code_spec hn (atoms_spec (ws := ws) h _ (by rw [hw]; exact List.mem_cons_self))
    exact ⟨meth, c, h1, h2, h3, h4, h5, h6⟩
  · intro p e s m args below meth c s₁ B hml hP _
    have hh0 : s₁.heap = s.heap := by rw [B.state]; rfl
    have ht : ∀ x ∈ c.exceptionTable.toList, False := by
      obtain ⟨meth9, c9, h1, h2, -, -, -, -, h7, -⟩ := Cond.code_spec B.named (atoms_spec (ws := ws) B.pre _ (by rw [hw]; exact List.mem_cons_self))
      cases Option.some.inj (h1.symm.trans B.method)
      cases Option.some.inj (h2.symm.trans (Stand.of_body B).code)
      intro x hx
      rw [Array.isEmpty_iff.mp h7] at hx
      cases hx
    obtain ⟨t, a1, o, b1, b2, b3⟩ := body p e s m args below meth c s₁ B hml ht hP s₁ hh0 (Stand.of_body B)
    exact ⟨t, o, a1, b1, b2, b3⟩
/-- the table of a body with handlers -/
theorem vx_table {p : Program} {x y : MethodName} {S : Spec} {cc bytes : ByteArray} {maxL maxL' : Nat} {ret ret' : Option FieldType} {e : Env} {s s₁ : State} {m : MethodId} {args : Array Value} {below : List Frame} {meth : Method} {c : Code} {hh : List (Nat × Nat × Nat × Nat)}
    (B : BodyLoose p l y S cc maxL ret e s m args below meth c s₁) (h : (Cond.codeWith y bytes maxL' ret' hh).before args s = true) : c.exceptionTable.toList = tableOf hh := by
  obtain ⟨m9, meth9, c9, hn9, h1, h2, -, -, h6, -⟩ := Cond.codeWith_spec h
  cases Option.some.inj (hn9.symm.trans B.named)
  cases Option.some.inj (h1.symm.trans B.method)
  cases Option.some.inj (h2.symm.trans (Stand.of_body B).code)
  rw [← h6, table_eq]
end Bodies
end VXA
/-! ===== END ===== -/
/-! ===== BEGIN a static call of a method with an exception table ===== -/
section VXS
variable {p : Program} {l : Launch} {e : Env} {R : Room} {s : State} {m : MethodId} {args : Array Value} {below : List Frame} {meth : Method} {c : Code} {T : State} {H : Heap} {locs : List Loc} {cells slots : Nat}
abbrev vx_CSW (R : Room) (s : State) (args : Array Value) (own : String) (index : Nat) (y : MethodName) (bytes : ByteArray) (maxL : Nat) (ret : Option FieldType) (hh : List (Nat × Nat × Nat × Nat)) (ws : List Cond) (rm : Room) (mc ms n : Nat) : Prop :=
  (rm.cells = mc ∧ rm.slots = ms ∧ rm.frames + 1 ≤ R.frames ∧ 8 + (maxL + 11) + rm.locals ≤ R.locals ∧ (∀ w ∈ ws, ∀ (a' : Array Value) (U : State), s.WarmedH U.vm → w.before a' U = true) ∧ Cond.codeWith y bytes maxL ret hh ∈ ws) ∧
  (Cond.codeWith y bytes maxL ret hh).before args s = true ∧ (Cond.initialized y.cls).before args s = true ∧ (y.cls ≠ "java/lang/invoke/MethodHandle" ∧ y.cls ≠ "java/lang/invoke/VarHandle") ∧
  (∀ sig, parseMethodDescriptor y.desc = some sig → n = sig.parameters.length) ∧ (Cond.methodLink own index y).before args s = true ∧ (Cond.static y).before args s = true
theorem vx_cwSW {own : String} {index maxL mc ms : Nat} {y : MethodName} {bytes : ByteArray} {ret : Option FieldType} {hh : List (Nat × Nat × Nat × Nat)} {Ts ws ws' : List Cond} {rm : Room} (n : Nat) (ht : ∀ w ∈ Ts, w.before args s = true) (hT : GoodIn Ts (va_wsS own index y ws)) (hw : ws = Cond.codeWith y bytes maxL ret hh :: ws') (hrc : rm.cells = mc) (hrs : rm.slots = ms)
    (hd : y.cls ≠ "java/lang/invoke/MethodHandle" ∧ y.cls ≠ "java/lang/invoke/VarHandle" ∧ (parseMethodDescriptor y.desc).map (fun d => d.parameters.length) = some n) (hR : rm.frames + 1 ≤ R.frames ∧ 8 + (maxL + 11) + rm.locals ≤ R.locals) :
    vx_CSW R s args own index y bytes maxL ret hh ws rm mc ms n := by
  have ok : ∀ w ∈ va_wsS own index y ws, w.before args s = true := fun w h => ht w (hT w h).1
  have hG : GoodIn Ts ws := fun w h => hT w (by unfold va_wsS; exact List.mem_append_right _ h)
  have hc : Cond.codeWith y bytes maxL ret hh ∈ ws := by rw [hw]; exact List.mem_cons_self
  refine ⟨⟨hrc, hrs, hR.1, hR.2, pay_in ht hG, hc⟩, ht _ (hG _ hc).1, ok _ (by simp [va_wsS]), ⟨hd.1, hd.2.1⟩, fun sig h => ?_, ok _ (by simp [va_wsS]), ok _ (by simp [va_wsS])⟩
  have h2 := hd.2.2
  rw [h] at h2
  exact (Option.some.inj h2).symm
theorem vx_callSW (X : Stand p l e R s m args below meth c T locs cells slots) (hexec : p.tables.exec = Jvm.exec) {own : String} {index : Nat} {y : MethodName} {bytes : ByteArray} {maxL : Nat} {ret : Option FieldType} {hh : List (Nat × Nat × Nat × Nat)}
    (hown : s.vm.findClass own = some m.cls) (hlink : (Cond.methodLink own index y).before args s = true) (hstat : (Cond.static y).before args s = true) (hinit : (Cond.initialized y.cls).before args s = true)
    (hcode : (Cond.codeWith y bytes maxL ret hh).before args s = true) (hy : y.cls ≠ "java/lang/invoke/MethodHandle" ∧ y.cls ≠ "java/lang/invoke/VarHandle")
    {W9 : Nat} {Pre : Pt → Array Value → Prop} {Post : Pt → Array Value → Option Value → Pt → Prop} (hK : Back l R p e below s args y 3 W9 Pre Post)
    {g : JFrame} (hg : g.method = m) (hsize : g.locals.size = c.maxLocals) {argsL rest : List Value} (hlen : ∀ sig, parseMethodDescriptor y.desc = some sig → argsL.length = sig.parameters.length)
    (hstack : g.stack = argsL.reverse ++ rest) (hW : 2 * g.monitorRoom + (rest.map fun v => v.category).sum ≤ W9) (hdg : decode c.code g.pc = .ok (.invokestatic index, 3))
    (hpre : ∀ vm₁, s.WarmedH vm₁ → Pre ⟨T.setVm vm₁, locs, cells, slots⟩ argsL.toArray) :
    ∃ (v : Option Value) (vm₁ : Vm) (B : Pt), s.WarmedH vm₁ ∧ Stand p l e R s m args below meth c B.U B.locs B.cells B.slots ∧ Post ⟨T.setVm vm₁, locs, cells, slots⟩ argsL.toArray v B ∧
      ∀ target, Steps p.tables e below (B.U.setTop { g with pc := g.pc + 3, stack := v.toList ++ rest }) target → Steps p.tables e below (T.setTop g) target := by
  obtain ⟨mk, methM, cM, hnamed, hmethM, -, -, -, -, -, -, hsigM⟩ := Cond.codeWith_spec hcode
  have hstatic : methM.isStatic = true := Cond.static_spec hnamed hmethM hstat
  obtain ⟨kP, hkP, -⟩ := className_of_methodNamed hnamed
  have hinitP : kP.init = .initialized := Cond.initialized_spec (findClass_of_methodNamed hnamed) hkP hinit
  obtain ⟨vm₁, X₁, hstep₁⟩ := X.invokestatic hexec hown hlink hnamed hmethM hstatic hkP hinitP hy (g := g) hg (argsL := argsL) (rest := rest) (hlen _ hsigM) hstack hdg
  obtain ⟨v, B, X', hpost, hsteps⟩ := hK m meth c ⟨T.setVm vm₁, locs, cells, slots⟩ { g with stack := rest } (.invokestatic index) mk argsL.toArray X₁ hg hsize hdg hW (X₁.named hnamed) (hpre vm₁ X₁.warmed)
  exact ⟨v, vm₁, B, X₁.warmed, X', hpost, fun target h => hstep₁ _ fun acts => by rw [doInvoke_state]; exact hsteps.trans h⟩
theorem vx_runSW {y : MethodName} {bytes cc : ByteArray} {maxL nL mc ms n index : Nat} {ret : Option FieldType} {hh : List (Nat × Nat × Nat × Nat)} {ws : List Cond} {rm : Room} {Pc : Array Value → State → Prop} {Qc : Array Value → State → Outcome → State → Prop} {free : Addr → Prop} {Ts : List Cond} {own : String} {As rest : List Value} {g : JFrame}
    (S : CallFix p m c cc nL s args Ts own) (hM : Met l y ws rm Pc Qc mc ms free) (cw : vx_CSW R s args own index y bytes maxL ret hh ws rm mc ms n) (hp : PreS s H Pc As)
    (hg : g.method = m) (hn : As.length = n) (hsize : g.locals.size = nL) (hstack : g.stack = As.reverse ++ rest) (hW : 2 * g.monitorRoom + (rest.map fun v => v.category).sum ≤ 8) (hdg : decode cc g.pc = .ok (.invokestatic index, 3)) (hf : cells + mc ≤ R.cells ∧ slots + ms ≤ R.slots) :
    va_Run p l e R s m args below meth c H locs cells slots mc ms g rest (Qc As.toArray) (free) := by
  obtain ⟨⟨hrc, hrs, hfr, hlo, hws, hcw⟩, hcode, hini, hy, hlen, hl, hstt⟩ := cw
  have hK : Back l R p e below s args y 3 8 (PreOf R mc ms Pc) (PostOf Qc mc ms free) := va_backW (hh := hh) (bytes := bytes) (maxL := maxL) (ret := ret) hM hp.1 hrc hrs hfr hlo hws hcw (fun a' U hW => word_at hW (Or.inl (by first | rfl | simp [Cond.onTables, Cond.keeps, Cond.steady])) hini)
  obtain ⟨hx, hb, hml, ho, -⟩ := S
  intro T hT X
  obtain ⟨v, vm₁, ⟨U', l2, c2, s2⟩, hW₁, X', ⟨g', mk, t, L, e1, e2, hq, h1, hL, h2, h3⟩, st⟩ := vx_callSW X hx (hh := hh) (bytes := bytes) (maxL := maxL) (ret := ret) ho hl hstt hini hcode hy hK hg (hsize.trans hml.symm) (argsL := As) (rest := rest) (fun sig h => hn.trans (hlen sig h)) hstack hW (by rw [hb]; exact hdg)
    (fun vm₁ hW₁ => ⟨hf.1, hf.2, hp.2 (T.setVm vm₁) hT hW₁⟩)
  dsimp only [Pt.U, Pt.locs, Pt.cells, Pt.slots] at X' e1 e2 h1 h2 h3 st
  subst h1; subst h2; subst h3
  exact ⟨v, (T.setVm vm₁).calling g' mk As.toArray, t, U', L, hT, X', hL, e1, e2, hq, st⟩
/-- not caught here, past rows that name other classes: it goes on to the caller -/
theorem vx_outP {p : Program} {l : Launch} {e : Env} {R : Room} {s : State} {m : MethodId} {args : Array Value} {below : List Frame} {meth : Method} {c : Code} {H : Heap} {locs : List Loc} {cells slots : Nat} {free : Addr → Prop} {ls : Array Slot} {rest : List Value} {Qc : Array Value → State → Outcome → State → Prop} {XC : String → State → State → Prop}
    {pc : Nat} {own E : String} {ce : Cell} {q : Addr} {mc ms : Nat} (hown : s.vm.findClass own = some m.cls) (hlocks : meth.locks = false)
    (hpass : ∀ z ∈ c.exceptionTable.toList, covers z pc = false ∨ (z.catchType ≠ 0 ∧ ∃ nm : String, (Cond.classLink own z.catchType nm).before args s = true ∧ va_Nc E nm s)) (hcell : H[q]? = some ce) (hv : ce.vm = .none) (hcl : s.vm.findClass E = some ce.cls)
    (hx : ∀ t : State, t.heap = H → s.vm.Alike t.vm → XC E s t) (hf : ∀ z ∈ locs, free z.base) (hc : cells ≤ mc) (hs : slots ≤ ms) :
    vx_W p l e R s m args below meth c H locs cells slots (vx_MQ below Qc XC args s mc ms free) (F0 m pc ls rest) q := by
  intro T hT X
  have hpl : e.platform.magicAccessors = ({} : Platform).magicAccessors := by rw [X.admits.platform]
  obtain ⟨vm', hW', X', st⟩ := X.outThrough hlocks q (g := F0 m pc ls rest) rfl rfl rfl (cell := ce) (by rw [hT]; exact hcell) (by rw [hv]; rfl)
    (by obtain ⟨k9, h9, -⟩ := Vm.findClass_spec hcl; exact ⟨k9, h9⟩) (fun z hz => by
      rcases hpass z hz with h | ⟨hz0, nm, hl1, hn1⟩
      · exact Or.inl h
      · obtain ⟨c6, hc6, hcl6⟩ := Cond.classLink_spec hown hl1 e.platform hpl
        obtain ⟨a8, b8, h1, h2, h3⟩ := hn1
        cases Option.some.inj (h1.symm.trans hcl)
        cases Option.some.inj (h2.symm.trans hc6)
        exact Or.inr ⟨hz0, _, hcl6, h3⟩)
  obtain ⟨g₀, hfr⟩ := X'.frames_eq
  have hcell9 : ((T.setVm vm').setFrames (.throwing q :: below)).heap[q]? = some ce := by
    show T.heap[q]? = some ce
    rw [hT]; exact hcell
  have hend : Ended ((T.setVm vm').setFrames (.throwing q :: below)) below (.threw q) := State.frames_setFrames _ (State.cur_lt_of_frames hfr)
  refine ⟨(T.setVm vm').setFrames (.throwing q :: below), ?_, .threw q, X'.here.running, hend, Or.inr ⟨q, rfl, E, ce, locs, hx _ hT (X'.ends _).1.alike, hcell9, hv, hcl, (X'.ends _).1, (X'.ends _).2.mono hc hs, hf⟩⟩
  rw [X.pushThrowing_eq]
  exact st
/-- a thing of a world lies in the heap -/
theorem vx_lt {D : va_G} {cl : List vw_C} {ws : va_W} {H1 : Heap} (h : va_P D cl ws H1) {k : Nat} {q : Nat × va_E} (hk : ws[k]? = some q) : q.1 < H1.size := (h k q hk).lt
end VXS
/-! ===== END ===== -/
/-! ===== BEGIN methods with a table of their own: called by a name, returning or throwing ===== -/
section VXH
/-! vx_backW, vx_callVX, vx_callSX, vx_callVW, vx_runVW, vx_runVX, vx_runSX, vx_ofWH follow the same proofs as their sisters above (Free/Laws.lean, Shelf42/LK1.lean); vx_outP calls Shelf42/NT130.lean (outThrough). -/
section
variable {l : Launch} {R : Room} {p : Program} {e : Env} {below : List Frame} {s : State} {sargs : Array Value} {y : MethodName} {len W9 : Nat}
theorem vx_backW {ws : List Cond} {rm : Room} {Pc : Array Value → State → Prop} {Qc : Array Value → State → Outcome → State → Prop} {XC : String → State → State → Prop} {mc ms : Nat} {free : Addr → Prop} {bytes : ByteArray} {maxL : Nat} {ret : Option FieldType} {hh : List (Nat × Nat × Nat × Nat)}
    (hM : vx_Met l y ws rm Pc Qc XC mc ms free) (hblind : FrameBlind Pc) (hrc : rm.cells = mc) (hrs : rm.slots = ms)
    (hframes : rm.frames + 1 ≤ R.frames) (hlocals : W9 + (maxL + 11) + rm.locals ≤ R.locals)
    (hws : ∀ w ∈ ws, ∀ a' U, s.WarmedH U.vm → w.before a' U = true) (hcode : Cond.codeWith y bytes maxL ret hh ∈ ws) (hinit : ∀ a' U, s.WarmedH U.vm → (Cond.initialized y.cls).before a' U = true) :
    vx_Back l R p e below s sargs y len W9 (PreOf R mc ms Pc) (PostOf Qc mc ms free) (vx_Post XC mc ms free) := by
  intro m meth c A g ig mk a X hg hsize hdg hW hn hp
  have h1 : (headSpec ws rm).pre.before a A.U = true := atoms_intro fun w hw => hws w hw _ _ X.warmed
  have h2 : (Cond.codeWith y bytes maxL ret hh).before a A.U = true := hws _ hcode _ _ X.warmed
  have h3 : (Cond.initialized y.cls).before a A.U = true := hinit _ _ X.warmed
  have h4 : A.cells + (headSpec ws rm).room.cells ≤ R.cells := by rw [show (headSpec ws rm).room.cells = mc from hrc]; exact hp.1
  have h5 : A.slots + (headSpec ws rm).room.slots ≤ R.slots := by rw [show (headSpec ws rm).room.slots = ms from hrs]; exact hp.2.1
  have hPc : Pc a (A.U.calling g mk a) := hblind _ _ _ _ hp.2.2
  obtain ⟨U, Ls, c0, s0⟩ := A
  dsimp only [Pt.U, Pt.locs, Pt.cells, Pt.slots] at h1 h2 h3 h4 h5 X hn hPc ⊢
  obtain ⟨m9, methY, cY, hn9, hmY, hcY, -, hlY, -⟩ := Cond.codeWith_spec h2
  cases Option.some.inj (hn9.symm.trans hn)
  obtain ⟨kY, hkY, -⟩ := className_of_methodNamed hn
  have hinitY : kY.init = .initialized := Cond.initialized_spec (findClass_of_methodNamed hn) hkY h3
  have h : At U g.method c below := by rw [hg]; exact X.here
  have hlocals9 : W9 + (maxL + 11) + (headSpec ws rm).room.locals ≤ R.locals := hlocals
  have happ : (headSpec ws rm).appliesLoose y e.platform (U.calling g mk a) = true :=
    Spec.appliesLoose_calling (g := g) h hdg hn hkY hinitY
      (X.room_calling (g := g) (R' := (headSpec ws rm).room) hsize hmY hcY hframes (by rw [hlY]; omega) h4 h5) h1
  obtain ⟨mid, hmid⟩ := h.above
  have hfr : (U.setTop g).frames = (.java g :: mid) ++ below := by rw [State.frames_setTop' g h.top, hmid]; rfl
  obtain ⟨o, s₂, hsteps, -, hend, hq⟩ := Steps.callFree hM p X.admits X.cas X.clock (acts := []) hfr happ hPc trivial
  have hq' : vx_Q Qc XC mc ms free a (U.calling g mk a) o s₂ := hq
  rw [State.frames_setTop' g h.top] at hend
  obtain ⟨g₀, hg0⟩ := Option.isSome_iff_exists.mp h.top
  obtain ⟨r, hr⟩ := State.topJava?_eq_some.mp hg0
  have hr' : (({ U with heap := s₂.heap, slotsUsed := s₂.slotsUsed } : State).setVm s₂.vm).frames = .java g₀ :: r := hr
  rcases hq' with ⟨hqc, L, hfe, hL⟩ | ⟨q, rfl, E, ce, L, hx, hce, hcv, hcl, hW₂, hsm, hL⟩
  · obtain ⟨⟨v, rfl⟩, hW₂, e2, q2, q3, q4, q5, q6⟩ := id hfe
    have e3 : s₂ = ({ (U.calling g mk a).setFrames s₂.frames with heap := s₂.heap, slotsUsed := s₂.slotsUsed } : State).setVm s₂.vm := by
      have : s₂ = ({ s₂ with vm := (U.calling g mk a).vm } : State).setVm s₂.vm := rfl
      rw [e2] at this
      exact this
    obtain ⟨c₂, i₂, len₂, hc₂, hd₂, hf₂⟩ := hend
    have hW' : U.WarmedH s₂.vm := hW₂
    have hcc : c₂ = c := by
      have h1 : s₂.code? g.method = U.code? g.method := by
        rw [State.code?_eq, State.code?_eq, hW'.alike.method?]
      exact Option.some.inj (hc₂.symm.trans (h1.trans h.code))
    subst hcc
    have hlen : len₂ = len := by rw [hdg] at hd₂; cases hd₂; rfl
    subst hlen
    have hs₂ : s₂ = (({ U with heap := s₂.heap, slotsUsed := s₂.slotsUsed } : State).setVm s₂.vm).setTop { g with pc := g.pc + len₂, stack := v.toList ++ g.stack } := by
      refine e3.trans ?_
      rw [hf₂, State.calling_eq h.top, State.setFrames_setFrames, State.setTop_of_frames _ hr', hr]
      rfl
    have hsame : U.sameButNew ({ U with heap := s₂.heap, slotsUsed := s₂.slotsUsed } : State) L mc ms := by
      refine ⟨?_, q2, q3, q4, q5, q6⟩
      obtain ⟨t, ht, -⟩ := State.frames_cons hr
      show ({ U with heap := s₂.heap, slotsUsed := s₂.slotsUsed } : State) = { U.setFrames U.frames with heap := s₂.heap, slotsUsed := s₂.slotsUsed }
      rw [State.setFrames_self ht]
    subst hg
    refine Or.inl ⟨v, ⟨(({ U with heap := s₂.heap, slotsUsed := s₂.slotsUsed } : State).setVm s₂.vm), Ls ++ L, c0 + mc, s0 + ms⟩,
      ⟨X.admits, X.cas, X.clock, X.frames, X.room, X.hears, X.method, X.code, (X.here.setHeapUsed s₂.heap s₂.slotsUsed).setVm hW'.alike, X.tail, State.WarmedH.trans X.warmed hW', X.limits, X.bytes, X.same.trans (hsame.setVm s.vm)⟩,
      ⟨g, mk, s₂, L, rfl, rfl, hqc, rfl, hL, rfl, rfl⟩, ?_⟩
    show Steps p.tables e below _ ((({ U with heap := s₂.heap, slotsUsed := s₂.slotsUsed } : State).setVm s₂.vm).setTop { g with pc := g.pc + len₂, stack := v.toList ++ g.stack })
    rw [← hs₂]
    exact hsteps
  · obtain ⟨e2, q2, q3, q4, q5, q6⟩ := id hsm
    have e3 : s₂ = ({ (U.calling g mk a).setFrames s₂.frames with heap := s₂.heap, slotsUsed := s₂.slotsUsed } : State).setVm s₂.vm := by
      have : s₂ = ({ s₂ with vm := (U.calling g mk a).vm } : State).setVm s₂.vm := rfl
      rw [e2] at this
      exact this
    have hf₂ : s₂.frames = .throwing q :: .java g :: U.frames.tail := hend
    have hW' : U.WarmedH s₂.vm := hW₂
    have hs₂ : s₂ = ((({ U with heap := s₂.heap, slotsUsed := s₂.slotsUsed } : State).setVm s₂.vm).setTop g).pushFrame (.throwing q) := by
      refine e3.trans ?_
      rw [hf₂, State.calling_eq h.top, State.setFrames_setFrames, State.pushFrame, State.frames_setTop _ hr', State.setTop_of_frames _ hr', State.setFrames_setFrames, hr]
      rfl
    have hsame : U.sameButNew ({ U with heap := s₂.heap, slotsUsed := s₂.slotsUsed } : State) L mc ms := by
      refine ⟨?_, q2, q3, q4, q5, q6⟩
      obtain ⟨t, ht, -⟩ := State.frames_cons hr
      show ({ U with heap := s₂.heap, slotsUsed := s₂.slotsUsed } : State) = { U.setFrames U.frames with heap := s₂.heap, slotsUsed := s₂.slotsUsed }
      rw [State.setFrames_self ht]
    subst hg
    refine Or.inr ⟨q, ⟨(({ U with heap := s₂.heap, slotsUsed := s₂.slotsUsed } : State).setVm s₂.vm), Ls ++ L, c0 + mc, s0 + ms⟩,
      ⟨X.admits, X.cas, X.clock, X.frames, X.room, X.hears, X.method, X.code, (X.here.setHeapUsed s₂.heap s₂.slotsUsed).setVm hW'.alike, X.tail, State.WarmedH.trans X.warmed hW', X.limits, X.bytes, X.same.trans (hsame.setVm s.vm)⟩,
      ⟨g, mk, s₂, L, E, ce, rfl, rfl, hx, hce, hcv, hcl, rfl, hL, rfl, rfl⟩, ?_⟩
    show Steps p.tables e below _ (((({ U with heap := s₂.heap, slotsUsed := s₂.slotsUsed } : State).setVm s₂.vm).setTop g).pushFrame (.throwing q))
    rw [← hs₂]
    exact hsteps
end
variable {p : Program} {l : Launch} {e : Env} {R : Room} {s : State} {m : MethodId} {args : Array Value} {below : List Frame} {meth : Method} {c : Code} {T : State} {H : Heap} {locs : List Loc} {cells slots : Nat}
theorem vx_callVX (X : Stand p l e R s m args below meth c T locs cells slots) (hexec : p.tables.exec = Jvm.exec) {own C : String} {index : Nat} {y : MethodName} {bytes : ByteArray} {maxL : Nat} {ret : Option FieldType} {hh : List (Nat × Nat × Nat × Nat)}
    (hown : s.vm.findClass own = some m.cls) (hlink : (Cond.methodLink own index y).before args s = true) (hinst : (Cond.instanceMethod y).before args s = true) (hsel : (Cond.selects C y y).before args s = true)
    (hcode : (Cond.codeWith y bytes maxL ret hh).before args s = true) (hy : y.cls ≠ "java/lang/invoke/MethodHandle" ∧ y.cls ≠ "java/lang/invoke/VarHandle")
    {W9 : Nat} {Pre : Pt → Array Value → Prop} {Post : Pt → Array Value → Option Value → Pt → Prop} {PostX : Pt → Array Value → Addr → Pt → Prop} (hK : vx_Back l R p e below s args y 3 W9 Pre Post PostX)
    {b : Addr} {cellB : Cell} (hcell : T.heap[b]? = some cellB) (hobj : cellB.vm.isStatics = false) (hcls : s.vm.findClass C = some cellB.cls)
    {g : JFrame} (hg : g.method = m) (hsize : g.locals.size = c.maxLocals) {argsL rest : List Value} (hlen : ∀ sig, parseMethodDescriptor y.desc = some sig → argsL.length = sig.parameters.length)
    (hstack : g.stack = argsL.reverse ++ .ref b :: rest) (hW : 2 * g.monitorRoom + (rest.map fun v => v.category).sum ≤ W9) (hdg : decode c.code g.pc = .ok (.invokevirtual index, 3))
    (hpre : ∀ vm₁, s.WarmedH vm₁ → Pre ⟨T.setVm vm₁, locs, cells, slots⟩ (Value.ref b :: argsL).toArray) :
    (∃ (v : Option Value) (vm₁ : Vm) (B : Pt), s.WarmedH vm₁ ∧ Stand p l e R s m args below meth c B.U B.locs B.cells B.slots ∧ Post ⟨T.setVm vm₁, locs, cells, slots⟩ (Value.ref b :: argsL).toArray v B ∧
      ∀ target, Steps p.tables e below (B.U.setTop { g with pc := g.pc + 3, stack := v.toList ++ rest }) target → Steps p.tables e below (T.setTop g) target) ∨
    (∃ (q : Addr) (vm₁ : Vm) (B : Pt), s.WarmedH vm₁ ∧ Stand p l e R s m args below meth c B.U B.locs B.cells B.slots ∧ PostX ⟨T.setVm vm₁, locs, cells, slots⟩ (Value.ref b :: argsL).toArray q B ∧
      Steps p.tables e below (T.setTop g) ((B.U.setTop { g with stack := rest }).pushFrame (.throwing q))) := by
  obtain ⟨mk, methM, hnamed, hmethM, hstM, habM⟩ := Cond.instanceMethod_spec hinst
  obtain ⟨m8, methM', cM, hn8, hmethM', -, -, -, -, -, -, hsigM⟩ := Cond.codeWith_spec hcode
  cases Option.some.inj (hn8.symm.trans hnamed)
  cases hmethM.symm.trans hmethM'
  obtain ⟨c2, r2, m2, q1, q2, q3, q4, kP, hkP, hkPi⟩ := Cond.selects_spec hsel
  cases hcls.symm.trans q1
  cases (State.methodFound?_of_named hnamed hy).symm.trans q2
  cases hnamed.symm.trans q3
  have hselP : selectMethod e.platform s.vm cellB.cls mk = .method mk := by rw [Launch.admits_selectMethod X.admits]; exact q4
  obtain ⟨vm₁, X₁, hstep₁⟩ := X.invokevirtual hexec hown hlink hnamed hmethM hstM hkP hkPi hy (a := b) (cell := cellB) hcell
    (fun z h => by rw [h] at hobj; cases hobj) hselP hmethM habM hkP hkPi (g := g) hg (argsL := argsL) (rest := rest) (hlen _ hsigM) hstack hdg
  rcases hK m meth c ⟨T.setVm vm₁, locs, cells, slots⟩ { g with stack := rest } (.invokevirtual index) mk (Value.ref b :: argsL).toArray X₁ hg hsize hdg hW (X₁.named hnamed) (hpre vm₁ X₁.warmed) with ⟨v, B, X', hpost, hsteps⟩ | ⟨q, B, X', hpost, hsteps⟩
  · exact Or.inl ⟨v, vm₁, B, X₁.warmed, X', hpost, fun target h => hstep₁ _ fun acts => by rw [doInvoke_state]; exact hsteps.trans h⟩
  · exact Or.inr ⟨q, vm₁, B, X₁.warmed, X', hpost, hstep₁ _ fun acts => by rw [doInvoke_state]; exact hsteps⟩
theorem vx_callSX (X : Stand p l e R s m args below meth c T locs cells slots) (hexec : p.tables.exec = Jvm.exec) {own : String} {index : Nat} {y : MethodName} {bytes : ByteArray} {maxL : Nat} {ret : Option FieldType} {hh : List (Nat × Nat × Nat × Nat)}
    (hown : s.vm.findClass own = some m.cls) (hlink : (Cond.methodLink own index y).before args s = true) (hstat : (Cond.static y).before args s = true) (hinit : (Cond.initialized y.cls).before args s = true)
    (hcode : (Cond.codeWith y bytes maxL ret hh).before args s = true) (hy : y.cls ≠ "java/lang/invoke/MethodHandle" ∧ y.cls ≠ "java/lang/invoke/VarHandle")
    {W9 : Nat} {Pre : Pt → Array Value → Prop} {Post : Pt → Array Value → Option Value → Pt → Prop} {PostX : Pt → Array Value → Addr → Pt → Prop} (hK : vx_Back l R p e below s args y 3 W9 Pre Post PostX)
    {g : JFrame} (hg : g.method = m) (hsize : g.locals.size = c.maxLocals) {argsL rest : List Value} (hlen : ∀ sig, parseMethodDescriptor y.desc = some sig → argsL.length = sig.parameters.length)
    (hstack : g.stack = argsL.reverse ++ rest) (hW : 2 * g.monitorRoom + (rest.map fun v => v.category).sum ≤ W9) (hdg : decode c.code g.pc = .ok (.invokestatic index, 3))
    (hpre : ∀ vm₁, s.WarmedH vm₁ → Pre ⟨T.setVm vm₁, locs, cells, slots⟩ argsL.toArray) :
    (∃ (v : Option Value) (vm₁ : Vm) (B : Pt), s.WarmedH vm₁ ∧ Stand p l e R s m args below meth c B.U B.locs B.cells B.slots ∧ Post ⟨T.setVm vm₁, locs, cells, slots⟩ argsL.toArray v B ∧
      ∀ target, Steps p.tables e below (B.U.setTop { g with pc := g.pc + 3, stack := v.toList ++ rest }) target → Steps p.tables e below (T.setTop g) target) ∨
    (∃ (q : Addr) (vm₁ : Vm) (B : Pt), s.WarmedH vm₁ ∧ Stand p l e R s m args below meth c B.U B.locs B.cells B.slots ∧ PostX ⟨T.setVm vm₁, locs, cells, slots⟩ argsL.toArray q B ∧
      Steps p.tables e below (T.setTop g) ((B.U.setTop { g with stack := rest }).pushFrame (.throwing q))) := by
  obtain ⟨mk, methM, cM, hnamed, hmethM, -, -, -, -, -, -, hsigM⟩ := Cond.codeWith_spec hcode
  have hstatic : methM.isStatic = true := Cond.static_spec hnamed hmethM hstat
  obtain ⟨kP, hkP, -⟩ := className_of_methodNamed hnamed
  have hinitP : kP.init = .initialized := Cond.initialized_spec (findClass_of_methodNamed hnamed) hkP hinit
  obtain ⟨vm₁, X₁, hstep₁⟩ := X.invokestatic hexec hown hlink hnamed hmethM hstatic hkP hinitP hy (g := g) hg (argsL := argsL) (rest := rest) (hlen _ hsigM) hstack hdg
  rcases hK m meth c ⟨T.setVm vm₁, locs, cells, slots⟩ { g with stack := rest } (.invokestatic index) mk argsL.toArray X₁ hg hsize hdg hW (X₁.named hnamed) (hpre vm₁ X₁.warmed) with ⟨v, B, X', hpost, hsteps⟩ | ⟨q, B, X', hpost, hsteps⟩
  · exact Or.inl ⟨v, vm₁, B, X₁.warmed, X', hpost, fun target h => hstep₁ _ fun acts => by rw [doInvoke_state]; exact hsteps.trans h⟩
  · exact Or.inr ⟨q, vm₁, B, X₁.warmed, X', hpost, hstep₁ _ fun acts => by rw [doInvoke_state]; exact hsteps⟩
theorem vx_callVW (X : Stand p l e R s m args below meth c T locs cells slots) (hexec : p.tables.exec = Jvm.exec) {own C : String} {index : Nat} {y : MethodName} {bytes : ByteArray} {maxL : Nat} {ret : Option FieldType} {hh : List (Nat × Nat × Nat × Nat)}
    (hown : s.vm.findClass own = some m.cls) (hlink : (Cond.methodLink own index y).before args s = true) (hinst : (Cond.instanceMethod y).before args s = true) (hsel : (Cond.selects C y y).before args s = true)
    (hcode : (Cond.codeWith y bytes maxL ret hh).before args s = true) (hy : y.cls ≠ "java/lang/invoke/MethodHandle" ∧ y.cls ≠ "java/lang/invoke/VarHandle")
    {W9 : Nat} {Pre : Pt → Array Value → Prop} {Post : Pt → Array Value → Option Value → Pt → Prop} (hK : Back l R p e below s args y 3 W9 Pre Post)
    {b : Addr} {cellB : Cell} (hcell : T.heap[b]? = some cellB) (hobj : cellB.vm.isStatics = false) (hcls : s.vm.findClass C = some cellB.cls)
    {g : JFrame} (hg : g.method = m) (hsize : g.locals.size = c.maxLocals) {argsL rest : List Value} (hlen : ∀ sig, parseMethodDescriptor y.desc = some sig → argsL.length = sig.parameters.length)
    (hstack : g.stack = argsL.reverse ++ .ref b :: rest) (hW : 2 * g.monitorRoom + (rest.map fun v => v.category).sum ≤ W9) (hdg : decode c.code g.pc = .ok (.invokevirtual index, 3))
    (hpre : ∀ vm₁, s.WarmedH vm₁ → Pre ⟨T.setVm vm₁, locs, cells, slots⟩ (Value.ref b :: argsL).toArray) :
    ∃ (v : Option Value) (vm₁ : Vm) (B : Pt), s.WarmedH vm₁ ∧ Stand p l e R s m args below meth c B.U B.locs B.cells B.slots ∧ Post ⟨T.setVm vm₁, locs, cells, slots⟩ (Value.ref b :: argsL).toArray v B ∧
      ∀ target, Steps p.tables e below (B.U.setTop { g with pc := g.pc + 3, stack := v.toList ++ rest }) target → Steps p.tables e below (T.setTop g) target := by
  obtain ⟨mk, methM, hnamed, hmethM, hstM, habM⟩ := Cond.instanceMethod_spec hinst
  obtain ⟨m8, methM', cM, hn8, hmethM', -, -, -, -, -, -, hsigM⟩ := Cond.codeWith_spec hcode
  cases Option.some.inj (hn8.symm.trans hnamed)
  cases hmethM.symm.trans hmethM'
  obtain ⟨c2, r2, m2, q1, q2, q3, q4, kP, hkP, hkPi⟩ := Cond.selects_spec hsel
  cases hcls.symm.trans q1
  cases (State.methodFound?_of_named hnamed hy).symm.trans q2
  cases hnamed.symm.trans q3
  have hselP : selectMethod e.platform s.vm cellB.cls mk = .method mk := by rw [Launch.admits_selectMethod X.admits]; exact q4
  obtain ⟨vm₁, X₁, hstep₁⟩ := X.invokevirtual hexec hown hlink hnamed hmethM hstM hkP hkPi hy (a := b) (cell := cellB) hcell
    (fun z h => by rw [h] at hobj; cases hobj) hselP hmethM habM hkP hkPi (g := g) hg (argsL := argsL) (rest := rest) (hlen _ hsigM) hstack hdg
  obtain ⟨v, B, X', hpost, hsteps⟩ := hK m meth c ⟨T.setVm vm₁, locs, cells, slots⟩ { g with stack := rest } (.invokevirtual index) mk (Value.ref b :: argsL).toArray X₁ hg hsize hdg hW (X₁.named hnamed) (hpre vm₁ X₁.warmed)
  exact ⟨v, vm₁, B, X₁.warmed, X', hpost, fun target h => hstep₁ _ fun acts => by rw [doInvoke_state]; exact hsteps.trans h⟩
abbrev vx_CVW (R : Room) (s : State) (args : Array Value) (own C : String) (index : Nat) (y : MethodName) (bytes : ByteArray) (maxL : Nat) (ret : Option FieldType) (hh : List (Nat × Nat × Nat × Nat)) (ws : List Cond) (rm : Room) (mc ms n : Nat) : Prop :=
  (rm.cells = mc ∧ rm.slots = ms ∧ rm.frames + 1 ≤ R.frames ∧ 8 + (maxL + 11) + rm.locals ≤ R.locals ∧ (∀ w ∈ ws, ∀ (a' : Array Value) (U : State), s.WarmedH U.vm → w.before a' U = true) ∧ Cond.codeWith y bytes maxL ret hh ∈ ws) ∧
  (Cond.codeWith y bytes maxL ret hh).before args s = true ∧ (Cond.initialized y.cls).before args s = true ∧ (y.cls ≠ "java/lang/invoke/MethodHandle" ∧ y.cls ≠ "java/lang/invoke/VarHandle") ∧
  (∀ sig, parseMethodDescriptor y.desc = some sig → n = sig.parameters.length) ∧ (Cond.methodLink own index y).before args s = true ∧ (Cond.instanceMethod y).before args s = true ∧ (Cond.selects C y y).before args s = true
theorem vx_cwVW {own C : String} {index maxL mc ms : Nat} {y : MethodName} {bytes : ByteArray} {ret : Option FieldType} {hh : List (Nat × Nat × Nat × Nat)} {Ts ws ws' : List Cond} {rm : Room} (n : Nat) (ht : ∀ w ∈ Ts, w.before args s = true) (hT : GoodIn Ts (wsV own index C y ws)) (hw : ws = Cond.codeWith y bytes maxL ret hh :: ws') (hrc : rm.cells = mc) (hrs : rm.slots = ms)
    (hd : y.cls = C ∧ y.cls ≠ "java/lang/invoke/MethodHandle" ∧ y.cls ≠ "java/lang/invoke/VarHandle" ∧ (parseMethodDescriptor y.desc).map (fun d => d.parameters.length) = some n) (hR : rm.frames + 1 ≤ R.frames ∧ 8 + (maxL + 11) + rm.locals ≤ R.locals) :
    vx_CVW R s args own C index y bytes maxL ret hh ws rm mc ms n := by
  obtain ⟨hC, hd⟩ := hd
  subst hC
  have ok : ∀ w ∈ wsV own index y.cls y ws, w.before args s = true := fun w h => ht w (hT w h).1
  have hG : GoodIn Ts ws := fun w h => hT w (by unfold wsV; exact List.mem_append_right _ h)
  have hc : Cond.codeWith y bytes maxL ret hh ∈ ws := by rw [hw]; exact List.mem_cons_self
  refine ⟨⟨hrc, hrs, hR.1, hR.2, pay_in ht hG, hc⟩, ht _ (hG _ hc).1, ok _ (by simp [wsV]), ⟨hd.1, hd.2.1⟩, fun sig h => ?_, ok _ (by simp [wsV]), ok _ (by simp [wsV]), ok _ (by simp [wsV])⟩
  have h2 := hd.2.2
  rw [h] at h2
  exact (Option.some.inj h2).symm
theorem vx_runVW {y : MethodName} {bytes cc : ByteArray} {maxL nL mc ms n index : Nat} {ret : Option FieldType} {hh : List (Nat × Nat × Nat × Nat)} {ws : List Cond} {rm : Room} {Pc : Array Value → State → Prop} {Qc : Array Value → State → Outcome → State → Prop} {free : Addr → Prop} {Ts : List Cond} {own C : String} {b : Addr} {As rest : List Value} {g : JFrame}
    (S : CallFix p m c cc nL s args Ts own) (hM : Met l y ws rm Pc Qc mc ms free) (cw : vx_CVW R s args own C index y bytes maxL ret hh ws rm mc ms n) (hp : PreV s H C b Pc As)
    (hg : g.method = m) (hn : As.length = n) (hsize : g.locals.size = nL) (hstack : g.stack = As.reverse ++ .ref b :: rest) (hW : 2 * g.monitorRoom + (rest.map fun v => v.category).sum ≤ 8) (hdg : decode cc g.pc = .ok (.invokevirtual index, 3)) (hf : cells + mc ≤ R.cells ∧ slots + ms ≤ R.slots) :
    va_Run p l e R s m args below meth c H locs cells slots mc ms g rest (Qc (Value.ref b :: As).toArray) free := by
  obtain ⟨⟨hrc, hrs, hfr, hlo, hws, hcw⟩, hcode, hini, hy, hlen, hl, hin, hse⟩ := cw
  have hK : Back l R p e below s args y 3 8 (PreOf R mc ms Pc) (PostOf Qc mc ms free) := va_backW (hh := hh) (bytes := bytes) (maxL := maxL) (ret := ret) hM hp.1 hrc hrs hfr hlo hws hcw (fun a' U hW => word_at hW (Or.inl (by first | rfl | simp [Cond.onTables, Cond.keeps, Cond.steady])) hini)
  obtain ⟨hx, hb, hml, ho, -⟩ := S
  obtain ⟨-, ⟨cellB, hcB, hoB, hclB⟩, hPc⟩ := hp
  intro T hT X
  obtain ⟨v, vm₁, ⟨U', l2, c2, s2⟩, hW₁, X', ⟨g', mk, t, L, e1, e2, hq, h1, hL, h2, h3⟩, st⟩ := vx_callVW X hx (C := C) (hh := hh) (bytes := bytes) (maxL := maxL) (ret := ret) ho hl hin hse hcode hy hK (by rw [hT]; exact hcB) hoB hclB hg (hsize.trans hml.symm) (argsL := As) (rest := rest) (fun sig h => hn.trans (hlen sig h)) hstack hW (by rw [hb]; exact hdg)
    (fun vm₁ hW₁ => ⟨hf.1, hf.2, hPc (T.setVm vm₁) hT hW₁⟩)
  dsimp only [Pt.U, Pt.locs, Pt.cells, Pt.slots] at X' e1 e2 h1 h2 h3 st
  subst h1; subst h2; subst h3
  exact ⟨v, (T.setVm vm₁).calling g' mk (Value.ref b :: As).toArray, t, U', L, hT, X', hL, e1, e2, hq, st⟩
section
variable {y : MethodName} {bytes cc : ByteArray} {maxL nL mc ms n index : Nat} {ret : Option FieldType} {ws : List Cond} {rm : Room} {Pc : Array Value → State → Prop} {Qc : Array Value → State → Outcome → State → Prop} {XC : String → State → State → Prop} {free : Addr → Prop} {Ts : List Cond} {own C : String} {b : Addr} {As rest : List Value} {g : JFrame}
theorem vx_runVX {hh : List (Nat × Nat × Nat × Nat)} (S : CallFix p m c cc nL s args Ts own) (hM : vx_Met l y ws rm Pc Qc XC mc ms free) (cw : vx_CVW R s args own C index y bytes maxL ret hh ws rm mc ms n) (hp : PreV s H C b Pc As)
    (hg : g.method = m) (hn : As.length = n) (hsize : g.locals.size = nL) (hstack : g.stack = As.reverse ++ .ref b :: rest) (hW : 2 * g.monitorRoom + (rest.map fun v => v.category).sum ≤ 8) (hdg : decode cc g.pc = .ok (.invokevirtual index, 3)) (hf : cells + mc ≤ R.cells ∧ slots + ms ≤ R.slots) :
    vx_Run p l e R s m args below meth c H locs cells slots mc ms g rest (Qc (Value.ref b :: As).toArray) XC free := by
  obtain ⟨⟨hrc, hrs, hfr, hlo, hws, hcw⟩, hcode, hini, hy, hlen, hl, hin, hse⟩ := cw
  have hK : vx_Back l R p e below s args y 3 8 (PreOf R mc ms Pc) (PostOf Qc mc ms free) (vx_Post XC mc ms free) := vx_backW (hh := hh) (bytes := bytes) (maxL := maxL) (ret := ret) hM hp.1 hrc hrs hfr hlo hws hcw (fun a' U hW => word_at hW (Or.inl (by first | rfl | simp [Cond.onTables, Cond.keeps, Cond.steady])) hini)
  obtain ⟨hx, hb, hml, ho, -⟩ := S
  obtain ⟨-, ⟨cellB, hcB, hoB, hclB⟩, hPc⟩ := hp
  intro T hT X
  rcases vx_callVX X hx (C := C) (hh := hh) (bytes := bytes) (maxL := maxL) (ret := ret) ho hl hin hse hcode hy hK (by rw [hT]; exact hcB) hoB hclB hg (hsize.trans hml.symm) (argsL := As) (rest := rest) (fun sig h => hn.trans (hlen sig h)) hstack hW (by rw [hb]; exact hdg)
    (fun vm₁ hW₁ => ⟨hf.1, hf.2, hPc (T.setVm vm₁) hT hW₁⟩) with ⟨v, vm₁, ⟨U', l2, c2, s2⟩, hW₁, X', ⟨g', mk, t, L, e1, e2, hq, h1, hL, h2, h3⟩, st⟩ | ⟨q, vm₁, ⟨U', l2, c2, s2⟩, hW₁, X', ⟨g', mk, t, L, E, ce, e1, e2, hq, hce, hcv, hcl, h1, hL, h2, h3⟩, st⟩
  · dsimp only [Pt.U, Pt.locs, Pt.cells, Pt.slots] at X' e1 e2 h1 h2 h3 st
    subst h1; subst h2; subst h3
    exact Or.inl ⟨v, (T.setVm vm₁).calling g' mk (Value.ref b :: As).toArray, t, U', L, hT, X', hL, e1, e2, hq, st⟩
  · dsimp only [Pt.U, Pt.locs, Pt.cells, Pt.slots] at X' e1 e2 h1 h2 h3 st hcl
    subst h1; subst h2; subst h3
    exact Or.inr ⟨q, (T.setVm vm₁).calling g' mk (Value.ref b :: As).toArray, t, U', L, E, ce, hT, X', hL, e1, e2, hq, hce, hcv, vx_cls hW₁ hcl, st⟩
theorem vx_runSX {hh : List (Nat × Nat × Nat × Nat)} (S : CallFix p m c cc nL s args Ts own) (hM : vx_Met l y ws rm Pc Qc XC mc ms free) (cw : vx_CSW R s args own index y bytes maxL ret hh ws rm mc ms n) (hp : PreS s H Pc As)
    (hg : g.method = m) (hn : As.length = n) (hsize : g.locals.size = nL) (hstack : g.stack = As.reverse ++ rest) (hW : 2 * g.monitorRoom + (rest.map fun v => v.category).sum ≤ 8) (hdg : decode cc g.pc = .ok (.invokestatic index, 3)) (hf : cells + mc ≤ R.cells ∧ slots + ms ≤ R.slots) :
    vx_Run p l e R s m args below meth c H locs cells slots mc ms g rest (Qc As.toArray) XC free := by
  obtain ⟨⟨hrc, hrs, hfr, hlo, hws, hcw⟩, hcode, hini, hy, hlen, hl, hstt⟩ := cw
  have hK : vx_Back l R p e below s args y 3 8 (PreOf R mc ms Pc) (PostOf Qc mc ms free) (vx_Post XC mc ms free) := vx_backW (hh := hh) (bytes := bytes) (maxL := maxL) (ret := ret) hM hp.1 hrc hrs hfr hlo hws hcw (fun a' U hW => word_at hW (Or.inl (by first | rfl | simp [Cond.onTables, Cond.keeps, Cond.steady])) hini)
  obtain ⟨hx, hb, hml, ho, -⟩ := S
  intro T hT X
  rcases vx_callSX X hx (hh := hh) (bytes := bytes) (maxL := maxL) (ret := ret) ho hl hstt hini hcode hy hK hg (hsize.trans hml.symm) (argsL := As) (rest := rest) (fun sig h => hn.trans (hlen sig h)) hstack hW (by rw [hb]; exact hdg)
    (fun vm₁ hW₁ => ⟨hf.1, hf.2, hp.2 (T.setVm vm₁) hT hW₁⟩) with ⟨v, vm₁, ⟨U', l2, c2, s2⟩, hW₁, X', ⟨g', mk, t, L, e1, e2, hq, h1, hL, h2, h3⟩, st⟩ | ⟨q, vm₁, ⟨U', l2, c2, s2⟩, hW₁, X', ⟨g', mk, t, L, E, ce, e1, e2, hq, hce, hcv, hcl, h1, hL, h2, h3⟩, st⟩
  · dsimp only [Pt.U, Pt.locs, Pt.cells, Pt.slots] at X' e1 e2 h1 h2 h3 st
    subst h1; subst h2; subst h3
    exact Or.inl ⟨v, (T.setVm vm₁).calling g' mk As.toArray, t, U', L, hT, X', hL, e1, e2, hq, st⟩
  · dsimp only [Pt.U, Pt.locs, Pt.cells, Pt.slots] at X' e1 e2 h1 h2 h3 st hcl
    subst h1; subst h2; subst h3
    exact Or.inr ⟨q, (T.setVm vm₁).calling g' mk As.toArray, t, U', L, E, ce, hT, X', hL, e1, e2, hq, hce, hcv, vx_cls hW₁ hcl, st⟩
end
end VXH
theorem vx_ofWH {l : Launch} {y : MethodName} {ws ws' : List Cond} {rm : Room} {Pc : Array Value → State → Prop} {Qc : Array Value → State → Outcome → State → Prop} {XC : String → State → State → Prop} {mc ms : Nat} {free : Addr → Prop} {cc : ByteArray} {maxL : Nat} {ret : Option FieldType} {hh : List (Nat × Nat × Nat × Nat)}
    (hy : plainName y.cls = true) (hw : ws = Cond.codeWith y cc maxL ret hh :: ws')
    (body : ∀ p e s m args below meth c s₁, BodyLoose p l y (headSpec ws rm) cc maxL ret e s m args below meth c s₁ → c.maxLocals = maxL → Pc args s →
      W p l e (headSpec ws rm).room s m args below meth c s.heap [] 0 0 (vx_MQ below Qc XC args s mc ms free) (entryFrame m args maxL)) : vx_Met l y ws rm Pc Qc XC mc ms free := by
  refine MetFree.of_bodyS (code := cc) (maxLocals := maxL) (ret := ret) hy ?_ ?_
  · intro args s m h hn
    obtain ⟨m9, meth, c, hn9, h1, h2, h3, h4, -, h5, h6, -⟩ := Cond.codeWith_spec (atoms_spec (ws := ws) h _ (by rw [hw]; exact List.mem_cons_self))
    cases hn.symm.trans hn9
    exact ⟨meth, c, h1, h2, h3, h4, h5, h6⟩
  · intro p e s m args below meth c s₁ B hml hP _
    have hh0 : s₁.heap = s.heap := by rw [B.state]; rfl
    obtain ⟨t, a1, o, b1, b2, b3⟩ := body p e s m args below meth c s₁ B hml hP s₁ hh0 (Stand.of_body B)
    exact ⟨t, o, a1, b1, b2, b3⟩
/-! ===== END ===== -/
end
section
/-! ===== BEGIN printed: names, fields, word lists, decode rows ===== -/
def RX0 : String := "SettlementFund$ClaimBook"
def TX0 : u_T := fun k => match k with
  | 0 => ("SettlementFund$ClaimBook", "ofPerson", "[I", true)
  | 1 => ("SettlementFund$ClaimBook", "grade", "[I", true)
  | 2 => ("SettlementFund$ClaimBook", "state", "[I", true)
  | 3 => ("SettlementFund$ClaimBook", "deadline", "[I", true)
  | 4 => ("SettlementFund$ClaimBook", "wasObjected", "[Z", true)
  | _ => ("SettlementFund$ClaimBook", "size", "I", false)
def tyX0 : Nat → FieldType := fun k => match k with
  | 0 => .array .int
  | 1 => .array .int
  | 2 => .array .int
  | 3 => .array .int
  | 4 => .array .boolean
  | _ => .int
abbrev wsX00 : List Cond := u_ws RX0 TX0 6
theorem nmX0 : ∀ a, a < 6 → ∀ b, b < 6 → a ≠ b → (TX0 a).2.1 ≠ (TX0 b).2.1 := by decide +kernel
theorem tyX0_ok : ∀ k, k < 6 → parseFieldDescriptor (TX0 k).2.2.1 = some (tyX0 k) := by decide +kernel
abbrev cX0_init : ByteArray := prog_2_method_1_code
def yX0_init : MethodName := ⟨RX0, "<init>", "()V"⟩
abbrev cX0_has : ByteArray := prog_2_method_2_code
def yX0_has : MethodName := ⟨RX0, "has", "(I)Z"⟩
abbrev cX0_hasPlace : ByteArray := prog_2_method_3_code
def yX0_hasPlace : MethodName := ⟨RX0, "hasPlace", "()Z"⟩
abbrev cX0_enter : ByteArray := prog_2_method_4_code
def yX0_enter : MethodName := ⟨RX0, "enter", "(IIII)I"⟩
abbrev cX0_join : ByteArray := prog_2_method_5_code
def yX0_join : MethodName := ⟨RX0, "join", "(IIZ)V"⟩
abbrev cX0_denyLate : ByteArray := prog_2_method_6_code
def yX0_denyLate : MethodName := ⟨RX0, "denyLate", "(I)V"⟩
abbrev cX0_tally : ByteArray := prog_2_method_7_code
def yX0_tally : MethodName := ⟨RX0, "tally", "(I)I"⟩
def RX1 : String := "SettlementFund$PaymentBook"
def TX1 : u_T := fun k => match k with
  | 0 => ("SettlementFund$PaymentBook", "claim", "[I", true)
  | 1 => ("SettlementFund$PaymentBook", "amount", "[I", true)
  | 2 => ("SettlementFund$PaymentBook", "state", "[I", true)
  | 3 => ("SettlementFund$PaymentBook", "dayMade", "[I", true)
  | _ => ("SettlementFund$PaymentBook", "size", "I", false)
def tyX1 : Nat → FieldType := fun k => match k with
  | 0 => .array .int
  | 1 => .array .int
  | 2 => .array .int
  | 3 => .array .int
  | _ => .int
abbrev wsX10 : List Cond := u_ws RX1 TX1 5
theorem nmX1 : ∀ a, a < 5 → ∀ b, b < 5 → a ≠ b → (TX1 a).2.1 ≠ (TX1 b).2.1 := by decide +kernel
theorem tyX1_ok : ∀ k, k < 5 → parseFieldDescriptor (TX1 k).2.2.1 = some (tyX1 k) := by decide +kernel
abbrev cX1_init : ByteArray := prog_3_method_1_code
def yX1_init : MethodName := ⟨RX1, "<init>", "()V"⟩
abbrev cX1_has : ByteArray := prog_3_method_2_code
def yX1_has : MethodName := ⟨RX1, "has", "(I)Z"⟩
abbrev cX1_hasPlacesFor : ByteArray := prog_3_method_3_code
def yX1_hasPlacesFor : MethodName := ⟨RX1, "hasPlacesFor", "(I)Z"⟩
abbrev cX1_add : ByteArray := prog_3_method_4_code
def yX1_add : MethodName := ⟨RX1, "add", "(III)V"⟩
abbrev cX1_voidLate : ByteArray := prog_3_method_5_code
def yX1_voidLate : MethodName := ⟨RX1, "voidLate", "(I)V"⟩
abbrev cX1_hasOpen : ByteArray := prog_3_method_6_code
def yX1_hasOpen : MethodName := ⟨RX1, "hasOpen", "()Z"⟩
abbrev cX1_hasVoidFor : ByteArray := prog_3_method_7_code
def yX1_hasVoidFor : MethodName := ⟨RX1, "hasVoidFor", "(I)Z"⟩
abbrev cX1_sumFor : ByteArray := prog_3_method_8_code
def yX1_sumFor : MethodName := ⟨RX1, "sumFor", "(I)I"⟩
abbrev cX1_sumOfAll : ByteArray := prog_3_method_9_code
def yX1_sumOfAll : MethodName := ⟨RX1, "sumOfAll", "()I"⟩
def RX2 : String := "SettlementFund$Sharing"
def TX2 : u_T := fun k => match k with
  | 0 => ("SettlementFund$Sharing", "claim", "[I", true)
  | 1 => ("SettlementFund$Sharing", "points", "[I", true)
  | 2 => ("SettlementFund$Sharing", "room", "[I", true)
  | 3 => ("SettlementFund$Sharing", "share", "[I", true)
  | 4 => ("SettlementFund$Sharing", "isFull", "[Z", true)
  | 5 => ("SettlementFund$Sharing", "size", "I", false)
  | 6 => ("SettlementFund$Sharing", "restMoney", "J", false)
  | _ => ("SettlementFund$Sharing", "restPoints", "J", false)
def tyX2 : Nat → FieldType := fun k => match k with
  | 0 => .array .int
  | 1 => .array .int
  | 2 => .array .int
  | 3 => .array .int
  | 4 => .array .boolean
  | 5 => .int
  | 6 => .long
  | _ => .long
abbrev wsX20 : List Cond := u_ws RX2 TX2 8
theorem nmX2 : ∀ a, a < 8 → ∀ b, b < 8 → a ≠ b → (TX2 a).2.1 ≠ (TX2 b).2.1 := by decide +kernel
theorem tyX2_ok : ∀ k, k < 8 → parseFieldDescriptor (TX2 k).2.2.1 = some (tyX2 k) := by decide +kernel
abbrev cX2_init : ByteArray := prog_4_method_1_code
def yX2_init : MethodName := ⟨RX2, "<init>", "()V"⟩
abbrev cX2_clear : ByteArray := prog_4_method_2_code
def yX2_clear : MethodName := ⟨RX2, "clear", "()V"⟩
abbrev cX2_add : ByteArray := prog_4_method_3_code
def yX2_add : MethodName := ⟨RX2, "add", "(III)V"⟩
abbrev cX2_shareOut : ByteArray := prog_4_method_4_code
def yX2_shareOut : MethodName := ⟨RX2, "shareOut", "(IIZ)V"⟩
abbrev cX2_shareGivenTo : ByteArray := prog_4_method_5_code
def yX2_shareGivenTo : MethodName := ⟨RX2, "shareGivenTo", "(I)I"⟩
abbrev cX2_gainers : ByteArray := prog_4_method_6_code
def yX2_gainers : MethodName := ⟨RX2, "gainers", "()I"⟩
abbrev cX2_shareOnce : ByteArray := prog_4_method_7_code
def yX2_shareOnce : MethodName := ⟨RX2, "shareOnce", "(IZ)V"⟩
abbrev cX2_fillInLooks : ByteArray := prog_4_method_8_code
def yX2_fillInLooks : MethodName := ⟨RX2, "fillInLooks", "()V"⟩
abbrev cX2_fillFromFront : ByteArray := prog_4_method_9_code
def yX2_fillFromFront : MethodName := ⟨RX2, "fillFromFront", "()V"⟩
abbrev cX2_reachesRoom : ByteArray := prog_4_method_10_code
def yX2_reachesRoom : MethodName := ⟨RX2, "reachesRoom", "(IJJ)Z"⟩
abbrev cX2_fill : ByteArray := prog_4_method_11_code
def yX2_fill : MethodName := ⟨RX2, "fill", "(I)V"⟩
abbrev cX2_shareRestByPoints : ByteArray := prog_4_method_12_code
def yX2_shareRestByPoints : MethodName := ⟨RX2, "shareRestByPoints", "()V"⟩
abbrev cX2_notFullBelow : ByteArray := prog_4_method_13_code
def yX2_notFullBelow : MethodName := ⟨RX2, "notFullBelow", "(I)I"⟩
abbrev cX2_placeOfSmallest : ByteArray := prog_4_method_14_code
def yX2_placeOfSmallest : MethodName := ⟨RX2, "placeOfSmallest", "()I"⟩
abbrev cX2_takeOut : ByteArray := prog_4_method_15_code
def yX2_takeOut : MethodName := ⟨RX2, "takeOut", "(I)V"⟩
abbrev cX2_copyPlace : ByteArray := prog_4_method_16_code
def yX2_copyPlace : MethodName := ⟨RX2, "copyPlace", "(II)V"⟩
abbrev cX2_sortByRoomPerPoint : ByteArray := prog_4_method_17_code
def yX2_sortByRoomPerPoint : MethodName := ⟨RX2, "sortByRoomPerPoint", "()V"⟩
abbrev cX2_hasLessRoomPerPoint : ByteArray := prog_4_method_18_code
def yX2_hasLessRoomPerPoint : MethodName := ⟨RX2, "hasLessRoomPerPoint", "(II)Z"⟩
abbrev cX2_swapPlaces : ByteArray := prog_4_method_19_code
def yX2_swapPlaces : MethodName := ⟨RX2, "swapPlaces", "(II)V"⟩
def RX3 : String := "SettlementFund"
def TX3 : u_T := fun k => match k with
  | 0 => ("SettlementFund", "sum", "I", false)
  | 1 => ("SettlementFund", "feeInThousandths", "I", false)
  | 2 => ("SettlementFund", "expenses", "I", false)
  | 3 => ("SettlementFund", "day", "I", false)
  | 4 => ("SettlementFund", "gradePoints", "[I", true)
  | 5 => ("SettlementFund", "gradeCap", "[I", true)
  | 6 => ("SettlementFund", "claimBook", "LSettlementFund$ClaimBook;", true)
  | 7 => ("SettlementFund", "paymentBook", "LSettlementFund$PaymentBook;", true)
  | _ => ("SettlementFund", "sharing", "LSettlementFund$Sharing;", true)
def tyX3 : Nat → FieldType := fun k => match k with
  | 0 => .int
  | 1 => .int
  | 2 => .int
  | 3 => .int
  | 4 => .array .int
  | 5 => .array .int
  | 6 => .object "SettlementFund$ClaimBook"
  | 7 => .object "SettlementFund$PaymentBook"
  | _ => .object "SettlementFund$Sharing"
abbrev wsX30 : List Cond := u_ws RX3 TX3 9
theorem nmX3 : ∀ a, a < 9 → ∀ b, b < 9 → a ≠ b → (TX3 a).2.1 ≠ (TX3 b).2.1 := by decide +kernel
theorem tyX3_ok : ∀ k, k < 9 → parseFieldDescriptor (TX3 k).2.2.1 = some (tyX3 k) := by decide +kernel
abbrev cX3_init : ByteArray := prog_1_method_1_code
def yX3_init : MethodName := ⟨RX3, "<init>", "()V"⟩
abbrev cX3_setFund : ByteArray := prog_1_method_2_code
def yX3_setFund : MethodName := ⟨RX3, "setFund", "(III)I"⟩
abbrev cX3_setGrade : ByteArray := prog_1_method_3_code
def yX3_setGrade : MethodName := ⟨RX3, "setGrade", "(III)V"⟩
abbrev cX3_pass : ByteArray := prog_1_method_4_code
def yX3_pass : MethodName := ⟨RX3, "pass", "(I)I"⟩
abbrev cX3_claim : ByteArray := prog_1_method_5_code
def yX3_claim : MethodName := ⟨RX3, "claim", "(IIZI)I"⟩
abbrev cX3_cure : ByteArray := prog_1_method_6_code
def yX3_cure : MethodName := ⟨RX3, "cure", "(I)I"⟩
abbrev cX3_deny : ByteArray := prog_1_method_7_code
def yX3_deny : MethodName := ⟨RX3, "deny", "(I)I"⟩
abbrev cX3_object : ByteArray := prog_1_method_8_code
def yX3_object : MethodName := ⟨RX3, "object", "(I)I"⟩
abbrev cX3_decide : ByteArray := prog_1_method_9_code
def yX3_decide : MethodName := ⟨RX3, "decide", "(IZ)I"⟩
abbrev cX3_round : ByteArray := prog_1_method_10_code
def yX3_round : MethodName := ⟨RX3, "round", "(I)I"⟩
abbrev cX3_cash : ByteArray := prog_1_method_11_code
def yX3_cash : MethodName := ⟨RX3, "cash", "(I)I"⟩
abbrev cX3_today : ByteArray := prog_1_method_12_code
def yX3_today : MethodName := ⟨RX3, "today", "()I"⟩
abbrev cX3_claims : ByteArray := prog_1_method_13_code
def yX3_claims : MethodName := ⟨RX3, "claims", "()I"⟩
abbrev cX3_claimOf : ByteArray := prog_1_method_14_code
def yX3_claimOf : MethodName := ⟨RX3, "claimOf", "(I)I"⟩
abbrev cX3_stateOf : ByteArray := prog_1_method_15_code
def yX3_stateOf : MethodName := ⟨RX3, "stateOf", "(I)I"⟩
abbrev cX3_gradeOf : ByteArray := prog_1_method_16_code
def yX3_gradeOf : MethodName := ⟨RX3, "gradeOf", "(I)I"⟩
abbrev cX3_room : ByteArray := prog_1_method_17_code
def yX3_room : MethodName := ⟨RX3, "room", "(I)I"⟩
abbrev cX3_paidTo : ByteArray := prog_1_method_18_code
def yX3_paidTo : MethodName := ⟨RX3, "paidTo", "(I)I"⟩
abbrev cX3_count : ByteArray := prog_1_method_19_code
def yX3_count : MethodName := ⟨RX3, "count", "(I)I"⟩
abbrev cX3_moneyLeft : ByteArray := prog_1_method_20_code
def yX3_moneyLeft : MethodName := ⟨RX3, "moneyLeft", "()I"⟩
abbrev cX3_fee : ByteArray := prog_1_method_21_code
def yX3_fee : MethodName := ⟨RX3, "fee", "()I"⟩
abbrev cX3_payments : ByteArray := prog_1_method_22_code
def yX3_payments : MethodName := ⟨RX3, "payments", "()I"⟩
abbrev cX3_paymentTo : ByteArray := prog_1_method_23_code
def yX3_paymentTo : MethodName := ⟨RX3, "paymentTo", "(I)I"⟩
abbrev cX3_amountOf : ByteArray := prog_1_method_24_code
def yX3_amountOf : MethodName := ⟨RX3, "amountOf", "(I)I"⟩
abbrev cX3_paymentState : ByteArray := prog_1_method_25_code
def yX3_paymentState : MethodName := ⟨RX3, "paymentState", "(I)I"⟩
abbrev cX3_shareOf : ByteArray := prog_1_method_26_code
def yX3_shareOf : MethodName := ⟨RX3, "shareOf", "(II)I"⟩
abbrev cX3_shareBySorting : ByteArray := prog_1_method_27_code
def yX3_shareBySorting : MethodName := ⟨RX3, "shareBySorting", "(II)I"⟩
abbrev cX3_isOutside : ByteArray := prog_1_method_28_code
def yX3_isOutside : MethodName := ⟨RX3, "isOutside", "(III)Z"⟩
abbrev cX3_valueAt : ByteArray := prog_1_method_29_code
def yX3_valueAt : MethodName := ⟨RX3, "valueAt", "([II)I"⟩
abbrev cX3_mustBeClaim : ByteArray := prog_1_method_30_code
def yX3_mustBeClaim : MethodName := ⟨RX3, "mustBeClaim", "(I)V"⟩
abbrev cX3_mustBePayment : ByteArray := prog_1_method_31_code
def yX3_mustBePayment : MethodName := ⟨RX3, "mustBePayment", "(I)V"⟩
abbrev cX3_mustBeLeast : ByteArray := prog_1_method_32_code
def yX3_mustBeLeast : MethodName := ⟨RX3, "mustBeLeast", "(I)V"⟩
abbrev cX3_mustHaveNoPayments : ByteArray := prog_1_method_33_code
def yX3_mustHaveNoPayments : MethodName := ⟨RX3, "mustHaveNoPayments", "()V"⟩
abbrev cX3_shareFor : ByteArray := prog_1_method_34_code
def yX3_shareFor : MethodName := ⟨RX3, "shareFor", "(IIZ)I"⟩
abbrev cX3_shareMoneyLeft : ByteArray := prog_1_method_35_code
def yX3_shareMoneyLeft : MethodName := ⟨RX3, "shareMoneyLeft", "(IZ)V"⟩
abbrev cX3_takesPart : ByteArray := prog_1_method_36_code
def yX3_takesPart : MethodName := ⟨RX3, "takesPart", "(I)Z"⟩
abbrev cX3_makePayments : ByteArray := prog_1_method_37_code
def yX3_makePayments : MethodName := ⟨RX3, "makePayments", "()V"⟩
def RX4 : String := "SettlementFundModel"
def TX4 : u_T := fun k => match k with
  | 0 => ("SettlementFundModel", "sum", "I", false)
  | 1 => ("SettlementFundModel", "fee", "I", false)
  | 2 => ("SettlementFundModel", "expenses", "I", false)
  | 3 => ("SettlementFundModel", "points", "[I", true)
  | 4 => ("SettlementFundModel", "caps", "[I", true)
  | 5 => ("SettlementFundModel", "today", "I", false)
  | 6 => ("SettlementFundModel", "claims", "I", false)
  | 7 => ("SettlementFundModel", "persons", "[I", true)
  | 8 => ("SettlementFundModel", "grades", "[I", true)
  | 9 => ("SettlementFundModel", "states", "[I", true)
  | 10 => ("SettlementFundModel", "deadlines", "[I", true)
  | 11 => ("SettlementFundModel", "wasObjected", "[Z", true)
  | 12 => ("SettlementFundModel", "payments", "I", false)
  | 13 => ("SettlementFundModel", "paidTo", "[I", true)
  | 14 => ("SettlementFundModel", "amounts", "[I", true)
  | 15 => ("SettlementFundModel", "madeOn", "[I", true)
  | 16 => ("SettlementFundModel", "paymentStates", "[I", true)
  | 17 => ("SettlementFundModel", "takesPart", "[Z", true)
  | 18 => ("SettlementFundModel", "isFull", "[Z", true)
  | 19 => ("SettlementFundModel", "shares", "[I", true)
  | 20 => ("SettlementFundModel", "rooms", "[I", true)
  | _ => ("SettlementFundModel", "thrown", "I", false)
def tyX4 : Nat → FieldType := fun k => match k with
  | 0 => .int
  | 1 => .int
  | 2 => .int
  | 3 => .array .int
  | 4 => .array .int
  | 5 => .int
  | 6 => .int
  | 7 => .array .int
  | 8 => .array .int
  | 9 => .array .int
  | 10 => .array .int
  | 11 => .array .boolean
  | 12 => .int
  | 13 => .array .int
  | 14 => .array .int
  | 15 => .array .int
  | 16 => .array .int
  | 17 => .array .boolean
  | 18 => .array .boolean
  | 19 => .array .int
  | 20 => .array .int
  | _ => .int
abbrev wsX40 : List Cond := u_ws RX4 TX4 22
theorem nmX4 : ∀ a, a < 22 → ∀ b, b < 22 → a ≠ b → (TX4 a).2.1 ≠ (TX4 b).2.1 := by decide +kernel
theorem tyX4_ok : ∀ k, k < 22 → parseFieldDescriptor (TX4 k).2.2.1 = some (tyX4 k) := by decide +kernel
abbrev cX4_init : ByteArray := prog_6_method_1_code
def yX4_init : MethodName := ⟨RX4, "<init>", "()V"⟩
abbrev cX4_thrown : ByteArray := prog_6_method_2_code
def yX4_thrown : MethodName := ⟨RX4, "thrown", "()I"⟩
abbrev cX4_goes : ByteArray := prog_6_method_3_code
def yX4_goes : MethodName := ⟨RX4, "goes", "(I)Z"⟩
abbrev cX4_isIn : ByteArray := prog_6_method_4_code
def yX4_isIn : MethodName := ⟨RX4, "isIn", "(III)Z"⟩
abbrev cX4_isClaim : ByteArray := prog_6_method_5_code
def yX4_isClaim : MethodName := ⟨RX4, "isClaim", "(I)Z"⟩
abbrev cX4_isPayment : ByteArray := prog_6_method_6_code
def yX4_isPayment : MethodName := ⟨RX4, "isPayment", "(I)Z"⟩
abbrev cX4_feeNow : ByteArray := prog_6_method_7_code
def yX4_feeNow : MethodName := ⟨RX4, "feeNow", "()I"⟩
abbrev cX4_left : ByteArray := prog_6_method_8_code
def yX4_left : MethodName := ⟨RX4, "left", "()I"⟩
abbrev cX4_setFund : ByteArray := prog_6_method_9_code
def yX4_setFund : MethodName := ⟨RX4, "setFund", "(III)I"⟩
abbrev cX4_setGrade : ByteArray := prog_6_method_10_code
def yX4_setGrade : MethodName := ⟨RX4, "setGrade", "(III)V"⟩
abbrev cX4_pass : ByteArray := prog_6_method_11_code
def yX4_pass : MethodName := ⟨RX4, "pass", "(I)I"⟩
abbrev cX4_ofPerson : ByteArray := prog_6_method_12_code
def yX4_ofPerson : MethodName := ⟨RX4, "ofPerson", "(I)I"⟩
abbrev cX4_claim : ByteArray := prog_6_method_13_code
def yX4_claim : MethodName := ⟨RX4, "claim", "(IIZI)I"⟩
abbrev cX4_cure : ByteArray := prog_6_method_14_code
def yX4_cure : MethodName := ⟨RX4, "cure", "(I)I"⟩
abbrev cX4_deny : ByteArray := prog_6_method_15_code
def yX4_deny : MethodName := ⟨RX4, "deny", "(I)I"⟩
abbrev cX4_countOf : ByteArray := prog_6_method_16_code
def yX4_countOf : MethodName := ⟨RX4, "countOf", "(I)I"⟩
abbrev cX4_object : ByteArray := prog_6_method_17_code
def yX4_object : MethodName := ⟨RX4, "object", "(I)I"⟩
abbrev cX4_decide : ByteArray := prog_6_method_18_code
def yX4_decide : MethodName := ⟨RX4, "decide", "(IZ)I"⟩
abbrev cX4_paid : ByteArray := prog_6_method_19_code
def yX4_paid : MethodName := ⟨RX4, "paid", "(I)I"⟩
abbrev cX4_roomOf : ByteArray := prog_6_method_20_code
def yX4_roomOf : MethodName := ⟨RX4, "roomOf", "(I)I"⟩
abbrev cX4_hasVoid : ByteArray := prog_6_method_21_code
def yX4_hasVoid : MethodName := ⟨RX4, "hasVoid", "(I)Z"⟩
abbrev cX4_isLeft : ByteArray := prog_6_method_22_code
def yX4_isLeft : MethodName := ⟨RX4, "isLeft", "(I)Z"⟩
abbrev cX4_allPoints : ByteArray := prog_6_method_23_code
def yX4_allPoints : MethodName := ⟨RX4, "allPoints", "()J"⟩
abbrev cX4_givesRooms : ByteArray := prog_6_method_24_code
def yX4_givesRooms : MethodName := ⟨RX4, "givesRooms", "(I)I"⟩
abbrev cX4_givesRest : ByteArray := prog_6_method_25_code
def yX4_givesRest : MethodName := ⟨RX4, "givesRest", "(I)V"⟩
abbrev cX4_shares : ByteArray := prog_6_method_26_code
def yX4_shares : MethodName := ⟨RX4, "shares", "(I)V"⟩
abbrev cX4_lowest : ByteArray := prog_6_method_27_code
def yX4_lowest : MethodName := ⟨RX4, "lowest", "()I"⟩
abbrev cX4_lays : ByteArray := prog_6_method_28_code
def yX4_lays : MethodName := ⟨RX4, "lays", "(I)V"⟩
abbrev cX4_isOpen : ByteArray := prog_6_method_29_code
def yX4_isOpen : MethodName := ⟨RX4, "isOpen", "()Z"⟩
abbrev cX4_round : ByteArray := prog_6_method_30_code
def yX4_round : MethodName := ⟨RX4, "round", "(I)I"⟩
abbrev cX4_cash : ByteArray := prog_6_method_31_code
def yX4_cash : MethodName := ⟨RX4, "cash", "(I)I"⟩
abbrev cX4_today : ByteArray := prog_6_method_32_code
def yX4_today : MethodName := ⟨RX4, "today", "()I"⟩
abbrev cX4_claims : ByteArray := prog_6_method_33_code
def yX4_claims : MethodName := ⟨RX4, "claims", "()I"⟩
abbrev cX4_claimOf : ByteArray := prog_6_method_34_code
def yX4_claimOf : MethodName := ⟨RX4, "claimOf", "(I)I"⟩
abbrev cX4_asks : ByteArray := prog_6_method_35_code
def yX4_asks : MethodName := ⟨RX4, "asks", "(I)Z"⟩
abbrev cX4_stateOf : ByteArray := prog_6_method_36_code
def yX4_stateOf : MethodName := ⟨RX4, "stateOf", "(I)I"⟩
abbrev cX4_gradeOf : ByteArray := prog_6_method_37_code
def yX4_gradeOf : MethodName := ⟨RX4, "gradeOf", "(I)I"⟩
abbrev cX4_room : ByteArray := prog_6_method_38_code
def yX4_room : MethodName := ⟨RX4, "room", "(I)I"⟩
abbrev cX4_paidTo : ByteArray := prog_6_method_39_code
def yX4_paidTo : MethodName := ⟨RX4, "paidTo", "(I)I"⟩
abbrev cX4_count : ByteArray := prog_6_method_40_code
def yX4_count : MethodName := ⟨RX4, "count", "(I)I"⟩
abbrev cX4_moneyLeft : ByteArray := prog_6_method_41_code
def yX4_moneyLeft : MethodName := ⟨RX4, "moneyLeft", "()I"⟩
abbrev cX4_fee : ByteArray := prog_6_method_42_code
def yX4_fee : MethodName := ⟨RX4, "fee", "()I"⟩
abbrev cX4_payments : ByteArray := prog_6_method_43_code
def yX4_payments : MethodName := ⟨RX4, "payments", "()I"⟩
abbrev cX4_asksPayment : ByteArray := prog_6_method_44_code
def yX4_asksPayment : MethodName := ⟨RX4, "asksPayment", "(I)Z"⟩
abbrev cX4_paymentTo : ByteArray := prog_6_method_45_code
def yX4_paymentTo : MethodName := ⟨RX4, "paymentTo", "(I)I"⟩
abbrev cX4_amountOf : ByteArray := prog_6_method_46_code
def yX4_amountOf : MethodName := ⟨RX4, "amountOf", "(I)I"⟩
abbrev cX4_paymentState : ByteArray := prog_6_method_47_code
def yX4_paymentState : MethodName := ⟨RX4, "paymentState", "(I)I"⟩
abbrev cX4_shareNow : ByteArray := prog_6_method_48_code
def yX4_shareNow : MethodName := ⟨RX4, "shareNow", "(II)I"⟩
abbrev cX4_shareOf : ByteArray := prog_6_method_49_code
def yX4_shareOf : MethodName := ⟨RX4, "shareOf", "(II)I"⟩
abbrev cX4_shareBySorting : ByteArray := prog_6_method_50_code
def yX4_shareBySorting : MethodName := ⟨RX4, "shareBySorting", "(II)I"⟩
def RJ9 : String := "java/lang/Math"
def TJ9 : u_T := fun k => match k with
  | _ => ("", "", "", false)
def tyJ9 : Nat → FieldType := fun k => match k with
  | _ => .int
abbrev wsJ90 : List Cond := u_ws RJ9 TJ9 0
theorem nmJ9 : ∀ a, a < 0 → ∀ b, b < 0 → a ≠ b → (TJ9 a).2.1 ≠ (TJ9 b).2.1 := by decide +kernel
theorem tyJ9_ok : ∀ k, k < 0 → parseFieldDescriptor (TJ9 k).2.2.1 = some (tyJ9 k) := by decide +kernel
abbrev cJ9_max_7cf53 : ByteArray := prog_11_method_65_code
def yJ9_max_7cf53 : MethodName := ⟨RJ9, "max", "(II)I"⟩
def RJ0 : String := "java/lang/String"
def TJ0 : u_T := fun k => match k with
  | _ => ("", "", "", false)
def tyJ0 : Nat → FieldType := fun k => match k with
  | _ => .int
abbrev wsJ00 : List Cond := u_ws RJ0 TJ0 0
theorem nmJ0 : ∀ a, a < 0 → ∀ b, b < 0 → a ≠ b → (TJ0 a).2.1 ≠ (TJ0 b).2.1 := by decide +kernel
theorem tyJ0_ok : ∀ k, k < 0 → parseFieldDescriptor (TJ0 k).2.2.1 = some (tyJ0 k) := by decide +kernel
def RL : String := "SettlementFundLaw"
abbrev cL_setFund : ByteArray := method_3_code
def yL_setFund : MethodName := ⟨RL, "setFund", "(LSettlementFund;III[J)I"⟩
abbrev cL_setGrade : ByteArray := method_4_code
def yL_setGrade : MethodName := ⟨RL, "setGrade", "(LSettlementFund;III)I"⟩
abbrev cL_pass : ByteArray := method_5_code
def yL_pass : MethodName := ⟨RL, "pass", "(LSettlementFund;I[J)I"⟩
abbrev cL_claim : ByteArray := method_6_code
def yL_claim : MethodName := ⟨RL, "claim", "(LSettlementFund;IIZI[J)I"⟩
abbrev cL_cure : ByteArray := method_7_code
def yL_cure : MethodName := ⟨RL, "cure", "(LSettlementFund;I[J)I"⟩
abbrev cL_deny : ByteArray := method_8_code
def yL_deny : MethodName := ⟨RL, "deny", "(LSettlementFund;I[J)I"⟩
abbrev cL_object : ByteArray := method_9_code
def yL_object : MethodName := ⟨RL, "object", "(LSettlementFund;I[J)I"⟩
abbrev cL_decide : ByteArray := method_10_code
def yL_decide : MethodName := ⟨RL, "decide", "(LSettlementFund;IZ[J)I"⟩
abbrev cL_round : ByteArray := method_11_code
def yL_round : MethodName := ⟨RL, "round", "(LSettlementFund;I[J)I"⟩
abbrev cL_cash : ByteArray := method_12_code
def yL_cash : MethodName := ⟨RL, "cash", "(LSettlementFund;I[J)I"⟩
abbrev cL_claimOf : ByteArray := method_13_code
def yL_claimOf : MethodName := ⟨RL, "claimOf", "(LSettlementFund;I[J)I"⟩
abbrev cL_stateOf : ByteArray := method_14_code
def yL_stateOf : MethodName := ⟨RL, "stateOf", "(LSettlementFund;I[J)I"⟩
abbrev cL_gradeOf : ByteArray := method_15_code
def yL_gradeOf : MethodName := ⟨RL, "gradeOf", "(LSettlementFund;I[J)I"⟩
abbrev cL_room : ByteArray := method_16_code
def yL_room : MethodName := ⟨RL, "room", "(LSettlementFund;I[J)I"⟩
abbrev cL_paidTo : ByteArray := method_17_code
def yL_paidTo : MethodName := ⟨RL, "paidTo", "(LSettlementFund;I[J)I"⟩
abbrev cL_count : ByteArray := method_18_code
def yL_count : MethodName := ⟨RL, "count", "(LSettlementFund;I[J)I"⟩
abbrev cL_paymentTo : ByteArray := method_19_code
def yL_paymentTo : MethodName := ⟨RL, "paymentTo", "(LSettlementFund;I[J)I"⟩
abbrev cL_amountOf : ByteArray := method_20_code
def yL_amountOf : MethodName := ⟨RL, "amountOf", "(LSettlementFund;I[J)I"⟩
abbrev cL_paymentState : ByteArray := method_21_code
def yL_paymentState : MethodName := ⟨RL, "paymentState", "(LSettlementFund;I[J)I"⟩
abbrev cL_shareOf : ByteArray := method_22_code
def yL_shareOf : MethodName := ⟨RL, "shareOf", "(LSettlementFund;II[J)I"⟩
abbrev cL_shareBySorting : ByteArray := method_23_code
def yL_shareBySorting : MethodName := ⟨RL, "shareBySorting", "(LSettlementFund;II[J)I"⟩
abbrev cL_law : ByteArray := code
def yL_law : MethodName := ⟨RL, "law", "([I)Z"⟩
def wsX0_init : List Cond := .code yX0_init cX0_init 2 none :: ([.methodLink RX0 3 objectInit, .instanceMethod objectInit, .code objectInit ⟨#[0xb1]⟩ 1 none, .arrayClass .int, .fieldLink RX0 9 "SettlementFund$ClaimBook" "ofPerson" "[I", .fieldLink RX0 15 "SettlementFund$ClaimBook" "grade" "[I", .fieldLink RX0 18 "SettlementFund$ClaimBook" "state" "[I", .fieldLink RX0 21 "SettlementFund$ClaimBook" "deadline" "[I", .arrayClass .boolean, .fieldLink RX0 24 "SettlementFund$ClaimBook" "wasObjected" "[Z"] ++ wsX00)
def wsX0_has : List Cond := .code yX0_has cX0_has 2 (some .boolean) :: ([.fieldLink RX0 28 "SettlementFund$ClaimBook" "size" "I"] ++ wsX00)
def wsX0_hasPlace : List Cond := .code yX0_hasPlace cX0_hasPlace 1 (some .boolean) :: ([.fieldLink RX0 28 "SettlementFund$ClaimBook" "size" "I"] ++ wsX00)
def wsX0_enter : List Cond := .code yX0_enter cX0_enter 6 (some .int) :: ([.fieldLink RX0 28 "SettlementFund$ClaimBook" "size" "I", .fieldLink RX0 9 "SettlementFund$ClaimBook" "ofPerson" "[I", .fieldLink RX0 15 "SettlementFund$ClaimBook" "grade" "[I", .fieldLink RX0 18 "SettlementFund$ClaimBook" "state" "[I", .fieldLink RX0 21 "SettlementFund$ClaimBook" "deadline" "[I"] ++ wsX00)
def wsX0_join : List Cond := .code yX0_join cX0_join 4 none :: ([.fieldLink RX0 15 "SettlementFund$ClaimBook" "grade" "[I", .methodLink RX0 32 Lib.Math.max.name, .static Lib.Math.max.name, .initialized "java/lang/Math", .code Lib.Math.max.name Lib.Math.max.code 2 (some .int), .fieldLink RX0 18 "SettlementFund$ClaimBook" "state" "[I"] ++ wsX00)
def wsX0_denyLate : List Cond := .code yX0_denyLate cX0_denyLate 3 none :: ([.fieldLink RX0 28 "SettlementFund$ClaimBook" "size" "I", .fieldLink RX0 18 "SettlementFund$ClaimBook" "state" "[I", .fieldLink RX0 21 "SettlementFund$ClaimBook" "deadline" "[I"] ++ wsX00)
def wsX0_tally : List Cond := .code yX0_tally cX0_tally 4 (some .int) :: ([.fieldLink RX0 28 "SettlementFund$ClaimBook" "size" "I", .fieldLink RX0 18 "SettlementFund$ClaimBook" "state" "[I"] ++ wsX00)
def wsX1_init : List Cond := .code yX1_init cX1_init 1 none :: ([.methodLink RX1 3 objectInit, .instanceMethod objectInit, .code objectInit ⟨#[0xb1]⟩ 1 none, .arrayClass .int, .fieldLink RX1 9 "SettlementFund$PaymentBook" "claim" "[I", .fieldLink RX1 15 "SettlementFund$PaymentBook" "amount" "[I", .fieldLink RX1 18 "SettlementFund$PaymentBook" "state" "[I", .fieldLink RX1 21 "SettlementFund$PaymentBook" "dayMade" "[I"] ++ wsX10)
def wsX1_has : List Cond := .code yX1_has cX1_has 2 (some .boolean) :: ([.fieldLink RX1 24 "SettlementFund$PaymentBook" "size" "I"] ++ wsX10)
def wsX1_hasPlacesFor : List Cond := .code yX1_hasPlacesFor cX1_hasPlacesFor 2 (some .boolean) :: ([.fieldLink RX1 24 "SettlementFund$PaymentBook" "size" "I"] ++ wsX10)
def wsX1_add : List Cond := .code yX1_add cX1_add 4 none :: ([.fieldLink RX1 9 "SettlementFund$PaymentBook" "claim" "[I", .fieldLink RX1 24 "SettlementFund$PaymentBook" "size" "I", .fieldLink RX1 15 "SettlementFund$PaymentBook" "amount" "[I", .fieldLink RX1 18 "SettlementFund$PaymentBook" "state" "[I", .fieldLink RX1 21 "SettlementFund$PaymentBook" "dayMade" "[I", .methodLink RX1 28 yX1_hasPlacesFor, .instanceMethod yX1_hasPlacesFor, .selects RX1 yX1_hasPlacesFor yX1_hasPlacesFor, .initialized RX1, .code yX1_hasPlacesFor cX1_hasPlacesFor 2 (some .boolean)] ++ wsX10)
def wsX1_voidLate : List Cond := .code yX1_voidLate cX1_voidLate 3 none :: ([.fieldLink RX1 24 "SettlementFund$PaymentBook" "size" "I", .fieldLink RX1 18 "SettlementFund$PaymentBook" "state" "[I", .fieldLink RX1 21 "SettlementFund$PaymentBook" "dayMade" "[I"] ++ wsX10)
def wsX1_hasOpen : List Cond := .code yX1_hasOpen cX1_hasOpen 2 (some .boolean) :: ([.fieldLink RX1 24 "SettlementFund$PaymentBook" "size" "I", .fieldLink RX1 18 "SettlementFund$PaymentBook" "state" "[I"] ++ wsX10)
def wsX1_hasVoidFor : List Cond := .code yX1_hasVoidFor cX1_hasVoidFor 3 (some .boolean) :: ([.fieldLink RX1 24 "SettlementFund$PaymentBook" "size" "I", .fieldLink RX1 9 "SettlementFund$PaymentBook" "claim" "[I", .fieldLink RX1 18 "SettlementFund$PaymentBook" "state" "[I"] ++ wsX10)
def wsX1_sumFor : List Cond := .code yX1_sumFor cX1_sumFor 4 (some .int) :: ([.fieldLink RX1 24 "SettlementFund$PaymentBook" "size" "I", .fieldLink RX1 9 "SettlementFund$PaymentBook" "claim" "[I", .fieldLink RX1 18 "SettlementFund$PaymentBook" "state" "[I", .fieldLink RX1 15 "SettlementFund$PaymentBook" "amount" "[I"] ++ wsX10)
def wsX1_sumOfAll : List Cond := .code yX1_sumOfAll cX1_sumOfAll 3 (some .int) :: ([.fieldLink RX1 24 "SettlementFund$PaymentBook" "size" "I", .fieldLink RX1 18 "SettlementFund$PaymentBook" "state" "[I", .fieldLink RX1 15 "SettlementFund$PaymentBook" "amount" "[I"] ++ wsX10)
def wsX2_init : List Cond := .code yX2_init cX2_init 1 none :: ([.methodLink RX2 3 objectInit, .instanceMethod objectInit, .code objectInit ⟨#[0xb1]⟩ 1 none, .arrayClass .int, .fieldLink RX2 9 "SettlementFund$Sharing" "claim" "[I", .fieldLink RX2 15 "SettlementFund$Sharing" "points" "[I", .fieldLink RX2 18 "SettlementFund$Sharing" "room" "[I", .fieldLink RX2 21 "SettlementFund$Sharing" "share" "[I", .arrayClass .boolean, .fieldLink RX2 24 "SettlementFund$Sharing" "isFull" "[Z"] ++ wsX20)
def wsX2_clear : List Cond := .code yX2_clear cX2_clear 1 none :: ([.fieldLink RX2 28 "SettlementFund$Sharing" "size" "I"] ++ wsX20)
def wsX2_add : List Cond := .code yX2_add cX2_add 4 none :: ([.fieldLink RX2 28 "SettlementFund$Sharing" "size" "I", .fieldLink RX2 9 "SettlementFund$Sharing" "claim" "[I", .fieldLink RX2 15 "SettlementFund$Sharing" "points" "[I", .fieldLink RX2 18 "SettlementFund$Sharing" "room" "[I"] ++ wsX20)
def wsX2_hasLessRoomPerPoint : List Cond := .code yX2_hasLessRoomPerPoint cX2_hasLessRoomPerPoint 3 (some .boolean) :: ([.fieldLink RX2 18 "SettlementFund$Sharing" "room" "[I", .fieldLink RX2 15 "SettlementFund$Sharing" "points" "[I"] ++ wsX20)
def wsX2_copyPlace : List Cond := .code yX2_copyPlace cX2_copyPlace 3 none :: ([.fieldLink RX2 9 "SettlementFund$Sharing" "claim" "[I", .fieldLink RX2 15 "SettlementFund$Sharing" "points" "[I", .fieldLink RX2 18 "SettlementFund$Sharing" "room" "[I"] ++ wsX20)
def wsX2_swapPlaces : List Cond := .code yX2_swapPlaces cX2_swapPlaces 6 none :: ([.fieldLink RX2 9 "SettlementFund$Sharing" "claim" "[I", .fieldLink RX2 15 "SettlementFund$Sharing" "points" "[I", .fieldLink RX2 18 "SettlementFund$Sharing" "room" "[I", .methodLink RX2 74 yX2_copyPlace, .instanceMethod yX2_copyPlace, .selects RX2 yX2_copyPlace yX2_copyPlace, .initialized RX2, .code yX2_copyPlace cX2_copyPlace 3 none] ++ wsX20)
def wsX2_sortByRoomPerPoint : List Cond := .code yX2_sortByRoomPerPoint cX2_sortByRoomPerPoint 3 none :: ([.fieldLink RX2 28 "SettlementFund$Sharing" "size" "I", .methodLink RX2 78 yX2_hasLessRoomPerPoint, .instanceMethod yX2_hasLessRoomPerPoint, .selects RX2 yX2_hasLessRoomPerPoint yX2_hasLessRoomPerPoint, .initialized RX2, .code yX2_hasLessRoomPerPoint cX2_hasLessRoomPerPoint 3 (some .boolean), .fieldLink RX2 18 "SettlementFund$Sharing" "room" "[I", .fieldLink RX2 15 "SettlementFund$Sharing" "points" "[I", .methodLink RX2 82 yX2_swapPlaces, .instanceMethod yX2_swapPlaces, .selects RX2 yX2_swapPlaces yX2_swapPlaces, .code yX2_swapPlaces cX2_swapPlaces 6 none, .fieldLink RX2 9 "SettlementFund$Sharing" "claim" "[I", .methodLink RX2 74 yX2_copyPlace, .instanceMethod yX2_copyPlace, .selects RX2 yX2_copyPlace yX2_copyPlace, .code yX2_copyPlace cX2_copyPlace 3 none] ++ wsX20)
def wsX2_reachesRoom : List Cond := .code yX2_reachesRoom cX2_reachesRoom 6 (some .boolean) :: ([.fieldLink RX2 15 "SettlementFund$Sharing" "points" "[I", .fieldLink RX2 18 "SettlementFund$Sharing" "room" "[I"] ++ wsX20)
def wsX2_fill : List Cond := .code yX2_fill cX2_fill 2 none :: ([.fieldLink RX2 24 "SettlementFund$Sharing" "isFull" "[Z", .fieldLink RX2 21 "SettlementFund$Sharing" "share" "[I", .fieldLink RX2 18 "SettlementFund$Sharing" "room" "[I", .fieldLink RX2 47 "SettlementFund$Sharing" "restMoney" "J", .fieldLink RX2 51 "SettlementFund$Sharing" "restPoints" "J", .fieldLink RX2 15 "SettlementFund$Sharing" "points" "[I"] ++ wsX20)
def wsX2_fillFromFront : List Cond := .code yX2_fillFromFront cX2_fillFromFront 2 none :: ([.fieldLink RX2 28 "SettlementFund$Sharing" "size" "I", .fieldLink RX2 47 "SettlementFund$Sharing" "restMoney" "J", .fieldLink RX2 51 "SettlementFund$Sharing" "restPoints" "J", .methodLink RX2 63 yX2_reachesRoom, .instanceMethod yX2_reachesRoom, .selects RX2 yX2_reachesRoom yX2_reachesRoom, .initialized RX2, .code yX2_reachesRoom cX2_reachesRoom 6 (some .boolean), .fieldLink RX2 15 "SettlementFund$Sharing" "points" "[I", .fieldLink RX2 18 "SettlementFund$Sharing" "room" "[I", .methodLink RX2 67 yX2_fill, .instanceMethod yX2_fill, .selects RX2 yX2_fill yX2_fill, .code yX2_fill cX2_fill 2 none, .fieldLink RX2 24 "SettlementFund$Sharing" "isFull" "[Z", .fieldLink RX2 21 "SettlementFund$Sharing" "share" "[I"] ++ wsX20)
def wsX2_fillInLooks : List Cond := .code yX2_fillInLooks cX2_fillInLooks 8 none :: ([.fieldLink RX2 28 "SettlementFund$Sharing" "size" "I", .fieldLink RX2 47 "SettlementFund$Sharing" "restMoney" "J", .fieldLink RX2 51 "SettlementFund$Sharing" "restPoints" "J", .fieldLink RX2 24 "SettlementFund$Sharing" "isFull" "[Z", .methodLink RX2 63 yX2_reachesRoom, .instanceMethod yX2_reachesRoom, .selects RX2 yX2_reachesRoom yX2_reachesRoom, .initialized RX2, .code yX2_reachesRoom cX2_reachesRoom 6 (some .boolean), .fieldLink RX2 15 "SettlementFund$Sharing" "points" "[I", .fieldLink RX2 18 "SettlementFund$Sharing" "room" "[I", .methodLink RX2 67 yX2_fill, .instanceMethod yX2_fill, .selects RX2 yX2_fill yX2_fill, .code yX2_fill cX2_fill 2 none, .fieldLink RX2 21 "SettlementFund$Sharing" "share" "[I"] ++ wsX20)
def wsX2_notFullBelow : List Cond := .code yX2_notFullBelow cX2_notFullBelow 4 (some .int) :: ([.fieldLink RX2 28 "SettlementFund$Sharing" "size" "I", .fieldLink RX2 24 "SettlementFund$Sharing" "isFull" "[Z", .fieldLink RX2 9 "SettlementFund$Sharing" "claim" "[I"] ++ wsX20)
def wsX2_shareRestByPoints : List Cond := .code yX2_shareRestByPoints cX2_shareRestByPoints 4 none :: ([.fieldLink RX2 51 "SettlementFund$Sharing" "restPoints" "J", .fieldLink RX2 47 "SettlementFund$Sharing" "restMoney" "J", .fieldLink RX2 28 "SettlementFund$Sharing" "size" "I", .fieldLink RX2 24 "SettlementFund$Sharing" "isFull" "[Z", .fieldLink RX2 21 "SettlementFund$Sharing" "share" "[I", .fieldLink RX2 15 "SettlementFund$Sharing" "points" "[I", .fieldLink RX2 9 "SettlementFund$Sharing" "claim" "[I", .methodLink RX2 70 yX2_notFullBelow, .instanceMethod yX2_notFullBelow, .selects RX2 yX2_notFullBelow yX2_notFullBelow, .initialized RX2, .code yX2_notFullBelow cX2_notFullBelow 4 (some .int)] ++ wsX20)
def wsX2_shareOnce_r1 : List Cond := [Cond.fieldLink RX2 47 "SettlementFund$Sharing" "restMoney" "J", Cond.fieldLink RX2 51 "SettlementFund$Sharing" "restPoints" "J", Cond.fieldLink RX2 28 "SettlementFund$Sharing" "size" "I", Cond.fieldLink RX2 24 "SettlementFund$Sharing" "isFull" "[Z", Cond.fieldLink RX2 15 "SettlementFund$Sharing" "points" "[I", Cond.methodLink RX2 54 yX2_fillFromFront, Cond.instanceMethod yX2_fillFromFront, Cond.selects RX2 yX2_fillFromFront yX2_fillFromFront, Cond.initialized RX2, Cond.code yX2_fillFromFront cX2_fillFromFront 2 none, Cond.methodLink RX2 63 yX2_reachesRoom, Cond.instanceMethod yX2_reachesRoom, Cond.selects RX2 yX2_reachesRoom yX2_reachesRoom, Cond.code yX2_reachesRoom cX2_reachesRoom 6 (some .boolean), Cond.fieldLink RX2 18 "SettlementFund$Sharing" "room" "[I", Cond.methodLink RX2 67 yX2_fill, Cond.instanceMethod yX2_fill, Cond.selects RX2 yX2_fill yX2_fill, Cond.code yX2_fill cX2_fill 2 none, Cond.fieldLink RX2 21 "SettlementFund$Sharing" "share" "[I", Cond.methodLink RX2 57 yX2_fillInLooks, Cond.instanceMethod yX2_fillInLooks, Cond.selects RX2 yX2_fillInLooks yX2_fillInLooks, Cond.code yX2_fillInLooks cX2_fillInLooks 8 none]
def wsX2_shareOnce_r2 : List Cond := [Cond.methodLink RX2 60 yX2_shareRestByPoints, Cond.instanceMethod yX2_shareRestByPoints, Cond.selects RX2 yX2_shareRestByPoints yX2_shareRestByPoints, Cond.code yX2_shareRestByPoints cX2_shareRestByPoints 4 none, Cond.fieldLink RX2 9 "SettlementFund$Sharing" "claim" "[I", Cond.methodLink RX2 70 yX2_notFullBelow, Cond.instanceMethod yX2_notFullBelow, Cond.selects RX2 yX2_notFullBelow yX2_notFullBelow, Cond.code yX2_notFullBelow cX2_notFullBelow 4 (some .int)]
def wsX2_shareOnce : List Cond := .code yX2_shareOnce cX2_shareOnce 4 none :: ((wsX2_shareOnce_r1 ++ wsX2_shareOnce_r2) ++ wsX20)
def wsX2_placeOfSmallest : List Cond := .code yX2_placeOfSmallest cX2_placeOfSmallest 3 (some .int) :: ([.fieldLink RX2 28 "SettlementFund$Sharing" "size" "I", .fieldLink RX2 21 "SettlementFund$Sharing" "share" "[I", .fieldLink RX2 9 "SettlementFund$Sharing" "claim" "[I"] ++ wsX20)
def wsX2_takeOut : List Cond := .code yX2_takeOut cX2_takeOut 3 none :: ([.fieldLink RX2 28 "SettlementFund$Sharing" "size" "I", .methodLink RX2 74 yX2_copyPlace, .instanceMethod yX2_copyPlace, .selects RX2 yX2_copyPlace yX2_copyPlace, .initialized RX2, .code yX2_copyPlace cX2_copyPlace 3 none, .fieldLink RX2 9 "SettlementFund$Sharing" "claim" "[I", .fieldLink RX2 15 "SettlementFund$Sharing" "points" "[I", .fieldLink RX2 18 "SettlementFund$Sharing" "room" "[I"] ++ wsX20)
def wsX2_shareOut_r1 : List Cond := [Cond.fieldLink RX2 28 "SettlementFund$Sharing" "size" "I", Cond.fieldLink RX2 21 "SettlementFund$Sharing" "share" "[I", Cond.methodLink RX2 32 yX2_sortByRoomPerPoint, Cond.instanceMethod yX2_sortByRoomPerPoint, Cond.selects RX2 yX2_sortByRoomPerPoint yX2_sortByRoomPerPoint, Cond.initialized RX2, Cond.code yX2_sortByRoomPerPoint cX2_sortByRoomPerPoint 3 none, Cond.methodLink RX2 78 yX2_hasLessRoomPerPoint, Cond.instanceMethod yX2_hasLessRoomPerPoint, Cond.selects RX2 yX2_hasLessRoomPerPoint yX2_hasLessRoomPerPoint, Cond.code yX2_hasLessRoomPerPoint cX2_hasLessRoomPerPoint 3 (some .boolean), Cond.fieldLink RX2 18 "SettlementFund$Sharing" "room" "[I", Cond.fieldLink RX2 15 "SettlementFund$Sharing" "points" "[I", Cond.methodLink RX2 82 yX2_swapPlaces, Cond.instanceMethod yX2_swapPlaces, Cond.selects RX2 yX2_swapPlaces yX2_swapPlaces, Cond.code yX2_swapPlaces cX2_swapPlaces 6 none, Cond.fieldLink RX2 9 "SettlementFund$Sharing" "claim" "[I", Cond.methodLink RX2 74 yX2_copyPlace, Cond.instanceMethod yX2_copyPlace, Cond.selects RX2 yX2_copyPlace yX2_copyPlace, Cond.code yX2_copyPlace cX2_copyPlace 3 none, Cond.methodLink RX2 35 yX2_shareOnce, Cond.instanceMethod yX2_shareOnce]
def wsX2_shareOut_r2 : List Cond := [Cond.selects RX2 yX2_shareOnce yX2_shareOnce, Cond.code yX2_shareOnce cX2_shareOnce 4 none, Cond.fieldLink RX2 47 "SettlementFund$Sharing" "restMoney" "J", Cond.fieldLink RX2 51 "SettlementFund$Sharing" "restPoints" "J", Cond.fieldLink RX2 24 "SettlementFund$Sharing" "isFull" "[Z", Cond.methodLink RX2 54 yX2_fillFromFront, Cond.instanceMethod yX2_fillFromFront, Cond.selects RX2 yX2_fillFromFront yX2_fillFromFront, Cond.code yX2_fillFromFront cX2_fillFromFront 2 none, Cond.methodLink RX2 63 yX2_reachesRoom, Cond.instanceMethod yX2_reachesRoom, Cond.selects RX2 yX2_reachesRoom yX2_reachesRoom, Cond.code yX2_reachesRoom cX2_reachesRoom 6 (some .boolean), Cond.methodLink RX2 67 yX2_fill, Cond.instanceMethod yX2_fill, Cond.selects RX2 yX2_fill yX2_fill, Cond.code yX2_fill cX2_fill 2 none, Cond.methodLink RX2 57 yX2_fillInLooks, Cond.instanceMethod yX2_fillInLooks, Cond.selects RX2 yX2_fillInLooks yX2_fillInLooks, Cond.code yX2_fillInLooks cX2_fillInLooks 8 none, Cond.methodLink RX2 60 yX2_shareRestByPoints, Cond.instanceMethod yX2_shareRestByPoints, Cond.selects RX2 yX2_shareRestByPoints yX2_shareRestByPoints]
def wsX2_shareOut_r3 : List Cond := [Cond.code yX2_shareRestByPoints cX2_shareRestByPoints 4 none, Cond.methodLink RX2 70 yX2_notFullBelow, Cond.instanceMethod yX2_notFullBelow, Cond.selects RX2 yX2_notFullBelow yX2_notFullBelow, Cond.code yX2_notFullBelow cX2_notFullBelow 4 (some .int), Cond.methodLink RX2 39 yX2_placeOfSmallest, Cond.instanceMethod yX2_placeOfSmallest, Cond.selects RX2 yX2_placeOfSmallest yX2_placeOfSmallest, Cond.code yX2_placeOfSmallest cX2_placeOfSmallest 3 (some .int), Cond.methodLink RX2 43 yX2_takeOut, Cond.instanceMethod yX2_takeOut, Cond.selects RX2 yX2_takeOut yX2_takeOut, Cond.code yX2_takeOut cX2_takeOut 3 none]
def wsX2_shareOut : List Cond := .code yX2_shareOut cX2_shareOut 6 none :: ((wsX2_shareOut_r1 ++ (wsX2_shareOut_r2 ++ wsX2_shareOut_r3)) ++ wsX20)
def wsX2_shareGivenTo : List Cond := .code yX2_shareGivenTo cX2_shareGivenTo 3 (some .int) :: ([.fieldLink RX2 28 "SettlementFund$Sharing" "size" "I", .fieldLink RX2 9 "SettlementFund$Sharing" "claim" "[I", .fieldLink RX2 21 "SettlementFund$Sharing" "share" "[I"] ++ wsX20)
def wsX2_gainers : List Cond := .code yX2_gainers cX2_gainers 3 (some .int) :: ([.fieldLink RX2 28 "SettlementFund$Sharing" "size" "I", .fieldLink RX2 21 "SettlementFund$Sharing" "share" "[I"] ++ wsX20)
def wsX3_init_r1 : List Cond := [Cond.methodLink RX3 1 objectInit, Cond.instanceMethod objectInit, Cond.code objectInit ⟨#[0xb1]⟩ 1 none, Cond.arrayClass .int, Cond.fieldLink RX3 9 "SettlementFund" "gradePoints" "[I", Cond.fieldLink RX3 13 "SettlementFund" "gradeCap" "[I", Cond.classLink RX3 16 RX0, Cond.instantiable RX0 6, Cond.initialized RX0, Cond.fieldLink RX3 19 "SettlementFund" "claimBook" "LSettlementFund$ClaimBook;", Cond.classLink RX3 23 RX1, Cond.instantiable RX1 5, Cond.initialized RX1, Cond.fieldLink RX3 26 "SettlementFund" "paymentBook" "LSettlementFund$PaymentBook;", Cond.classLink RX3 30 RX2, Cond.instantiable RX2 8, Cond.initialized RX2, Cond.fieldLink RX3 33 "SettlementFund" "sharing" "LSettlementFund$Sharing;", Cond.constant RX3 37 (1000000), Cond.methodLink RX3 18 yX0_init, Cond.instanceMethod yX0_init, Cond.code yX0_init cX0_init 2 none, Cond.methodLink RX0 3 objectInit, Cond.fieldLink RX0 9 "SettlementFund$ClaimBook" "ofPerson" "[I"]
def wsX3_init_r2 : List Cond := [Cond.fieldLink RX0 15 "SettlementFund$ClaimBook" "grade" "[I", Cond.fieldLink RX0 18 "SettlementFund$ClaimBook" "state" "[I", Cond.fieldLink RX0 21 "SettlementFund$ClaimBook" "deadline" "[I", Cond.arrayClass .boolean, Cond.fieldLink RX0 24 "SettlementFund$ClaimBook" "wasObjected" "[Z", Cond.instanceMethod yX1_init, Cond.code yX1_init cX1_init 1 none, Cond.methodLink RX1 3 objectInit, Cond.fieldLink RX1 9 "SettlementFund$PaymentBook" "claim" "[I", Cond.fieldLink RX1 15 "SettlementFund$PaymentBook" "amount" "[I", Cond.fieldLink RX1 18 "SettlementFund$PaymentBook" "state" "[I", Cond.fieldLink RX1 21 "SettlementFund$PaymentBook" "dayMade" "[I", Cond.instanceMethod yX2_init, Cond.code yX2_init cX2_init 1 none, Cond.methodLink RX2 3 objectInit, Cond.fieldLink RX2 9 "SettlementFund$Sharing" "claim" "[I", Cond.fieldLink RX2 15 "SettlementFund$Sharing" "points" "[I", Cond.fieldLink RX2 18 "SettlementFund$Sharing" "room" "[I", Cond.fieldLink RX2 21 "SettlementFund$Sharing" "share" "[I", Cond.fieldLink RX2 24 "SettlementFund$Sharing" "isFull" "[Z"]
def wsX3_init : List Cond := .code yX3_init cX3_init 2 none :: ((wsX3_init_r1 ++ wsX3_init_r2) ++ wsX30 ++ wsX00 ++ wsX10 ++ wsX20)
def wsX3_isOutside : List Cond := .code yX3_isOutside cX3_isOutside 3 (some .boolean) :: ([])
def wsX3_mustHaveNoPayments : List Cond := .code yX3_mustHaveNoPayments cX3_mustHaveNoPayments 1 none :: ([.classLink RX3 103 "java/lang/IllegalStateException", .initialized "java/lang/IllegalStateException", .fieldLink RX3 26 "SettlementFund" "paymentBook" "LSettlementFund$PaymentBook;", .fieldLink RX3 198 "SettlementFund$PaymentBook" "size" "I"] ++ wsX30 ++ wsX10 ++ (vx_atS RX3 107 "java/lang/IllegalStateException" ["java/lang/RuntimeException", "java/lang/Exception"]).filter goodWord)
def wsX3_fee : List Cond := .code yX3_fee cX3_fee 1 (some .int) :: ([.fieldLink RX3 53 "SettlementFund" "sum" "I", .fieldLink RX3 57 "SettlementFund" "feeInThousandths" "I", .constantLong RX3 196 (1000)] ++ wsX30)
def wsX3_moneyLeft : List Cond := .code yX3_moneyLeft cX3_moneyLeft 1 (some .int) :: ([.fieldLink RX3 53 "SettlementFund" "sum" "I", .fieldLink RX3 60 "SettlementFund" "expenses" "I", .fieldLink RX3 26 "SettlementFund" "paymentBook" "LSettlementFund$PaymentBook;", .methodLink RX3 190 yX3_fee, .instanceMethod yX3_fee, .selects RX3 yX3_fee yX3_fee, .initialized RX3, .code yX3_fee cX3_fee 1 (some .int), .fieldLink RX3 57 "SettlementFund" "feeInThousandths" "I", .constantLong RX3 196 (1000), .methodLink RX3 193 yX1_sumOfAll, .instanceMethod yX1_sumOfAll, .selects RX1 yX1_sumOfAll yX1_sumOfAll, .initialized RX1, .code yX1_sumOfAll cX1_sumOfAll 3 (some .int), .fieldLink RX1 24 "SettlementFund$PaymentBook" "size" "I", .fieldLink RX1 18 "SettlementFund$PaymentBook" "state" "[I", .fieldLink RX1 15 "SettlementFund$PaymentBook" "amount" "[I"] ++ wsX30 ++ wsX10)
def wsX3_setFund_r1 : List Cond := [Cond.classLink RX3 43 "java/lang/IllegalArgumentException", Cond.initialized "java/lang/IllegalArgumentException", Cond.constant RX3 38 (10000000), Cond.constant RX3 37 (1000000), Cond.fieldLink RX3 53 "SettlementFund" "sum" "I", Cond.fieldLink RX3 57 "SettlementFund" "feeInThousandths" "I", Cond.fieldLink RX3 60 "SettlementFund" "expenses" "I", Cond.methodLink RX3 39 yX3_isOutside, Cond.static yX3_isOutside, Cond.initialized RX3, Cond.code yX3_isOutside cX3_isOutside 3 (some .boolean), Cond.methodLink RX3 50 yX3_mustHaveNoPayments, Cond.instanceMethod yX3_mustHaveNoPayments, Cond.selects RX3 yX3_mustHaveNoPayments yX3_mustHaveNoPayments, Cond.code yX3_mustHaveNoPayments cX3_mustHaveNoPayments 1 none, Cond.classLink RX3 103 "java/lang/IllegalStateException", Cond.initialized "java/lang/IllegalStateException", Cond.fieldLink RX3 26 "SettlementFund" "paymentBook" "LSettlementFund$PaymentBook;", Cond.fieldLink RX3 198 "SettlementFund$PaymentBook" "size" "I", Cond.methodLink RX3 63 yX3_moneyLeft, Cond.instanceMethod yX3_moneyLeft, Cond.selects RX3 yX3_moneyLeft yX3_moneyLeft, Cond.code yX3_moneyLeft cX3_moneyLeft 1 (some .int), Cond.methodLink RX3 190 yX3_fee]
def wsX3_setFund_r2 : List Cond := [Cond.instanceMethod yX3_fee, Cond.selects RX3 yX3_fee yX3_fee, Cond.code yX3_fee cX3_fee 1 (some .int), Cond.constantLong RX3 196 (1000), Cond.methodLink RX3 193 yX1_sumOfAll, Cond.instanceMethod yX1_sumOfAll, Cond.selects RX1 yX1_sumOfAll yX1_sumOfAll, Cond.initialized RX1, Cond.code yX1_sumOfAll cX1_sumOfAll 3 (some .int), Cond.fieldLink RX1 24 "SettlementFund$PaymentBook" "size" "I", Cond.fieldLink RX1 18 "SettlementFund$PaymentBook" "state" "[I", Cond.fieldLink RX1 15 "SettlementFund$PaymentBook" "amount" "[I"]
def wsX3_setFund : List Cond := .code yX3_setFund cX3_setFund 4 (some .int) :: ((wsX3_setFund_r1 ++ wsX3_setFund_r2) ++ wsX30 ++ wsX10 ++ (vx_atS RX3 47 "java/lang/IllegalArgumentException" ["java/lang/RuntimeException", "java/lang/Exception"]).filter goodWord ++ (vx_atS RX3 107 "java/lang/IllegalStateException" ["java/lang/RuntimeException", "java/lang/Exception"]).filter goodWord)
def wsX3_setGrade : List Cond := .code yX3_setGrade cX3_setGrade 4 none :: ([.classLink RX3 67 "java/lang/IndexOutOfBoundsException", .initialized "java/lang/IndexOutOfBoundsException", .classLink RX3 43 "java/lang/IllegalArgumentException", .initialized "java/lang/IllegalArgumentException", .constant RX3 37 (1000000), .fieldLink RX3 9 "SettlementFund" "gradePoints" "[I", .fieldLink RX3 13 "SettlementFund" "gradeCap" "[I", .methodLink RX3 39 yX3_isOutside, .static yX3_isOutside, .initialized RX3, .code yX3_isOutside cX3_isOutside 3 (some .boolean), .methodLink RX3 50 yX3_mustHaveNoPayments, .instanceMethod yX3_mustHaveNoPayments, .selects RX3 yX3_mustHaveNoPayments yX3_mustHaveNoPayments, .code yX3_mustHaveNoPayments cX3_mustHaveNoPayments 1 none, .classLink RX3 103 "java/lang/IllegalStateException", .initialized "java/lang/IllegalStateException", .fieldLink RX3 26 "SettlementFund" "paymentBook" "LSettlementFund$PaymentBook;", .fieldLink RX3 198 "SettlementFund$PaymentBook" "size" "I"] ++ wsX30 ++ wsX10 ++ (vx_atS RX3 71 "java/lang/IndexOutOfBoundsException" ["java/lang/RuntimeException", "java/lang/Exception"]).filter goodWord ++ (vx_atS RX3 47 "java/lang/IllegalArgumentException" ["java/lang/RuntimeException", "java/lang/Exception"]).filter goodWord ++ (vx_atS RX3 107 "java/lang/IllegalStateException" ["java/lang/RuntimeException", "java/lang/Exception"]).filter goodWord)
def wsX3_pass_r1 : List Cond := [Cond.classLink RX3 43 "java/lang/IllegalArgumentException", Cond.initialized "java/lang/IllegalArgumentException", Cond.fieldLink RX3 76 "SettlementFund" "day" "I", Cond.fieldLink RX3 19 "SettlementFund" "claimBook" "LSettlementFund$ClaimBook;", Cond.fieldLink RX3 26 "SettlementFund" "paymentBook" "LSettlementFund$PaymentBook;", Cond.methodLink RX3 39 yX3_isOutside, Cond.static yX3_isOutside, Cond.initialized RX3, Cond.code yX3_isOutside cX3_isOutside 3 (some .boolean), Cond.methodLink RX3 79 yX0_denyLate, Cond.instanceMethod yX0_denyLate, Cond.selects RX0 yX0_denyLate yX0_denyLate, Cond.initialized RX0, Cond.code yX0_denyLate cX0_denyLate 3 none, Cond.fieldLink RX0 28 "SettlementFund$ClaimBook" "size" "I", Cond.fieldLink RX0 18 "SettlementFund$ClaimBook" "state" "[I", Cond.fieldLink RX0 21 "SettlementFund$ClaimBook" "deadline" "[I", Cond.methodLink RX3 83 yX1_voidLate, Cond.instanceMethod yX1_voidLate, Cond.selects RX1 yX1_voidLate yX1_voidLate, Cond.initialized RX1, Cond.code yX1_voidLate cX1_voidLate 3 none, Cond.fieldLink RX1 24 "SettlementFund$PaymentBook" "size" "I", Cond.fieldLink RX1 18 "SettlementFund$PaymentBook" "state" "[I"]
def wsX3_pass_r2 : List Cond := [Cond.fieldLink RX1 21 "SettlementFund$PaymentBook" "dayMade" "[I"]
def wsX3_pass : List Cond := .code yX3_pass cX3_pass 2 (some .int) :: ((wsX3_pass_r1 ++ wsX3_pass_r2) ++ wsX30 ++ wsX00 ++ wsX10 ++ (vx_atS RX3 47 "java/lang/IllegalArgumentException" ["java/lang/RuntimeException", "java/lang/Exception"]).filter goodWord)
def wsX3_claim_r1 : List Cond := [Cond.classLink RX3 67 "java/lang/IndexOutOfBoundsException", Cond.initialized "java/lang/IndexOutOfBoundsException", Cond.classLink RX3 43 "java/lang/IllegalArgumentException", Cond.initialized "java/lang/IllegalArgumentException", Cond.classLink RX3 103 "java/lang/IllegalStateException", Cond.initialized "java/lang/IllegalStateException", Cond.fieldLink RX3 19 "SettlementFund" "claimBook" "LSettlementFund$ClaimBook;", Cond.fieldLink RX3 88 "SettlementFund$ClaimBook" "ofPerson" "[I", Cond.fieldLink RX3 76 "SettlementFund" "day" "I", Cond.methodLink RX3 39 yX3_isOutside, Cond.static yX3_isOutside, Cond.initialized RX3, Cond.code yX3_isOutside cX3_isOutside 3 (some .boolean), Cond.methodLink RX3 91 yX0_has, Cond.instanceMethod yX0_has, Cond.selects RX0 yX0_has yX0_has, Cond.initialized RX0, Cond.code yX0_has cX0_has 2 (some .boolean), Cond.fieldLink RX0 28 "SettlementFund$ClaimBook" "size" "I", Cond.methodLink RX3 95 yX0_join, Cond.instanceMethod yX0_join, Cond.selects RX0 yX0_join yX0_join, Cond.code yX0_join cX0_join 4 none, Cond.fieldLink RX0 15 "SettlementFund$ClaimBook" "grade" "[I"]
def wsX3_claim_r2 : List Cond := [Cond.methodLink RX0 32 Lib.Math.max.name, Cond.static Lib.Math.max.name, Cond.initialized "java/lang/Math", Cond.code Lib.Math.max.name Lib.Math.max.code 2 (some .int), Cond.fieldLink RX0 18 "SettlementFund$ClaimBook" "state" "[I", Cond.methodLink RX3 99 yX0_hasPlace, Cond.instanceMethod yX0_hasPlace, Cond.selects RX0 yX0_hasPlace yX0_hasPlace, Cond.code yX0_hasPlace cX0_hasPlace 1 (some .boolean), Cond.methodLink RX3 108 yX0_enter, Cond.instanceMethod yX0_enter, Cond.selects RX0 yX0_enter yX0_enter, Cond.code yX0_enter cX0_enter 6 (some .int), Cond.fieldLink RX0 9 "SettlementFund$ClaimBook" "ofPerson" "[I", Cond.fieldLink RX0 21 "SettlementFund$ClaimBook" "deadline" "[I"]
def wsX3_claim : List Cond := .code yX3_claim cX3_claim 6 (some .int) :: ((wsX3_claim_r1 ++ wsX3_claim_r2) ++ wsX30 ++ wsX00 ++ (vx_atS RX3 71 "java/lang/IndexOutOfBoundsException" ["java/lang/RuntimeException", "java/lang/Exception"]).filter goodWord ++ (vx_atS RX3 47 "java/lang/IllegalArgumentException" ["java/lang/RuntimeException", "java/lang/Exception"]).filter goodWord ++ (vx_atS RX3 107 "java/lang/IllegalStateException" ["java/lang/RuntimeException", "java/lang/Exception"]).filter goodWord)
def wsX3_mustBeClaim : List Cond := .code yX3_mustBeClaim cX3_mustBeClaim 2 none :: ([.classLink RX3 67 "java/lang/IndexOutOfBoundsException", .initialized "java/lang/IndexOutOfBoundsException", .fieldLink RX3 19 "SettlementFund" "claimBook" "LSettlementFund$ClaimBook;", .methodLink RX3 91 yX0_has, .instanceMethod yX0_has, .selects RX0 yX0_has yX0_has, .initialized RX0, .code yX0_has cX0_has 2 (some .boolean), .fieldLink RX0 28 "SettlementFund$ClaimBook" "size" "I"] ++ wsX30 ++ wsX00 ++ (vx_atS RX3 71 "java/lang/IndexOutOfBoundsException" ["java/lang/RuntimeException", "java/lang/Exception"]).filter goodWord)
def wsX3_cure : List Cond := .code yX3_cure cX3_cure 2 (some .int) :: ([.classLink RX3 103 "java/lang/IllegalStateException", .initialized "java/lang/IllegalStateException", .fieldLink RX3 19 "SettlementFund" "claimBook" "LSettlementFund$ClaimBook;", .fieldLink RX3 115 "SettlementFund$ClaimBook" "state" "[I", .fieldLink RX3 120 "SettlementFund$ClaimBook" "deadline" "[I", .fieldLink RX3 76 "SettlementFund" "day" "I", .methodLink RX3 112 yX3_mustBeClaim, .instanceMethod yX3_mustBeClaim, .selects RX3 yX3_mustBeClaim yX3_mustBeClaim, .initialized RX3, .code yX3_mustBeClaim cX3_mustBeClaim 2 none, .classLink RX3 67 "java/lang/IndexOutOfBoundsException", .initialized "java/lang/IndexOutOfBoundsException", .methodLink RX3 91 yX0_has, .instanceMethod yX0_has, .selects RX0 yX0_has yX0_has, .initialized RX0, .code yX0_has cX0_has 2 (some .boolean), .fieldLink RX0 28 "SettlementFund$ClaimBook" "size" "I"] ++ wsX30 ++ wsX00 ++ (vx_atS RX3 107 "java/lang/IllegalStateException" ["java/lang/RuntimeException", "java/lang/Exception"]).filter goodWord ++ (vx_atS RX3 71 "java/lang/IndexOutOfBoundsException" ["java/lang/RuntimeException", "java/lang/Exception"]).filter goodWord)
def wsX3_deny : List Cond := .code yX3_deny cX3_deny 3 (some .int) :: ([.classLink RX3 103 "java/lang/IllegalStateException", .initialized "java/lang/IllegalStateException", .fieldLink RX3 19 "SettlementFund" "claimBook" "LSettlementFund$ClaimBook;", .fieldLink RX3 115 "SettlementFund$ClaimBook" "state" "[I", .methodLink RX3 112 yX3_mustBeClaim, .instanceMethod yX3_mustBeClaim, .selects RX3 yX3_mustBeClaim yX3_mustBeClaim, .initialized RX3, .code yX3_mustBeClaim cX3_mustBeClaim 2 none, .classLink RX3 67 "java/lang/IndexOutOfBoundsException", .initialized "java/lang/IndexOutOfBoundsException", .methodLink RX3 91 yX0_has, .instanceMethod yX0_has, .selects RX0 yX0_has yX0_has, .initialized RX0, .code yX0_has cX0_has 2 (some .boolean), .fieldLink RX0 28 "SettlementFund$ClaimBook" "size" "I"] ++ wsX30 ++ wsX00 ++ (vx_atS RX3 107 "java/lang/IllegalStateException" ["java/lang/RuntimeException", "java/lang/Exception"]).filter goodWord ++ (vx_atS RX3 71 "java/lang/IndexOutOfBoundsException" ["java/lang/RuntimeException", "java/lang/Exception"]).filter goodWord)
def wsX3_object : List Cond := .code yX3_object cX3_object 2 (some .int) :: ([.classLink RX3 103 "java/lang/IllegalStateException", .initialized "java/lang/IllegalStateException", .fieldLink RX3 19 "SettlementFund" "claimBook" "LSettlementFund$ClaimBook;", .fieldLink RX3 115 "SettlementFund$ClaimBook" "state" "[I", .fieldLink RX3 125 "SettlementFund$ClaimBook" "wasObjected" "[Z", .methodLink RX3 112 yX3_mustBeClaim, .instanceMethod yX3_mustBeClaim, .selects RX3 yX3_mustBeClaim yX3_mustBeClaim, .initialized RX3, .code yX3_mustBeClaim cX3_mustBeClaim 2 none, .classLink RX3 67 "java/lang/IndexOutOfBoundsException", .initialized "java/lang/IndexOutOfBoundsException", .methodLink RX3 91 yX0_has, .instanceMethod yX0_has, .selects RX0 yX0_has yX0_has, .initialized RX0, .code yX0_has cX0_has 2 (some .boolean), .fieldLink RX0 28 "SettlementFund$ClaimBook" "size" "I", .methodLink RX3 131 yX0_tally, .instanceMethod yX0_tally, .selects RX0 yX0_tally yX0_tally, .code yX0_tally cX0_tally 4 (some .int), .fieldLink RX0 18 "SettlementFund$ClaimBook" "state" "[I"] ++ wsX30 ++ wsX00 ++ (vx_atS RX3 107 "java/lang/IllegalStateException" ["java/lang/RuntimeException", "java/lang/Exception"]).filter goodWord ++ (vx_atS RX3 71 "java/lang/IndexOutOfBoundsException" ["java/lang/RuntimeException", "java/lang/Exception"]).filter goodWord)
def wsX3_decide : List Cond := .code yX3_decide cX3_decide 3 (some .int) :: ([.classLink RX3 103 "java/lang/IllegalStateException", .initialized "java/lang/IllegalStateException", .fieldLink RX3 19 "SettlementFund" "claimBook" "LSettlementFund$ClaimBook;", .fieldLink RX3 115 "SettlementFund$ClaimBook" "state" "[I", .methodLink RX3 112 yX3_mustBeClaim, .instanceMethod yX3_mustBeClaim, .selects RX3 yX3_mustBeClaim yX3_mustBeClaim, .initialized RX3, .code yX3_mustBeClaim cX3_mustBeClaim 2 none, .classLink RX3 67 "java/lang/IndexOutOfBoundsException", .initialized "java/lang/IndexOutOfBoundsException", .methodLink RX3 91 yX0_has, .instanceMethod yX0_has, .selects RX0 yX0_has yX0_has, .initialized RX0, .code yX0_has cX0_has 2 (some .boolean), .fieldLink RX0 28 "SettlementFund$ClaimBook" "size" "I", .methodLink RX3 131 yX0_tally, .instanceMethod yX0_tally, .selects RX0 yX0_tally yX0_tally, .code yX0_tally cX0_tally 4 (some .int), .fieldLink RX0 18 "SettlementFund$ClaimBook" "state" "[I"] ++ wsX30 ++ wsX00 ++ (vx_atS RX3 107 "java/lang/IllegalStateException" ["java/lang/RuntimeException", "java/lang/Exception"]).filter goodWord ++ (vx_atS RX3 71 "java/lang/IndexOutOfBoundsException" ["java/lang/RuntimeException", "java/lang/Exception"]).filter goodWord)
def wsX3_mustBeLeast : List Cond := .code yX3_mustBeLeast cX3_mustBeLeast 2 none :: ([.classLink RX3 43 "java/lang/IllegalArgumentException", .initialized "java/lang/IllegalArgumentException", .constant RX3 211 (100000), .methodLink RX3 39 yX3_isOutside, .static yX3_isOutside, .initialized RX3, .code yX3_isOutside cX3_isOutside 3 (some .boolean)] ++ (vx_atS RX3 47 "java/lang/IllegalArgumentException" ["java/lang/RuntimeException", "java/lang/Exception"]).filter goodWord)
def wsX3_valueAt : List Cond := .code yX3_valueAt cX3_valueAt 2 (some .int) :: ([])
def wsX3_room_r1 : List Cond := [Cond.fieldLink RX3 13 "SettlementFund" "gradeCap" "[I", Cond.fieldLink RX3 19 "SettlementFund" "claimBook" "LSettlementFund$ClaimBook;", Cond.fieldLink RX3 178 "SettlementFund$ClaimBook" "grade" "[I", Cond.fieldLink RX3 26 "SettlementFund" "paymentBook" "LSettlementFund$PaymentBook;", Cond.methodLink RX3 112 yX3_mustBeClaim, Cond.instanceMethod yX3_mustBeClaim, Cond.selects RX3 yX3_mustBeClaim yX3_mustBeClaim, Cond.initialized RX3, Cond.code yX3_mustBeClaim cX3_mustBeClaim 2 none, Cond.classLink RX3 67 "java/lang/IndexOutOfBoundsException", Cond.initialized "java/lang/IndexOutOfBoundsException", Cond.methodLink RX3 91 yX0_has, Cond.instanceMethod yX0_has, Cond.selects RX0 yX0_has yX0_has, Cond.initialized RX0, Cond.code yX0_has cX0_has 2 (some .boolean), Cond.fieldLink RX0 28 "SettlementFund$ClaimBook" "size" "I", Cond.methodLink RX3 181 yX3_valueAt, Cond.static yX3_valueAt, Cond.code yX3_valueAt cX3_valueAt 2 (some .int), Cond.methodLink RX3 185 yX1_sumFor, Cond.instanceMethod yX1_sumFor, Cond.selects RX1 yX1_sumFor yX1_sumFor, Cond.initialized RX1]
def wsX3_room_r2 : List Cond := [Cond.code yX1_sumFor cX1_sumFor 4 (some .int), Cond.fieldLink RX1 24 "SettlementFund$PaymentBook" "size" "I", Cond.fieldLink RX1 9 "SettlementFund$PaymentBook" "claim" "[I", Cond.fieldLink RX1 18 "SettlementFund$PaymentBook" "state" "[I", Cond.fieldLink RX1 15 "SettlementFund$PaymentBook" "amount" "[I"]
def wsX3_room : List Cond := .code yX3_room cX3_room 3 (some .int) :: ((wsX3_room_r1 ++ wsX3_room_r2) ++ wsX30 ++ wsX00 ++ wsX10 ++ (vx_atS RX3 71 "java/lang/IndexOutOfBoundsException" ["java/lang/RuntimeException", "java/lang/Exception"]).filter goodWord)
def wsX3_takesPart_r1 : List Cond := [Cond.fieldLink RX3 19 "SettlementFund" "claimBook" "LSettlementFund$ClaimBook;", Cond.fieldLink RX3 115 "SettlementFund$ClaimBook" "state" "[I", Cond.fieldLink RX3 26 "SettlementFund" "paymentBook" "LSettlementFund$PaymentBook;", Cond.methodLink RX3 225 yX3_room, Cond.instanceMethod yX3_room, Cond.selects RX3 yX3_room yX3_room, Cond.initialized RX3, Cond.code yX3_room cX3_room 3 (some .int), Cond.fieldLink RX3 13 "SettlementFund" "gradeCap" "[I", Cond.fieldLink RX3 178 "SettlementFund$ClaimBook" "grade" "[I", Cond.methodLink RX3 112 yX3_mustBeClaim, Cond.instanceMethod yX3_mustBeClaim, Cond.selects RX3 yX3_mustBeClaim yX3_mustBeClaim, Cond.code yX3_mustBeClaim cX3_mustBeClaim 2 none, Cond.classLink RX3 67 "java/lang/IndexOutOfBoundsException", Cond.initialized "java/lang/IndexOutOfBoundsException", Cond.methodLink RX3 91 yX0_has, Cond.instanceMethod yX0_has, Cond.selects RX0 yX0_has yX0_has, Cond.initialized RX0, Cond.code yX0_has cX0_has 2 (some .boolean), Cond.fieldLink RX0 28 "SettlementFund$ClaimBook" "size" "I", Cond.methodLink RX3 181 yX3_valueAt, Cond.static yX3_valueAt]
def wsX3_takesPart_r2 : List Cond := [Cond.code yX3_valueAt cX3_valueAt 2 (some .int), Cond.methodLink RX3 185 yX1_sumFor, Cond.instanceMethod yX1_sumFor, Cond.selects RX1 yX1_sumFor yX1_sumFor, Cond.initialized RX1, Cond.code yX1_sumFor cX1_sumFor 4 (some .int), Cond.fieldLink RX1 24 "SettlementFund$PaymentBook" "size" "I", Cond.fieldLink RX1 9 "SettlementFund$PaymentBook" "claim" "[I", Cond.fieldLink RX1 18 "SettlementFund$PaymentBook" "state" "[I", Cond.fieldLink RX1 15 "SettlementFund$PaymentBook" "amount" "[I", Cond.methodLink RX3 235 yX1_hasVoidFor, Cond.instanceMethod yX1_hasVoidFor, Cond.selects RX1 yX1_hasVoidFor yX1_hasVoidFor, Cond.code yX1_hasVoidFor cX1_hasVoidFor 3 (some .boolean)]
def wsX3_takesPart : List Cond := .code yX3_takesPart cX3_takesPart 2 (some .boolean) :: ((wsX3_takesPart_r1 ++ wsX3_takesPart_r2) ++ wsX30 ++ wsX00 ++ wsX10 ++ (vx_atS RX3 71 "java/lang/IndexOutOfBoundsException" ["java/lang/RuntimeException", "java/lang/Exception"]).filter goodWord)
def wsX3_shareMoneyLeft_r1 : List Cond := [Cond.fieldLink RX3 33 "SettlementFund" "sharing" "LSettlementFund$Sharing;", Cond.fieldLink RX3 19 "SettlementFund" "claimBook" "LSettlementFund$ClaimBook;", Cond.fieldLink RX3 173 "SettlementFund$ClaimBook" "size" "I", Cond.fieldLink RX3 9 "SettlementFund" "gradePoints" "[I", Cond.fieldLink RX3 178 "SettlementFund$ClaimBook" "grade" "[I", Cond.methodLink RX3 219 yX2_clear, Cond.instanceMethod yX2_clear, Cond.selects RX2 yX2_clear yX2_clear, Cond.initialized RX2, Cond.code yX2_clear cX2_clear 1 none, Cond.fieldLink RX2 28 "SettlementFund$Sharing" "size" "I", Cond.methodLink RX3 63 yX3_moneyLeft, Cond.instanceMethod yX3_moneyLeft, Cond.selects RX3 yX3_moneyLeft yX3_moneyLeft, Cond.initialized RX3, Cond.code yX3_moneyLeft cX3_moneyLeft 1 (some .int), Cond.fieldLink RX3 53 "SettlementFund" "sum" "I", Cond.fieldLink RX3 60 "SettlementFund" "expenses" "I", Cond.fieldLink RX3 26 "SettlementFund" "paymentBook" "LSettlementFund$PaymentBook;", Cond.methodLink RX3 190 yX3_fee, Cond.instanceMethod yX3_fee, Cond.selects RX3 yX3_fee yX3_fee, Cond.code yX3_fee cX3_fee 1 (some .int), Cond.fieldLink RX3 57 "SettlementFund" "feeInThousandths" "I"]
def wsX3_shareMoneyLeft_r2 : List Cond := [Cond.constantLong RX3 196 (1000), Cond.methodLink RX3 193 yX1_sumOfAll, Cond.instanceMethod yX1_sumOfAll, Cond.selects RX1 yX1_sumOfAll yX1_sumOfAll, Cond.initialized RX1, Cond.code yX1_sumOfAll cX1_sumOfAll 3 (some .int), Cond.fieldLink RX1 24 "SettlementFund$PaymentBook" "size" "I", Cond.fieldLink RX1 18 "SettlementFund$PaymentBook" "state" "[I", Cond.fieldLink RX1 15 "SettlementFund$PaymentBook" "amount" "[I", Cond.methodLink RX3 222 yX3_takesPart, Cond.instanceMethod yX3_takesPart, Cond.selects RX3 yX3_takesPart yX3_takesPart, Cond.code yX3_takesPart cX3_takesPart 2 (some .boolean), Cond.fieldLink RX3 115 "SettlementFund$ClaimBook" "state" "[I", Cond.methodLink RX3 225 yX3_room, Cond.instanceMethod yX3_room, Cond.selects RX3 yX3_room yX3_room, Cond.code yX3_room cX3_room 3 (some .int), Cond.fieldLink RX3 13 "SettlementFund" "gradeCap" "[I", Cond.methodLink RX3 112 yX3_mustBeClaim, Cond.instanceMethod yX3_mustBeClaim, Cond.selects RX3 yX3_mustBeClaim yX3_mustBeClaim, Cond.code yX3_mustBeClaim cX3_mustBeClaim 2 none, Cond.classLink RX3 67 "java/lang/IndexOutOfBoundsException"]
def wsX3_shareMoneyLeft_r3 : List Cond := [Cond.initialized "java/lang/IndexOutOfBoundsException", Cond.methodLink RX3 91 yX0_has, Cond.instanceMethod yX0_has, Cond.selects RX0 yX0_has yX0_has, Cond.initialized RX0, Cond.code yX0_has cX0_has 2 (some .boolean), Cond.fieldLink RX0 28 "SettlementFund$ClaimBook" "size" "I", Cond.methodLink RX3 181 yX3_valueAt, Cond.static yX3_valueAt, Cond.code yX3_valueAt cX3_valueAt 2 (some .int), Cond.methodLink RX3 185 yX1_sumFor, Cond.instanceMethod yX1_sumFor, Cond.selects RX1 yX1_sumFor yX1_sumFor, Cond.code yX1_sumFor cX1_sumFor 4 (some .int), Cond.fieldLink RX1 9 "SettlementFund$PaymentBook" "claim" "[I", Cond.methodLink RX3 235 yX1_hasVoidFor, Cond.instanceMethod yX1_hasVoidFor, Cond.selects RX1 yX1_hasVoidFor yX1_hasVoidFor, Cond.code yX1_hasVoidFor cX1_hasVoidFor 3 (some .boolean), Cond.methodLink RX3 228 yX2_add, Cond.instanceMethod yX2_add, Cond.selects RX2 yX2_add yX2_add, Cond.code yX2_add cX2_add 4 none, Cond.fieldLink RX2 9 "SettlementFund$Sharing" "claim" "[I"]
def wsX3_shareMoneyLeft_r4 : List Cond := [Cond.fieldLink RX2 15 "SettlementFund$Sharing" "points" "[I", Cond.fieldLink RX2 18 "SettlementFund$Sharing" "room" "[I", Cond.methodLink RX3 232 yX2_shareOut, Cond.instanceMethod yX2_shareOut, Cond.selects RX2 yX2_shareOut yX2_shareOut, Cond.code yX2_shareOut cX2_shareOut 6 none, Cond.fieldLink RX2 21 "SettlementFund$Sharing" "share" "[I", Cond.methodLink RX2 32 yX2_sortByRoomPerPoint, Cond.instanceMethod yX2_sortByRoomPerPoint, Cond.selects RX2 yX2_sortByRoomPerPoint yX2_sortByRoomPerPoint, Cond.code yX2_sortByRoomPerPoint cX2_sortByRoomPerPoint 3 none, Cond.methodLink RX2 78 yX2_hasLessRoomPerPoint, Cond.instanceMethod yX2_hasLessRoomPerPoint, Cond.selects RX2 yX2_hasLessRoomPerPoint yX2_hasLessRoomPerPoint, Cond.code yX2_hasLessRoomPerPoint cX2_hasLessRoomPerPoint 3 (some .boolean), Cond.methodLink RX2 82 yX2_swapPlaces, Cond.instanceMethod yX2_swapPlaces, Cond.selects RX2 yX2_swapPlaces yX2_swapPlaces, Cond.code yX2_swapPlaces cX2_swapPlaces 6 none, Cond.methodLink RX2 74 yX2_copyPlace, Cond.instanceMethod yX2_copyPlace, Cond.selects RX2 yX2_copyPlace yX2_copyPlace, Cond.code yX2_copyPlace cX2_copyPlace 3 none, Cond.methodLink RX2 35 yX2_shareOnce]
def wsX3_shareMoneyLeft_r5 : List Cond := [Cond.instanceMethod yX2_shareOnce, Cond.selects RX2 yX2_shareOnce yX2_shareOnce, Cond.code yX2_shareOnce cX2_shareOnce 4 none, Cond.fieldLink RX2 47 "SettlementFund$Sharing" "restMoney" "J", Cond.fieldLink RX2 51 "SettlementFund$Sharing" "restPoints" "J", Cond.fieldLink RX2 24 "SettlementFund$Sharing" "isFull" "[Z", Cond.methodLink RX2 54 yX2_fillFromFront, Cond.instanceMethod yX2_fillFromFront, Cond.selects RX2 yX2_fillFromFront yX2_fillFromFront, Cond.code yX2_fillFromFront cX2_fillFromFront 2 none, Cond.methodLink RX2 63 yX2_reachesRoom, Cond.instanceMethod yX2_reachesRoom, Cond.selects RX2 yX2_reachesRoom yX2_reachesRoom, Cond.code yX2_reachesRoom cX2_reachesRoom 6 (some .boolean), Cond.methodLink RX2 67 yX2_fill, Cond.instanceMethod yX2_fill, Cond.selects RX2 yX2_fill yX2_fill, Cond.code yX2_fill cX2_fill 2 none, Cond.methodLink RX2 57 yX2_fillInLooks, Cond.instanceMethod yX2_fillInLooks, Cond.selects RX2 yX2_fillInLooks yX2_fillInLooks, Cond.code yX2_fillInLooks cX2_fillInLooks 8 none, Cond.methodLink RX2 60 yX2_shareRestByPoints, Cond.instanceMethod yX2_shareRestByPoints]
def wsX3_shareMoneyLeft_r6 : List Cond := [Cond.selects RX2 yX2_shareRestByPoints yX2_shareRestByPoints, Cond.code yX2_shareRestByPoints cX2_shareRestByPoints 4 none, Cond.methodLink RX2 70 yX2_notFullBelow, Cond.instanceMethod yX2_notFullBelow, Cond.selects RX2 yX2_notFullBelow yX2_notFullBelow, Cond.code yX2_notFullBelow cX2_notFullBelow 4 (some .int), Cond.methodLink RX2 39 yX2_placeOfSmallest, Cond.instanceMethod yX2_placeOfSmallest, Cond.selects RX2 yX2_placeOfSmallest yX2_placeOfSmallest, Cond.code yX2_placeOfSmallest cX2_placeOfSmallest 3 (some .int), Cond.methodLink RX2 43 yX2_takeOut, Cond.instanceMethod yX2_takeOut, Cond.selects RX2 yX2_takeOut yX2_takeOut, Cond.code yX2_takeOut cX2_takeOut 3 none]
def wsX3_shareMoneyLeft : List Cond := .code yX3_shareMoneyLeft cX3_shareMoneyLeft 5 none :: ((wsX3_shareMoneyLeft_r1 ++ (wsX3_shareMoneyLeft_r2 ++ (wsX3_shareMoneyLeft_r3 ++ (wsX3_shareMoneyLeft_r4 ++ (wsX3_shareMoneyLeft_r5 ++ wsX3_shareMoneyLeft_r6))))) ++ wsX30 ++ wsX00 ++ wsX20 ++ wsX10 ++ (vx_atS RX3 71 "java/lang/IndexOutOfBoundsException" ["java/lang/RuntimeException", "java/lang/Exception"]).filter goodWord)
def wsX3_makePayments_r1 : List Cond := [Cond.fieldLink RX3 19 "SettlementFund" "claimBook" "LSettlementFund$ClaimBook;", Cond.fieldLink RX3 173 "SettlementFund$ClaimBook" "size" "I", Cond.fieldLink RX3 33 "SettlementFund" "sharing" "LSettlementFund$Sharing;", Cond.fieldLink RX3 26 "SettlementFund" "paymentBook" "LSettlementFund$PaymentBook;", Cond.fieldLink RX3 76 "SettlementFund" "day" "I", Cond.methodLink RX3 216 yX2_shareGivenTo, Cond.instanceMethod yX2_shareGivenTo, Cond.selects RX2 yX2_shareGivenTo yX2_shareGivenTo, Cond.initialized RX2, Cond.code yX2_shareGivenTo cX2_shareGivenTo 3 (some .int), Cond.fieldLink RX2 28 "SettlementFund$Sharing" "size" "I", Cond.fieldLink RX2 9 "SettlementFund$Sharing" "claim" "[I", Cond.fieldLink RX2 21 "SettlementFund$Sharing" "share" "[I", Cond.methodLink RX3 238 yX1_add, Cond.instanceMethod yX1_add, Cond.selects RX1 yX1_add yX1_add, Cond.initialized RX1, Cond.code yX1_add cX1_add 4 none, Cond.fieldLink RX1 9 "SettlementFund$PaymentBook" "claim" "[I", Cond.fieldLink RX1 24 "SettlementFund$PaymentBook" "size" "I", Cond.fieldLink RX1 15 "SettlementFund$PaymentBook" "amount" "[I", Cond.fieldLink RX1 18 "SettlementFund$PaymentBook" "state" "[I", Cond.fieldLink RX1 21 "SettlementFund$PaymentBook" "dayMade" "[I", Cond.methodLink RX1 28 yX1_hasPlacesFor]
def wsX3_makePayments_r2 : List Cond := [Cond.instanceMethod yX1_hasPlacesFor, Cond.selects RX1 yX1_hasPlacesFor yX1_hasPlacesFor, Cond.code yX1_hasPlacesFor cX1_hasPlacesFor 2 (some .boolean)]
def wsX3_makePayments : List Cond := .code yX3_makePayments cX3_makePayments 3 none :: ((wsX3_makePayments_r1 ++ wsX3_makePayments_r2) ++ wsX30 ++ wsX00 ++ wsX20 ++ wsX10)
def wsX3_round_r1 : List Cond := [Cond.classLink RX3 103 "java/lang/IllegalStateException", Cond.initialized "java/lang/IllegalStateException", Cond.fieldLink RX3 19 "SettlementFund" "claimBook" "LSettlementFund$ClaimBook;", Cond.fieldLink RX3 26 "SettlementFund" "paymentBook" "LSettlementFund$PaymentBook;", Cond.fieldLink RX3 33 "SettlementFund" "sharing" "LSettlementFund$Sharing;", Cond.methodLink RX3 137 yX3_mustBeLeast, Cond.instanceMethod yX3_mustBeLeast, Cond.selects RX3 yX3_mustBeLeast yX3_mustBeLeast, Cond.initialized RX3, Cond.code yX3_mustBeLeast cX3_mustBeLeast 2 none, Cond.classLink RX3 43 "java/lang/IllegalArgumentException", Cond.initialized "java/lang/IllegalArgumentException", Cond.constant RX3 211 (100000), Cond.methodLink RX3 39 yX3_isOutside, Cond.static yX3_isOutside, Cond.code yX3_isOutside cX3_isOutside 3 (some .boolean), Cond.methodLink RX3 131 yX0_tally, Cond.instanceMethod yX0_tally, Cond.selects RX0 yX0_tally yX0_tally, Cond.initialized RX0, Cond.code yX0_tally cX0_tally 4 (some .int), Cond.fieldLink RX0 28 "SettlementFund$ClaimBook" "size" "I", Cond.fieldLink RX0 18 "SettlementFund$ClaimBook" "state" "[I", Cond.methodLink RX3 142 yX1_hasOpen]
def wsX3_round_r2 : List Cond := [Cond.instanceMethod yX1_hasOpen, Cond.selects RX1 yX1_hasOpen yX1_hasOpen, Cond.initialized RX1, Cond.code yX1_hasOpen cX1_hasOpen 2 (some .boolean), Cond.fieldLink RX1 24 "SettlementFund$PaymentBook" "size" "I", Cond.fieldLink RX1 18 "SettlementFund$PaymentBook" "state" "[I", Cond.methodLink RX3 63 yX3_moneyLeft, Cond.instanceMethod yX3_moneyLeft, Cond.selects RX3 yX3_moneyLeft yX3_moneyLeft, Cond.code yX3_moneyLeft cX3_moneyLeft 1 (some .int), Cond.fieldLink RX3 53 "SettlementFund" "sum" "I", Cond.fieldLink RX3 60 "SettlementFund" "expenses" "I", Cond.methodLink RX3 190 yX3_fee, Cond.instanceMethod yX3_fee, Cond.selects RX3 yX3_fee yX3_fee, Cond.code yX3_fee cX3_fee 1 (some .int), Cond.fieldLink RX3 57 "SettlementFund" "feeInThousandths" "I", Cond.constantLong RX3 196 (1000), Cond.methodLink RX3 193 yX1_sumOfAll, Cond.instanceMethod yX1_sumOfAll, Cond.selects RX1 yX1_sumOfAll yX1_sumOfAll, Cond.code yX1_sumOfAll cX1_sumOfAll 3 (some .int), Cond.fieldLink RX1 15 "SettlementFund$PaymentBook" "amount" "[I", Cond.methodLink RX3 149 yX3_shareMoneyLeft]
def wsX3_round_r3 : List Cond := [Cond.instanceMethod yX3_shareMoneyLeft, Cond.selects RX3 yX3_shareMoneyLeft yX3_shareMoneyLeft, Cond.code yX3_shareMoneyLeft cX3_shareMoneyLeft 5 none, Cond.fieldLink RX3 173 "SettlementFund$ClaimBook" "size" "I", Cond.fieldLink RX3 9 "SettlementFund" "gradePoints" "[I", Cond.fieldLink RX3 178 "SettlementFund$ClaimBook" "grade" "[I", Cond.methodLink RX3 219 yX2_clear, Cond.instanceMethod yX2_clear, Cond.selects RX2 yX2_clear yX2_clear, Cond.initialized RX2, Cond.code yX2_clear cX2_clear 1 none, Cond.fieldLink RX2 28 "SettlementFund$Sharing" "size" "I", Cond.methodLink RX3 222 yX3_takesPart, Cond.instanceMethod yX3_takesPart, Cond.selects RX3 yX3_takesPart yX3_takesPart, Cond.code yX3_takesPart cX3_takesPart 2 (some .boolean), Cond.fieldLink RX3 115 "SettlementFund$ClaimBook" "state" "[I", Cond.methodLink RX3 225 yX3_room, Cond.instanceMethod yX3_room, Cond.selects RX3 yX3_room yX3_room, Cond.code yX3_room cX3_room 3 (some .int), Cond.fieldLink RX3 13 "SettlementFund" "gradeCap" "[I", Cond.methodLink RX3 112 yX3_mustBeClaim, Cond.instanceMethod yX3_mustBeClaim]
def wsX3_round_r4 : List Cond := [Cond.selects RX3 yX3_mustBeClaim yX3_mustBeClaim, Cond.code yX3_mustBeClaim cX3_mustBeClaim 2 none, Cond.classLink RX3 67 "java/lang/IndexOutOfBoundsException", Cond.initialized "java/lang/IndexOutOfBoundsException", Cond.methodLink RX3 91 yX0_has, Cond.instanceMethod yX0_has, Cond.selects RX0 yX0_has yX0_has, Cond.code yX0_has cX0_has 2 (some .boolean), Cond.methodLink RX3 181 yX3_valueAt, Cond.static yX3_valueAt, Cond.code yX3_valueAt cX3_valueAt 2 (some .int), Cond.methodLink RX3 185 yX1_sumFor, Cond.instanceMethod yX1_sumFor, Cond.selects RX1 yX1_sumFor yX1_sumFor, Cond.code yX1_sumFor cX1_sumFor 4 (some .int), Cond.fieldLink RX1 9 "SettlementFund$PaymentBook" "claim" "[I", Cond.methodLink RX3 235 yX1_hasVoidFor, Cond.instanceMethod yX1_hasVoidFor, Cond.selects RX1 yX1_hasVoidFor yX1_hasVoidFor, Cond.code yX1_hasVoidFor cX1_hasVoidFor 3 (some .boolean), Cond.methodLink RX3 228 yX2_add, Cond.instanceMethod yX2_add, Cond.selects RX2 yX2_add yX2_add, Cond.code yX2_add cX2_add 4 none]
def wsX3_round_r5 : List Cond := [Cond.fieldLink RX2 9 "SettlementFund$Sharing" "claim" "[I", Cond.fieldLink RX2 15 "SettlementFund$Sharing" "points" "[I", Cond.fieldLink RX2 18 "SettlementFund$Sharing" "room" "[I", Cond.methodLink RX3 232 yX2_shareOut, Cond.instanceMethod yX2_shareOut, Cond.selects RX2 yX2_shareOut yX2_shareOut, Cond.code yX2_shareOut cX2_shareOut 6 none, Cond.fieldLink RX2 21 "SettlementFund$Sharing" "share" "[I", Cond.methodLink RX2 32 yX2_sortByRoomPerPoint, Cond.instanceMethod yX2_sortByRoomPerPoint, Cond.selects RX2 yX2_sortByRoomPerPoint yX2_sortByRoomPerPoint, Cond.code yX2_sortByRoomPerPoint cX2_sortByRoomPerPoint 3 none, Cond.methodLink RX2 78 yX2_hasLessRoomPerPoint, Cond.instanceMethod yX2_hasLessRoomPerPoint, Cond.selects RX2 yX2_hasLessRoomPerPoint yX2_hasLessRoomPerPoint, Cond.code yX2_hasLessRoomPerPoint cX2_hasLessRoomPerPoint 3 (some .boolean), Cond.methodLink RX2 82 yX2_swapPlaces, Cond.instanceMethod yX2_swapPlaces, Cond.selects RX2 yX2_swapPlaces yX2_swapPlaces, Cond.code yX2_swapPlaces cX2_swapPlaces 6 none, Cond.methodLink RX2 74 yX2_copyPlace, Cond.instanceMethod yX2_copyPlace, Cond.selects RX2 yX2_copyPlace yX2_copyPlace, Cond.code yX2_copyPlace cX2_copyPlace 3 none]
def wsX3_round_r6 : List Cond := [Cond.methodLink RX2 35 yX2_shareOnce, Cond.instanceMethod yX2_shareOnce, Cond.selects RX2 yX2_shareOnce yX2_shareOnce, Cond.code yX2_shareOnce cX2_shareOnce 4 none, Cond.fieldLink RX2 47 "SettlementFund$Sharing" "restMoney" "J", Cond.fieldLink RX2 51 "SettlementFund$Sharing" "restPoints" "J", Cond.fieldLink RX2 24 "SettlementFund$Sharing" "isFull" "[Z", Cond.methodLink RX2 54 yX2_fillFromFront, Cond.instanceMethod yX2_fillFromFront, Cond.selects RX2 yX2_fillFromFront yX2_fillFromFront, Cond.code yX2_fillFromFront cX2_fillFromFront 2 none, Cond.methodLink RX2 63 yX2_reachesRoom, Cond.instanceMethod yX2_reachesRoom, Cond.selects RX2 yX2_reachesRoom yX2_reachesRoom, Cond.code yX2_reachesRoom cX2_reachesRoom 6 (some .boolean), Cond.methodLink RX2 67 yX2_fill, Cond.instanceMethod yX2_fill, Cond.selects RX2 yX2_fill yX2_fill, Cond.code yX2_fill cX2_fill 2 none, Cond.methodLink RX2 57 yX2_fillInLooks, Cond.instanceMethod yX2_fillInLooks, Cond.selects RX2 yX2_fillInLooks yX2_fillInLooks, Cond.code yX2_fillInLooks cX2_fillInLooks 8 none, Cond.methodLink RX2 60 yX2_shareRestByPoints]
def wsX3_round_r7 : List Cond := [Cond.instanceMethod yX2_shareRestByPoints, Cond.selects RX2 yX2_shareRestByPoints yX2_shareRestByPoints, Cond.code yX2_shareRestByPoints cX2_shareRestByPoints 4 none, Cond.methodLink RX2 70 yX2_notFullBelow, Cond.instanceMethod yX2_notFullBelow, Cond.selects RX2 yX2_notFullBelow yX2_notFullBelow, Cond.code yX2_notFullBelow cX2_notFullBelow 4 (some .int), Cond.methodLink RX2 39 yX2_placeOfSmallest, Cond.instanceMethod yX2_placeOfSmallest, Cond.selects RX2 yX2_placeOfSmallest yX2_placeOfSmallest, Cond.code yX2_placeOfSmallest cX2_placeOfSmallest 3 (some .int), Cond.methodLink RX2 43 yX2_takeOut, Cond.instanceMethod yX2_takeOut, Cond.selects RX2 yX2_takeOut yX2_takeOut, Cond.code yX2_takeOut cX2_takeOut 3 none, Cond.methodLink RX3 153 yX2_gainers, Cond.instanceMethod yX2_gainers, Cond.selects RX2 yX2_gainers yX2_gainers, Cond.code yX2_gainers cX2_gainers 3 (some .int), Cond.methodLink RX3 156 yX1_hasPlacesFor, Cond.instanceMethod yX1_hasPlacesFor, Cond.selects RX1 yX1_hasPlacesFor yX1_hasPlacesFor, Cond.code yX1_hasPlacesFor cX1_hasPlacesFor 2 (some .boolean), Cond.methodLink RX3 161 yX3_makePayments]
def wsX3_round_r8 : List Cond := [Cond.instanceMethod yX3_makePayments, Cond.selects RX3 yX3_makePayments yX3_makePayments, Cond.code yX3_makePayments cX3_makePayments 3 none, Cond.fieldLink RX3 76 "SettlementFund" "day" "I", Cond.methodLink RX3 216 yX2_shareGivenTo, Cond.instanceMethod yX2_shareGivenTo, Cond.selects RX2 yX2_shareGivenTo yX2_shareGivenTo, Cond.code yX2_shareGivenTo cX2_shareGivenTo 3 (some .int), Cond.methodLink RX3 238 yX1_add, Cond.instanceMethod yX1_add, Cond.selects RX1 yX1_add yX1_add, Cond.code yX1_add cX1_add 4 none, Cond.fieldLink RX1 21 "SettlementFund$PaymentBook" "dayMade" "[I", Cond.methodLink RX1 28 yX1_hasPlacesFor]
def wsX3_round : List Cond := .code yX3_round cX3_round 3 (some .int) :: ((wsX3_round_r1 ++ (wsX3_round_r2 ++ (wsX3_round_r3 ++ (wsX3_round_r4 ++ (wsX3_round_r5 ++ (wsX3_round_r6 ++ (wsX3_round_r7 ++ wsX3_round_r8))))))) ++ wsX30 ++ wsX00 ++ wsX10 ++ wsX20 ++ (vx_atS RX3 107 "java/lang/IllegalStateException" ["java/lang/RuntimeException", "java/lang/Exception"]).filter goodWord ++ (vx_atS RX3 47 "java/lang/IllegalArgumentException" ["java/lang/RuntimeException", "java/lang/Exception"]).filter goodWord ++ (vx_atS RX3 71 "java/lang/IndexOutOfBoundsException" ["java/lang/RuntimeException", "java/lang/Exception"]).filter goodWord)
def wsX3_mustBePayment : List Cond := .code yX3_mustBePayment cX3_mustBePayment 2 none :: ([.classLink RX3 67 "java/lang/IndexOutOfBoundsException", .initialized "java/lang/IndexOutOfBoundsException", .fieldLink RX3 26 "SettlementFund" "paymentBook" "LSettlementFund$PaymentBook;", .methodLink RX3 208 yX1_has, .instanceMethod yX1_has, .selects RX1 yX1_has yX1_has, .initialized RX1, .code yX1_has cX1_has 2 (some .boolean), .fieldLink RX1 24 "SettlementFund$PaymentBook" "size" "I"] ++ wsX30 ++ wsX10 ++ (vx_atS RX3 71 "java/lang/IndexOutOfBoundsException" ["java/lang/RuntimeException", "java/lang/Exception"]).filter goodWord)
def wsX3_cash : List Cond := .code yX3_cash cX3_cash 2 (some .int) :: ([.classLink RX3 103 "java/lang/IllegalStateException", .initialized "java/lang/IllegalStateException", .fieldLink RX3 26 "SettlementFund" "paymentBook" "LSettlementFund$PaymentBook;", .fieldLink RX3 167 "SettlementFund$PaymentBook" "state" "[I", .fieldLink RX3 170 "SettlementFund$PaymentBook" "amount" "[I", .methodLink RX3 164 yX3_mustBePayment, .instanceMethod yX3_mustBePayment, .selects RX3 yX3_mustBePayment yX3_mustBePayment, .initialized RX3, .code yX3_mustBePayment cX3_mustBePayment 2 none, .classLink RX3 67 "java/lang/IndexOutOfBoundsException", .initialized "java/lang/IndexOutOfBoundsException", .methodLink RX3 208 yX1_has, .instanceMethod yX1_has, .selects RX1 yX1_has yX1_has, .initialized RX1, .code yX1_has cX1_has 2 (some .boolean), .fieldLink RX1 24 "SettlementFund$PaymentBook" "size" "I"] ++ wsX30 ++ wsX10 ++ (vx_atS RX3 107 "java/lang/IllegalStateException" ["java/lang/RuntimeException", "java/lang/Exception"]).filter goodWord ++ (vx_atS RX3 71 "java/lang/IndexOutOfBoundsException" ["java/lang/RuntimeException", "java/lang/Exception"]).filter goodWord)
def wsX3_today : List Cond := .code yX3_today cX3_today 1 (some .int) :: ([.fieldLink RX3 76 "SettlementFund" "day" "I"] ++ wsX30)
def wsX3_claims : List Cond := .code yX3_claims cX3_claims 1 (some .int) :: ([.fieldLink RX3 19 "SettlementFund" "claimBook" "LSettlementFund$ClaimBook;", .fieldLink RX3 173 "SettlementFund$ClaimBook" "size" "I"] ++ wsX30 ++ wsX00)
def wsX3_claimOf : List Cond := .code yX3_claimOf cX3_claimOf 2 (some .int) :: ([.classLink RX3 67 "java/lang/IndexOutOfBoundsException", .initialized "java/lang/IndexOutOfBoundsException", .fieldLink RX3 19 "SettlementFund" "claimBook" "LSettlementFund$ClaimBook;", .fieldLink RX3 88 "SettlementFund$ClaimBook" "ofPerson" "[I", .methodLink RX3 39 yX3_isOutside, .static yX3_isOutside, .initialized RX3, .code yX3_isOutside cX3_isOutside 3 (some .boolean)] ++ wsX30 ++ wsX00 ++ (vx_atS RX3 71 "java/lang/IndexOutOfBoundsException" ["java/lang/RuntimeException", "java/lang/Exception"]).filter goodWord)
def wsX3_stateOf : List Cond := .code yX3_stateOf cX3_stateOf 2 (some .int) :: ([.fieldLink RX3 19 "SettlementFund" "claimBook" "LSettlementFund$ClaimBook;", .fieldLink RX3 115 "SettlementFund$ClaimBook" "state" "[I", .methodLink RX3 112 yX3_mustBeClaim, .instanceMethod yX3_mustBeClaim, .selects RX3 yX3_mustBeClaim yX3_mustBeClaim, .initialized RX3, .code yX3_mustBeClaim cX3_mustBeClaim 2 none, .classLink RX3 67 "java/lang/IndexOutOfBoundsException", .initialized "java/lang/IndexOutOfBoundsException", .methodLink RX3 91 yX0_has, .instanceMethod yX0_has, .selects RX0 yX0_has yX0_has, .initialized RX0, .code yX0_has cX0_has 2 (some .boolean), .fieldLink RX0 28 "SettlementFund$ClaimBook" "size" "I"] ++ wsX30 ++ wsX00 ++ (vx_atS RX3 71 "java/lang/IndexOutOfBoundsException" ["java/lang/RuntimeException", "java/lang/Exception"]).filter goodWord)
def wsX3_gradeOf : List Cond := .code yX3_gradeOf cX3_gradeOf 2 (some .int) :: ([.fieldLink RX3 19 "SettlementFund" "claimBook" "LSettlementFund$ClaimBook;", .fieldLink RX3 178 "SettlementFund$ClaimBook" "grade" "[I", .methodLink RX3 112 yX3_mustBeClaim, .instanceMethod yX3_mustBeClaim, .selects RX3 yX3_mustBeClaim yX3_mustBeClaim, .initialized RX3, .code yX3_mustBeClaim cX3_mustBeClaim 2 none, .classLink RX3 67 "java/lang/IndexOutOfBoundsException", .initialized "java/lang/IndexOutOfBoundsException", .methodLink RX3 91 yX0_has, .instanceMethod yX0_has, .selects RX0 yX0_has yX0_has, .initialized RX0, .code yX0_has cX0_has 2 (some .boolean), .fieldLink RX0 28 "SettlementFund$ClaimBook" "size" "I"] ++ wsX30 ++ wsX00 ++ (vx_atS RX3 71 "java/lang/IndexOutOfBoundsException" ["java/lang/RuntimeException", "java/lang/Exception"]).filter goodWord)
def wsX3_paidTo : List Cond := .code yX3_paidTo cX3_paidTo 2 (some .int) :: ([.fieldLink RX3 26 "SettlementFund" "paymentBook" "LSettlementFund$PaymentBook;", .methodLink RX3 112 yX3_mustBeClaim, .instanceMethod yX3_mustBeClaim, .selects RX3 yX3_mustBeClaim yX3_mustBeClaim, .initialized RX3, .code yX3_mustBeClaim cX3_mustBeClaim 2 none, .classLink RX3 67 "java/lang/IndexOutOfBoundsException", .initialized "java/lang/IndexOutOfBoundsException", .fieldLink RX3 19 "SettlementFund" "claimBook" "LSettlementFund$ClaimBook;", .methodLink RX3 91 yX0_has, .instanceMethod yX0_has, .selects RX0 yX0_has yX0_has, .initialized RX0, .code yX0_has cX0_has 2 (some .boolean), .fieldLink RX0 28 "SettlementFund$ClaimBook" "size" "I", .methodLink RX3 185 yX1_sumFor, .instanceMethod yX1_sumFor, .selects RX1 yX1_sumFor yX1_sumFor, .initialized RX1, .code yX1_sumFor cX1_sumFor 4 (some .int), .fieldLink RX1 24 "SettlementFund$PaymentBook" "size" "I", .fieldLink RX1 9 "SettlementFund$PaymentBook" "claim" "[I", .fieldLink RX1 18 "SettlementFund$PaymentBook" "state" "[I", .fieldLink RX1 15 "SettlementFund$PaymentBook" "amount" "[I"] ++ wsX30 ++ wsX00 ++ wsX10 ++ (vx_atS RX3 71 "java/lang/IndexOutOfBoundsException" ["java/lang/RuntimeException", "java/lang/Exception"]).filter goodWord)
def wsX3_count : List Cond := .code yX3_count cX3_count 2 (some .int) :: ([.classLink RX3 43 "java/lang/IllegalArgumentException", .initialized "java/lang/IllegalArgumentException", .fieldLink RX3 19 "SettlementFund" "claimBook" "LSettlementFund$ClaimBook;", .methodLink RX3 39 yX3_isOutside, .static yX3_isOutside, .initialized RX3, .code yX3_isOutside cX3_isOutside 3 (some .boolean), .methodLink RX3 131 yX0_tally, .instanceMethod yX0_tally, .selects RX0 yX0_tally yX0_tally, .initialized RX0, .code yX0_tally cX0_tally 4 (some .int), .fieldLink RX0 28 "SettlementFund$ClaimBook" "size" "I", .fieldLink RX0 18 "SettlementFund$ClaimBook" "state" "[I"] ++ wsX30 ++ wsX00 ++ (vx_atS RX3 47 "java/lang/IllegalArgumentException" ["java/lang/RuntimeException", "java/lang/Exception"]).filter goodWord)
def wsX3_payments : List Cond := .code yX3_payments cX3_payments 1 (some .int) :: ([.fieldLink RX3 26 "SettlementFund" "paymentBook" "LSettlementFund$PaymentBook;", .fieldLink RX3 198 "SettlementFund$PaymentBook" "size" "I"] ++ wsX30 ++ wsX10)
def wsX3_paymentTo : List Cond := .code yX3_paymentTo cX3_paymentTo 2 (some .int) :: ([.fieldLink RX3 26 "SettlementFund" "paymentBook" "LSettlementFund$PaymentBook;", .fieldLink RX3 199 "SettlementFund$PaymentBook" "claim" "[I", .methodLink RX3 164 yX3_mustBePayment, .instanceMethod yX3_mustBePayment, .selects RX3 yX3_mustBePayment yX3_mustBePayment, .initialized RX3, .code yX3_mustBePayment cX3_mustBePayment 2 none, .classLink RX3 67 "java/lang/IndexOutOfBoundsException", .initialized "java/lang/IndexOutOfBoundsException", .methodLink RX3 208 yX1_has, .instanceMethod yX1_has, .selects RX1 yX1_has yX1_has, .initialized RX1, .code yX1_has cX1_has 2 (some .boolean), .fieldLink RX1 24 "SettlementFund$PaymentBook" "size" "I"] ++ wsX30 ++ wsX10 ++ (vx_atS RX3 71 "java/lang/IndexOutOfBoundsException" ["java/lang/RuntimeException", "java/lang/Exception"]).filter goodWord)
def wsX3_amountOf : List Cond := .code yX3_amountOf cX3_amountOf 2 (some .int) :: ([.fieldLink RX3 26 "SettlementFund" "paymentBook" "LSettlementFund$PaymentBook;", .fieldLink RX3 170 "SettlementFund$PaymentBook" "amount" "[I", .methodLink RX3 164 yX3_mustBePayment, .instanceMethod yX3_mustBePayment, .selects RX3 yX3_mustBePayment yX3_mustBePayment, .initialized RX3, .code yX3_mustBePayment cX3_mustBePayment 2 none, .classLink RX3 67 "java/lang/IndexOutOfBoundsException", .initialized "java/lang/IndexOutOfBoundsException", .methodLink RX3 208 yX1_has, .instanceMethod yX1_has, .selects RX1 yX1_has yX1_has, .initialized RX1, .code yX1_has cX1_has 2 (some .boolean), .fieldLink RX1 24 "SettlementFund$PaymentBook" "size" "I"] ++ wsX30 ++ wsX10 ++ (vx_atS RX3 71 "java/lang/IndexOutOfBoundsException" ["java/lang/RuntimeException", "java/lang/Exception"]).filter goodWord)
def wsX3_paymentState : List Cond := .code yX3_paymentState cX3_paymentState 2 (some .int) :: ([.fieldLink RX3 26 "SettlementFund" "paymentBook" "LSettlementFund$PaymentBook;", .fieldLink RX3 167 "SettlementFund$PaymentBook" "state" "[I", .methodLink RX3 164 yX3_mustBePayment, .instanceMethod yX3_mustBePayment, .selects RX3 yX3_mustBePayment yX3_mustBePayment, .initialized RX3, .code yX3_mustBePayment cX3_mustBePayment 2 none, .classLink RX3 67 "java/lang/IndexOutOfBoundsException", .initialized "java/lang/IndexOutOfBoundsException", .methodLink RX3 208 yX1_has, .instanceMethod yX1_has, .selects RX1 yX1_has yX1_has, .initialized RX1, .code yX1_has cX1_has 2 (some .boolean), .fieldLink RX1 24 "SettlementFund$PaymentBook" "size" "I"] ++ wsX30 ++ wsX10 ++ (vx_atS RX3 71 "java/lang/IndexOutOfBoundsException" ["java/lang/RuntimeException", "java/lang/Exception"]).filter goodWord)
def wsX3_shareFor_r1 : List Cond := [Cond.fieldLink RX3 33 "SettlementFund" "sharing" "LSettlementFund$Sharing;", Cond.methodLink RX3 112 yX3_mustBeClaim, Cond.instanceMethod yX3_mustBeClaim, Cond.selects RX3 yX3_mustBeClaim yX3_mustBeClaim, Cond.initialized RX3, Cond.code yX3_mustBeClaim cX3_mustBeClaim 2 none, Cond.classLink RX3 67 "java/lang/IndexOutOfBoundsException", Cond.initialized "java/lang/IndexOutOfBoundsException", Cond.fieldLink RX3 19 "SettlementFund" "claimBook" "LSettlementFund$ClaimBook;", Cond.methodLink RX3 91 yX0_has, Cond.instanceMethod yX0_has, Cond.selects RX0 yX0_has yX0_has, Cond.initialized RX0, Cond.code yX0_has cX0_has 2 (some .boolean), Cond.fieldLink RX0 28 "SettlementFund$ClaimBook" "size" "I", Cond.methodLink RX3 137 yX3_mustBeLeast, Cond.instanceMethod yX3_mustBeLeast, Cond.selects RX3 yX3_mustBeLeast yX3_mustBeLeast, Cond.code yX3_mustBeLeast cX3_mustBeLeast 2 none, Cond.classLink RX3 43 "java/lang/IllegalArgumentException", Cond.initialized "java/lang/IllegalArgumentException", Cond.constant RX3 211 (100000), Cond.methodLink RX3 39 yX3_isOutside, Cond.static yX3_isOutside]
def wsX3_shareFor_r2 : List Cond := [Cond.code yX3_isOutside cX3_isOutside 3 (some .boolean), Cond.methodLink RX3 149 yX3_shareMoneyLeft, Cond.instanceMethod yX3_shareMoneyLeft, Cond.selects RX3 yX3_shareMoneyLeft yX3_shareMoneyLeft, Cond.code yX3_shareMoneyLeft cX3_shareMoneyLeft 5 none, Cond.fieldLink RX3 173 "SettlementFund$ClaimBook" "size" "I", Cond.fieldLink RX3 9 "SettlementFund" "gradePoints" "[I", Cond.fieldLink RX3 178 "SettlementFund$ClaimBook" "grade" "[I", Cond.methodLink RX3 219 yX2_clear, Cond.instanceMethod yX2_clear, Cond.selects RX2 yX2_clear yX2_clear, Cond.initialized RX2, Cond.code yX2_clear cX2_clear 1 none, Cond.fieldLink RX2 28 "SettlementFund$Sharing" "size" "I", Cond.methodLink RX3 63 yX3_moneyLeft, Cond.instanceMethod yX3_moneyLeft, Cond.selects RX3 yX3_moneyLeft yX3_moneyLeft, Cond.code yX3_moneyLeft cX3_moneyLeft 1 (some .int), Cond.fieldLink RX3 53 "SettlementFund" "sum" "I", Cond.fieldLink RX3 60 "SettlementFund" "expenses" "I", Cond.fieldLink RX3 26 "SettlementFund" "paymentBook" "LSettlementFund$PaymentBook;", Cond.methodLink RX3 190 yX3_fee, Cond.instanceMethod yX3_fee, Cond.selects RX3 yX3_fee yX3_fee]
def wsX3_shareFor_r3 : List Cond := [Cond.code yX3_fee cX3_fee 1 (some .int), Cond.fieldLink RX3 57 "SettlementFund" "feeInThousandths" "I", Cond.constantLong RX3 196 (1000), Cond.methodLink RX3 193 yX1_sumOfAll, Cond.instanceMethod yX1_sumOfAll, Cond.selects RX1 yX1_sumOfAll yX1_sumOfAll, Cond.initialized RX1, Cond.code yX1_sumOfAll cX1_sumOfAll 3 (some .int), Cond.fieldLink RX1 24 "SettlementFund$PaymentBook" "size" "I", Cond.fieldLink RX1 18 "SettlementFund$PaymentBook" "state" "[I", Cond.fieldLink RX1 15 "SettlementFund$PaymentBook" "amount" "[I", Cond.methodLink RX3 222 yX3_takesPart, Cond.instanceMethod yX3_takesPart, Cond.selects RX3 yX3_takesPart yX3_takesPart, Cond.code yX3_takesPart cX3_takesPart 2 (some .boolean), Cond.fieldLink RX3 115 "SettlementFund$ClaimBook" "state" "[I", Cond.methodLink RX3 225 yX3_room, Cond.instanceMethod yX3_room, Cond.selects RX3 yX3_room yX3_room, Cond.code yX3_room cX3_room 3 (some .int), Cond.fieldLink RX3 13 "SettlementFund" "gradeCap" "[I", Cond.methodLink RX3 181 yX3_valueAt, Cond.static yX3_valueAt, Cond.code yX3_valueAt cX3_valueAt 2 (some .int)]
def wsX3_shareFor_r4 : List Cond := [Cond.methodLink RX3 185 yX1_sumFor, Cond.instanceMethod yX1_sumFor, Cond.selects RX1 yX1_sumFor yX1_sumFor, Cond.code yX1_sumFor cX1_sumFor 4 (some .int), Cond.fieldLink RX1 9 "SettlementFund$PaymentBook" "claim" "[I", Cond.methodLink RX3 235 yX1_hasVoidFor, Cond.instanceMethod yX1_hasVoidFor, Cond.selects RX1 yX1_hasVoidFor yX1_hasVoidFor, Cond.code yX1_hasVoidFor cX1_hasVoidFor 3 (some .boolean), Cond.methodLink RX3 228 yX2_add, Cond.instanceMethod yX2_add, Cond.selects RX2 yX2_add yX2_add, Cond.code yX2_add cX2_add 4 none, Cond.fieldLink RX2 9 "SettlementFund$Sharing" "claim" "[I", Cond.fieldLink RX2 15 "SettlementFund$Sharing" "points" "[I", Cond.fieldLink RX2 18 "SettlementFund$Sharing" "room" "[I", Cond.methodLink RX3 232 yX2_shareOut, Cond.instanceMethod yX2_shareOut, Cond.selects RX2 yX2_shareOut yX2_shareOut, Cond.code yX2_shareOut cX2_shareOut 6 none, Cond.fieldLink RX2 21 "SettlementFund$Sharing" "share" "[I", Cond.methodLink RX2 32 yX2_sortByRoomPerPoint, Cond.instanceMethod yX2_sortByRoomPerPoint, Cond.selects RX2 yX2_sortByRoomPerPoint yX2_sortByRoomPerPoint]
def wsX3_shareFor_r5 : List Cond := [Cond.code yX2_sortByRoomPerPoint cX2_sortByRoomPerPoint 3 none, Cond.methodLink RX2 78 yX2_hasLessRoomPerPoint, Cond.instanceMethod yX2_hasLessRoomPerPoint, Cond.selects RX2 yX2_hasLessRoomPerPoint yX2_hasLessRoomPerPoint, Cond.code yX2_hasLessRoomPerPoint cX2_hasLessRoomPerPoint 3 (some .boolean), Cond.methodLink RX2 82 yX2_swapPlaces, Cond.instanceMethod yX2_swapPlaces, Cond.selects RX2 yX2_swapPlaces yX2_swapPlaces, Cond.code yX2_swapPlaces cX2_swapPlaces 6 none, Cond.methodLink RX2 74 yX2_copyPlace, Cond.instanceMethod yX2_copyPlace, Cond.selects RX2 yX2_copyPlace yX2_copyPlace, Cond.code yX2_copyPlace cX2_copyPlace 3 none, Cond.methodLink RX2 35 yX2_shareOnce, Cond.instanceMethod yX2_shareOnce, Cond.selects RX2 yX2_shareOnce yX2_shareOnce, Cond.code yX2_shareOnce cX2_shareOnce 4 none, Cond.fieldLink RX2 47 "SettlementFund$Sharing" "restMoney" "J", Cond.fieldLink RX2 51 "SettlementFund$Sharing" "restPoints" "J", Cond.fieldLink RX2 24 "SettlementFund$Sharing" "isFull" "[Z", Cond.methodLink RX2 54 yX2_fillFromFront, Cond.instanceMethod yX2_fillFromFront, Cond.selects RX2 yX2_fillFromFront yX2_fillFromFront, Cond.code yX2_fillFromFront cX2_fillFromFront 2 none]
def wsX3_shareFor_r6 : List Cond := [Cond.methodLink RX2 63 yX2_reachesRoom, Cond.instanceMethod yX2_reachesRoom, Cond.selects RX2 yX2_reachesRoom yX2_reachesRoom, Cond.code yX2_reachesRoom cX2_reachesRoom 6 (some .boolean), Cond.methodLink RX2 67 yX2_fill, Cond.instanceMethod yX2_fill, Cond.selects RX2 yX2_fill yX2_fill, Cond.code yX2_fill cX2_fill 2 none, Cond.methodLink RX2 57 yX2_fillInLooks, Cond.instanceMethod yX2_fillInLooks, Cond.selects RX2 yX2_fillInLooks yX2_fillInLooks, Cond.code yX2_fillInLooks cX2_fillInLooks 8 none, Cond.methodLink RX2 60 yX2_shareRestByPoints, Cond.instanceMethod yX2_shareRestByPoints, Cond.selects RX2 yX2_shareRestByPoints yX2_shareRestByPoints, Cond.code yX2_shareRestByPoints cX2_shareRestByPoints 4 none, Cond.methodLink RX2 70 yX2_notFullBelow, Cond.instanceMethod yX2_notFullBelow, Cond.selects RX2 yX2_notFullBelow yX2_notFullBelow, Cond.code yX2_notFullBelow cX2_notFullBelow 4 (some .int), Cond.methodLink RX2 39 yX2_placeOfSmallest, Cond.instanceMethod yX2_placeOfSmallest, Cond.selects RX2 yX2_placeOfSmallest yX2_placeOfSmallest, Cond.code yX2_placeOfSmallest cX2_placeOfSmallest 3 (some .int)]
def wsX3_shareFor_r7 : List Cond := [Cond.methodLink RX2 43 yX2_takeOut, Cond.instanceMethod yX2_takeOut, Cond.selects RX2 yX2_takeOut yX2_takeOut, Cond.code yX2_takeOut cX2_takeOut 3 none, Cond.methodLink RX3 216 yX2_shareGivenTo, Cond.instanceMethod yX2_shareGivenTo, Cond.selects RX2 yX2_shareGivenTo yX2_shareGivenTo, Cond.code yX2_shareGivenTo cX2_shareGivenTo 3 (some .int)]
def wsX3_shareFor : List Cond := .code yX3_shareFor cX3_shareFor 4 (some .int) :: ((wsX3_shareFor_r1 ++ (wsX3_shareFor_r2 ++ (wsX3_shareFor_r3 ++ (wsX3_shareFor_r4 ++ (wsX3_shareFor_r5 ++ (wsX3_shareFor_r6 ++ wsX3_shareFor_r7)))))) ++ wsX30 ++ wsX00 ++ wsX20 ++ wsX10 ++ (vx_atS RX3 71 "java/lang/IndexOutOfBoundsException" ["java/lang/RuntimeException", "java/lang/Exception"]).filter goodWord ++ (vx_atS RX3 47 "java/lang/IllegalArgumentException" ["java/lang/RuntimeException", "java/lang/Exception"]).filter goodWord)
def wsX3_shareOf_r1 : List Cond := [Cond.methodLink RX3 202 yX3_shareFor, Cond.instanceMethod yX3_shareFor, Cond.selects RX3 yX3_shareFor yX3_shareFor, Cond.initialized RX3, Cond.code yX3_shareFor cX3_shareFor 4 (some .int), Cond.fieldLink RX3 33 "SettlementFund" "sharing" "LSettlementFund$Sharing;", Cond.methodLink RX3 112 yX3_mustBeClaim, Cond.instanceMethod yX3_mustBeClaim, Cond.selects RX3 yX3_mustBeClaim yX3_mustBeClaim, Cond.code yX3_mustBeClaim cX3_mustBeClaim 2 none, Cond.classLink RX3 67 "java/lang/IndexOutOfBoundsException", Cond.initialized "java/lang/IndexOutOfBoundsException", Cond.fieldLink RX3 19 "SettlementFund" "claimBook" "LSettlementFund$ClaimBook;", Cond.methodLink RX3 91 yX0_has, Cond.instanceMethod yX0_has, Cond.selects RX0 yX0_has yX0_has, Cond.initialized RX0, Cond.code yX0_has cX0_has 2 (some .boolean), Cond.fieldLink RX0 28 "SettlementFund$ClaimBook" "size" "I", Cond.methodLink RX3 137 yX3_mustBeLeast, Cond.instanceMethod yX3_mustBeLeast, Cond.selects RX3 yX3_mustBeLeast yX3_mustBeLeast, Cond.code yX3_mustBeLeast cX3_mustBeLeast 2 none, Cond.classLink RX3 43 "java/lang/IllegalArgumentException"]
def wsX3_shareOf_r2 : List Cond := [Cond.initialized "java/lang/IllegalArgumentException", Cond.constant RX3 211 (100000), Cond.methodLink RX3 39 yX3_isOutside, Cond.static yX3_isOutside, Cond.code yX3_isOutside cX3_isOutside 3 (some .boolean), Cond.methodLink RX3 149 yX3_shareMoneyLeft, Cond.instanceMethod yX3_shareMoneyLeft, Cond.selects RX3 yX3_shareMoneyLeft yX3_shareMoneyLeft, Cond.code yX3_shareMoneyLeft cX3_shareMoneyLeft 5 none, Cond.fieldLink RX3 173 "SettlementFund$ClaimBook" "size" "I", Cond.fieldLink RX3 9 "SettlementFund" "gradePoints" "[I", Cond.fieldLink RX3 178 "SettlementFund$ClaimBook" "grade" "[I", Cond.methodLink RX3 219 yX2_clear, Cond.instanceMethod yX2_clear, Cond.selects RX2 yX2_clear yX2_clear, Cond.initialized RX2, Cond.code yX2_clear cX2_clear 1 none, Cond.fieldLink RX2 28 "SettlementFund$Sharing" "size" "I", Cond.methodLink RX3 63 yX3_moneyLeft, Cond.instanceMethod yX3_moneyLeft, Cond.selects RX3 yX3_moneyLeft yX3_moneyLeft, Cond.code yX3_moneyLeft cX3_moneyLeft 1 (some .int), Cond.fieldLink RX3 53 "SettlementFund" "sum" "I", Cond.fieldLink RX3 60 "SettlementFund" "expenses" "I"]
def wsX3_shareOf_r3 : List Cond := [Cond.fieldLink RX3 26 "SettlementFund" "paymentBook" "LSettlementFund$PaymentBook;", Cond.methodLink RX3 190 yX3_fee, Cond.instanceMethod yX3_fee, Cond.selects RX3 yX3_fee yX3_fee, Cond.code yX3_fee cX3_fee 1 (some .int), Cond.fieldLink RX3 57 "SettlementFund" "feeInThousandths" "I", Cond.constantLong RX3 196 (1000), Cond.methodLink RX3 193 yX1_sumOfAll, Cond.instanceMethod yX1_sumOfAll, Cond.selects RX1 yX1_sumOfAll yX1_sumOfAll, Cond.initialized RX1, Cond.code yX1_sumOfAll cX1_sumOfAll 3 (some .int), Cond.fieldLink RX1 24 "SettlementFund$PaymentBook" "size" "I", Cond.fieldLink RX1 18 "SettlementFund$PaymentBook" "state" "[I", Cond.fieldLink RX1 15 "SettlementFund$PaymentBook" "amount" "[I", Cond.methodLink RX3 222 yX3_takesPart, Cond.instanceMethod yX3_takesPart, Cond.selects RX3 yX3_takesPart yX3_takesPart, Cond.code yX3_takesPart cX3_takesPart 2 (some .boolean), Cond.fieldLink RX3 115 "SettlementFund$ClaimBook" "state" "[I", Cond.methodLink RX3 225 yX3_room, Cond.instanceMethod yX3_room, Cond.selects RX3 yX3_room yX3_room, Cond.code yX3_room cX3_room 3 (some .int)]
def wsX3_shareOf_r4 : List Cond := [Cond.fieldLink RX3 13 "SettlementFund" "gradeCap" "[I", Cond.methodLink RX3 181 yX3_valueAt, Cond.static yX3_valueAt, Cond.code yX3_valueAt cX3_valueAt 2 (some .int), Cond.methodLink RX3 185 yX1_sumFor, Cond.instanceMethod yX1_sumFor, Cond.selects RX1 yX1_sumFor yX1_sumFor, Cond.code yX1_sumFor cX1_sumFor 4 (some .int), Cond.fieldLink RX1 9 "SettlementFund$PaymentBook" "claim" "[I", Cond.methodLink RX3 235 yX1_hasVoidFor, Cond.instanceMethod yX1_hasVoidFor, Cond.selects RX1 yX1_hasVoidFor yX1_hasVoidFor, Cond.code yX1_hasVoidFor cX1_hasVoidFor 3 (some .boolean), Cond.methodLink RX3 228 yX2_add, Cond.instanceMethod yX2_add, Cond.selects RX2 yX2_add yX2_add, Cond.code yX2_add cX2_add 4 none, Cond.fieldLink RX2 9 "SettlementFund$Sharing" "claim" "[I", Cond.fieldLink RX2 15 "SettlementFund$Sharing" "points" "[I", Cond.fieldLink RX2 18 "SettlementFund$Sharing" "room" "[I", Cond.methodLink RX3 232 yX2_shareOut, Cond.instanceMethod yX2_shareOut, Cond.selects RX2 yX2_shareOut yX2_shareOut, Cond.code yX2_shareOut cX2_shareOut 6 none]
def wsX3_shareOf_r5 : List Cond := [Cond.fieldLink RX2 21 "SettlementFund$Sharing" "share" "[I", Cond.methodLink RX2 32 yX2_sortByRoomPerPoint, Cond.instanceMethod yX2_sortByRoomPerPoint, Cond.selects RX2 yX2_sortByRoomPerPoint yX2_sortByRoomPerPoint, Cond.code yX2_sortByRoomPerPoint cX2_sortByRoomPerPoint 3 none, Cond.methodLink RX2 78 yX2_hasLessRoomPerPoint, Cond.instanceMethod yX2_hasLessRoomPerPoint, Cond.selects RX2 yX2_hasLessRoomPerPoint yX2_hasLessRoomPerPoint, Cond.code yX2_hasLessRoomPerPoint cX2_hasLessRoomPerPoint 3 (some .boolean), Cond.methodLink RX2 82 yX2_swapPlaces, Cond.instanceMethod yX2_swapPlaces, Cond.selects RX2 yX2_swapPlaces yX2_swapPlaces, Cond.code yX2_swapPlaces cX2_swapPlaces 6 none, Cond.methodLink RX2 74 yX2_copyPlace, Cond.instanceMethod yX2_copyPlace, Cond.selects RX2 yX2_copyPlace yX2_copyPlace, Cond.code yX2_copyPlace cX2_copyPlace 3 none, Cond.methodLink RX2 35 yX2_shareOnce, Cond.instanceMethod yX2_shareOnce, Cond.selects RX2 yX2_shareOnce yX2_shareOnce, Cond.code yX2_shareOnce cX2_shareOnce 4 none, Cond.fieldLink RX2 47 "SettlementFund$Sharing" "restMoney" "J", Cond.fieldLink RX2 51 "SettlementFund$Sharing" "restPoints" "J", Cond.fieldLink RX2 24 "SettlementFund$Sharing" "isFull" "[Z"]
def wsX3_shareOf_r6 : List Cond := [Cond.methodLink RX2 54 yX2_fillFromFront, Cond.instanceMethod yX2_fillFromFront, Cond.selects RX2 yX2_fillFromFront yX2_fillFromFront, Cond.code yX2_fillFromFront cX2_fillFromFront 2 none, Cond.methodLink RX2 63 yX2_reachesRoom, Cond.instanceMethod yX2_reachesRoom, Cond.selects RX2 yX2_reachesRoom yX2_reachesRoom, Cond.code yX2_reachesRoom cX2_reachesRoom 6 (some .boolean), Cond.methodLink RX2 67 yX2_fill, Cond.instanceMethod yX2_fill, Cond.selects RX2 yX2_fill yX2_fill, Cond.code yX2_fill cX2_fill 2 none, Cond.methodLink RX2 57 yX2_fillInLooks, Cond.instanceMethod yX2_fillInLooks, Cond.selects RX2 yX2_fillInLooks yX2_fillInLooks, Cond.code yX2_fillInLooks cX2_fillInLooks 8 none, Cond.methodLink RX2 60 yX2_shareRestByPoints, Cond.instanceMethod yX2_shareRestByPoints, Cond.selects RX2 yX2_shareRestByPoints yX2_shareRestByPoints, Cond.code yX2_shareRestByPoints cX2_shareRestByPoints 4 none, Cond.methodLink RX2 70 yX2_notFullBelow, Cond.instanceMethod yX2_notFullBelow, Cond.selects RX2 yX2_notFullBelow yX2_notFullBelow, Cond.code yX2_notFullBelow cX2_notFullBelow 4 (some .int)]
def wsX3_shareOf_r7 : List Cond := [Cond.methodLink RX2 39 yX2_placeOfSmallest, Cond.instanceMethod yX2_placeOfSmallest, Cond.selects RX2 yX2_placeOfSmallest yX2_placeOfSmallest, Cond.code yX2_placeOfSmallest cX2_placeOfSmallest 3 (some .int), Cond.methodLink RX2 43 yX2_takeOut, Cond.instanceMethod yX2_takeOut, Cond.selects RX2 yX2_takeOut yX2_takeOut, Cond.code yX2_takeOut cX2_takeOut 3 none, Cond.methodLink RX3 216 yX2_shareGivenTo, Cond.instanceMethod yX2_shareGivenTo, Cond.selects RX2 yX2_shareGivenTo yX2_shareGivenTo, Cond.code yX2_shareGivenTo cX2_shareGivenTo 3 (some .int)]
def wsX3_shareOf : List Cond := .code yX3_shareOf cX3_shareOf 3 (some .int) :: ((wsX3_shareOf_r1 ++ (wsX3_shareOf_r2 ++ (wsX3_shareOf_r3 ++ (wsX3_shareOf_r4 ++ (wsX3_shareOf_r5 ++ (wsX3_shareOf_r6 ++ wsX3_shareOf_r7)))))) ++ wsX30 ++ wsX00 ++ wsX20 ++ wsX10 ++ (vx_atS RX3 71 "java/lang/IndexOutOfBoundsException" ["java/lang/RuntimeException", "java/lang/Exception"]).filter goodWord ++ (vx_atS RX3 47 "java/lang/IllegalArgumentException" ["java/lang/RuntimeException", "java/lang/Exception"]).filter goodWord)
def wsX3_shareBySorting_r1 : List Cond := [Cond.methodLink RX3 202 yX3_shareFor, Cond.instanceMethod yX3_shareFor, Cond.selects RX3 yX3_shareFor yX3_shareFor, Cond.initialized RX3, Cond.code yX3_shareFor cX3_shareFor 4 (some .int), Cond.fieldLink RX3 33 "SettlementFund" "sharing" "LSettlementFund$Sharing;", Cond.methodLink RX3 112 yX3_mustBeClaim, Cond.instanceMethod yX3_mustBeClaim, Cond.selects RX3 yX3_mustBeClaim yX3_mustBeClaim, Cond.code yX3_mustBeClaim cX3_mustBeClaim 2 none, Cond.classLink RX3 67 "java/lang/IndexOutOfBoundsException", Cond.initialized "java/lang/IndexOutOfBoundsException", Cond.fieldLink RX3 19 "SettlementFund" "claimBook" "LSettlementFund$ClaimBook;", Cond.methodLink RX3 91 yX0_has, Cond.instanceMethod yX0_has, Cond.selects RX0 yX0_has yX0_has, Cond.initialized RX0, Cond.code yX0_has cX0_has 2 (some .boolean), Cond.fieldLink RX0 28 "SettlementFund$ClaimBook" "size" "I", Cond.methodLink RX3 137 yX3_mustBeLeast, Cond.instanceMethod yX3_mustBeLeast, Cond.selects RX3 yX3_mustBeLeast yX3_mustBeLeast, Cond.code yX3_mustBeLeast cX3_mustBeLeast 2 none, Cond.classLink RX3 43 "java/lang/IllegalArgumentException"]
def wsX3_shareBySorting_r2 : List Cond := [Cond.initialized "java/lang/IllegalArgumentException", Cond.constant RX3 211 (100000), Cond.methodLink RX3 39 yX3_isOutside, Cond.static yX3_isOutside, Cond.code yX3_isOutside cX3_isOutside 3 (some .boolean), Cond.methodLink RX3 149 yX3_shareMoneyLeft, Cond.instanceMethod yX3_shareMoneyLeft, Cond.selects RX3 yX3_shareMoneyLeft yX3_shareMoneyLeft, Cond.code yX3_shareMoneyLeft cX3_shareMoneyLeft 5 none, Cond.fieldLink RX3 173 "SettlementFund$ClaimBook" "size" "I", Cond.fieldLink RX3 9 "SettlementFund" "gradePoints" "[I", Cond.fieldLink RX3 178 "SettlementFund$ClaimBook" "grade" "[I", Cond.methodLink RX3 219 yX2_clear, Cond.instanceMethod yX2_clear, Cond.selects RX2 yX2_clear yX2_clear, Cond.initialized RX2, Cond.code yX2_clear cX2_clear 1 none, Cond.fieldLink RX2 28 "SettlementFund$Sharing" "size" "I", Cond.methodLink RX3 63 yX3_moneyLeft, Cond.instanceMethod yX3_moneyLeft, Cond.selects RX3 yX3_moneyLeft yX3_moneyLeft, Cond.code yX3_moneyLeft cX3_moneyLeft 1 (some .int), Cond.fieldLink RX3 53 "SettlementFund" "sum" "I", Cond.fieldLink RX3 60 "SettlementFund" "expenses" "I"]
def wsX3_shareBySorting_r3 : List Cond := [Cond.fieldLink RX3 26 "SettlementFund" "paymentBook" "LSettlementFund$PaymentBook;", Cond.methodLink RX3 190 yX3_fee, Cond.instanceMethod yX3_fee, Cond.selects RX3 yX3_fee yX3_fee, Cond.code yX3_fee cX3_fee 1 (some .int), Cond.fieldLink RX3 57 "SettlementFund" "feeInThousandths" "I", Cond.constantLong RX3 196 (1000), Cond.methodLink RX3 193 yX1_sumOfAll, Cond.instanceMethod yX1_sumOfAll, Cond.selects RX1 yX1_sumOfAll yX1_sumOfAll, Cond.initialized RX1, Cond.code yX1_sumOfAll cX1_sumOfAll 3 (some .int), Cond.fieldLink RX1 24 "SettlementFund$PaymentBook" "size" "I", Cond.fieldLink RX1 18 "SettlementFund$PaymentBook" "state" "[I", Cond.fieldLink RX1 15 "SettlementFund$PaymentBook" "amount" "[I", Cond.methodLink RX3 222 yX3_takesPart, Cond.instanceMethod yX3_takesPart, Cond.selects RX3 yX3_takesPart yX3_takesPart, Cond.code yX3_takesPart cX3_takesPart 2 (some .boolean), Cond.fieldLink RX3 115 "SettlementFund$ClaimBook" "state" "[I", Cond.methodLink RX3 225 yX3_room, Cond.instanceMethod yX3_room, Cond.selects RX3 yX3_room yX3_room, Cond.code yX3_room cX3_room 3 (some .int)]
def wsX3_shareBySorting_r4 : List Cond := [Cond.fieldLink RX3 13 "SettlementFund" "gradeCap" "[I", Cond.methodLink RX3 181 yX3_valueAt, Cond.static yX3_valueAt, Cond.code yX3_valueAt cX3_valueAt 2 (some .int), Cond.methodLink RX3 185 yX1_sumFor, Cond.instanceMethod yX1_sumFor, Cond.selects RX1 yX1_sumFor yX1_sumFor, Cond.code yX1_sumFor cX1_sumFor 4 (some .int), Cond.fieldLink RX1 9 "SettlementFund$PaymentBook" "claim" "[I", Cond.methodLink RX3 235 yX1_hasVoidFor, Cond.instanceMethod yX1_hasVoidFor, Cond.selects RX1 yX1_hasVoidFor yX1_hasVoidFor, Cond.code yX1_hasVoidFor cX1_hasVoidFor 3 (some .boolean), Cond.methodLink RX3 228 yX2_add, Cond.instanceMethod yX2_add, Cond.selects RX2 yX2_add yX2_add, Cond.code yX2_add cX2_add 4 none, Cond.fieldLink RX2 9 "SettlementFund$Sharing" "claim" "[I", Cond.fieldLink RX2 15 "SettlementFund$Sharing" "points" "[I", Cond.fieldLink RX2 18 "SettlementFund$Sharing" "room" "[I", Cond.methodLink RX3 232 yX2_shareOut, Cond.instanceMethod yX2_shareOut, Cond.selects RX2 yX2_shareOut yX2_shareOut, Cond.code yX2_shareOut cX2_shareOut 6 none]
def wsX3_shareBySorting_r5 : List Cond := [Cond.fieldLink RX2 21 "SettlementFund$Sharing" "share" "[I", Cond.methodLink RX2 32 yX2_sortByRoomPerPoint, Cond.instanceMethod yX2_sortByRoomPerPoint, Cond.selects RX2 yX2_sortByRoomPerPoint yX2_sortByRoomPerPoint, Cond.code yX2_sortByRoomPerPoint cX2_sortByRoomPerPoint 3 none, Cond.methodLink RX2 78 yX2_hasLessRoomPerPoint, Cond.instanceMethod yX2_hasLessRoomPerPoint, Cond.selects RX2 yX2_hasLessRoomPerPoint yX2_hasLessRoomPerPoint, Cond.code yX2_hasLessRoomPerPoint cX2_hasLessRoomPerPoint 3 (some .boolean), Cond.methodLink RX2 82 yX2_swapPlaces, Cond.instanceMethod yX2_swapPlaces, Cond.selects RX2 yX2_swapPlaces yX2_swapPlaces, Cond.code yX2_swapPlaces cX2_swapPlaces 6 none, Cond.methodLink RX2 74 yX2_copyPlace, Cond.instanceMethod yX2_copyPlace, Cond.selects RX2 yX2_copyPlace yX2_copyPlace, Cond.code yX2_copyPlace cX2_copyPlace 3 none, Cond.methodLink RX2 35 yX2_shareOnce, Cond.instanceMethod yX2_shareOnce, Cond.selects RX2 yX2_shareOnce yX2_shareOnce, Cond.code yX2_shareOnce cX2_shareOnce 4 none, Cond.fieldLink RX2 47 "SettlementFund$Sharing" "restMoney" "J", Cond.fieldLink RX2 51 "SettlementFund$Sharing" "restPoints" "J", Cond.fieldLink RX2 24 "SettlementFund$Sharing" "isFull" "[Z"]
def wsX3_shareBySorting_r6 : List Cond := [Cond.methodLink RX2 54 yX2_fillFromFront, Cond.instanceMethod yX2_fillFromFront, Cond.selects RX2 yX2_fillFromFront yX2_fillFromFront, Cond.code yX2_fillFromFront cX2_fillFromFront 2 none, Cond.methodLink RX2 63 yX2_reachesRoom, Cond.instanceMethod yX2_reachesRoom, Cond.selects RX2 yX2_reachesRoom yX2_reachesRoom, Cond.code yX2_reachesRoom cX2_reachesRoom 6 (some .boolean), Cond.methodLink RX2 67 yX2_fill, Cond.instanceMethod yX2_fill, Cond.selects RX2 yX2_fill yX2_fill, Cond.code yX2_fill cX2_fill 2 none, Cond.methodLink RX2 57 yX2_fillInLooks, Cond.instanceMethod yX2_fillInLooks, Cond.selects RX2 yX2_fillInLooks yX2_fillInLooks, Cond.code yX2_fillInLooks cX2_fillInLooks 8 none, Cond.methodLink RX2 60 yX2_shareRestByPoints, Cond.instanceMethod yX2_shareRestByPoints, Cond.selects RX2 yX2_shareRestByPoints yX2_shareRestByPoints, Cond.code yX2_shareRestByPoints cX2_shareRestByPoints 4 none, Cond.methodLink RX2 70 yX2_notFullBelow, Cond.instanceMethod yX2_notFullBelow, Cond.selects RX2 yX2_notFullBelow yX2_notFullBelow, Cond.code yX2_notFullBelow cX2_notFullBelow 4 (some .int)]
def wsX3_shareBySorting_r7 : List Cond := [Cond.methodLink RX2 39 yX2_placeOfSmallest, Cond.instanceMethod yX2_placeOfSmallest, Cond.selects RX2 yX2_placeOfSmallest yX2_placeOfSmallest, Cond.code yX2_placeOfSmallest cX2_placeOfSmallest 3 (some .int), Cond.methodLink RX2 43 yX2_takeOut, Cond.instanceMethod yX2_takeOut, Cond.selects RX2 yX2_takeOut yX2_takeOut, Cond.code yX2_takeOut cX2_takeOut 3 none, Cond.methodLink RX3 216 yX2_shareGivenTo, Cond.instanceMethod yX2_shareGivenTo, Cond.selects RX2 yX2_shareGivenTo yX2_shareGivenTo, Cond.code yX2_shareGivenTo cX2_shareGivenTo 3 (some .int)]
def wsX3_shareBySorting : List Cond := .code yX3_shareBySorting cX3_shareBySorting 3 (some .int) :: ((wsX3_shareBySorting_r1 ++ (wsX3_shareBySorting_r2 ++ (wsX3_shareBySorting_r3 ++ (wsX3_shareBySorting_r4 ++ (wsX3_shareBySorting_r5 ++ (wsX3_shareBySorting_r6 ++ wsX3_shareBySorting_r7)))))) ++ wsX30 ++ wsX00 ++ wsX20 ++ wsX10 ++ (vx_atS RX3 71 "java/lang/IndexOutOfBoundsException" ["java/lang/RuntimeException", "java/lang/Exception"]).filter goodWord ++ (vx_atS RX3 47 "java/lang/IllegalArgumentException" ["java/lang/RuntimeException", "java/lang/Exception"]).filter goodWord)
def wsX4_init : List Cond := .code yX4_init cX4_init 2 none :: ([.methodLink RX4 1 objectInit, .instanceMethod objectInit, .code objectInit ⟨#[0xb1]⟩ 1 none, .arrayClass .int, .fieldLink RX4 7 "SettlementFundModel" "points" "[I", .fieldLink RX4 13 "SettlementFundModel" "caps" "[I", .fieldLink RX4 16 "SettlementFundModel" "persons" "[I", .fieldLink RX4 19 "SettlementFundModel" "grades" "[I", .fieldLink RX4 22 "SettlementFundModel" "states" "[I", .fieldLink RX4 25 "SettlementFundModel" "deadlines" "[I", .arrayClass .boolean, .fieldLink RX4 28 "SettlementFundModel" "wasObjected" "[Z", .fieldLink RX4 32 "SettlementFundModel" "paidTo" "[I", .fieldLink RX4 35 "SettlementFundModel" "amounts" "[I", .fieldLink RX4 38 "SettlementFundModel" "madeOn" "[I", .fieldLink RX4 41 "SettlementFundModel" "paymentStates" "[I", .fieldLink RX4 44 "SettlementFundModel" "takesPart" "[Z", .fieldLink RX4 47 "SettlementFundModel" "isFull" "[Z", .fieldLink RX4 50 "SettlementFundModel" "shares" "[I", .fieldLink RX4 53 "SettlementFundModel" "rooms" "[I", .constant RX4 56 (1000000)] ++ wsX40)
def wsX4_thrown : List Cond := .code yX4_thrown cX4_thrown 1 (some .int) :: ([.fieldLink RX4 57 "SettlementFundModel" "thrown" "I"] ++ wsX40)
def wsX4_goes : List Cond := .code yX4_goes cX4_goes 2 (some .boolean) :: ([.fieldLink RX4 57 "SettlementFundModel" "thrown" "I"] ++ wsX40)
def wsX4_isIn : List Cond := .code yX4_isIn cX4_isIn 3 (some .boolean) :: ([])
def wsX4_isClaim : List Cond := .code yX4_isClaim cX4_isClaim 2 (some .boolean) :: ([.fieldLink RX4 61 "SettlementFundModel" "claims" "I", .methodLink RX4 64 yX4_isIn, .static yX4_isIn, .initialized RX4, .code yX4_isIn cX4_isIn 3 (some .boolean)] ++ wsX40)
def wsX4_isPayment : List Cond := .code yX4_isPayment cX4_isPayment 2 (some .boolean) :: ([.fieldLink RX4 68 "SettlementFundModel" "payments" "I", .methodLink RX4 64 yX4_isIn, .static yX4_isIn, .initialized RX4, .code yX4_isIn cX4_isIn 3 (some .boolean)] ++ wsX40)
def wsX4_feeNow : List Cond := .code yX4_feeNow cX4_feeNow 1 (some .int) :: ([.fieldLink RX4 71 "SettlementFundModel" "sum" "I", .fieldLink RX4 74 "SettlementFundModel" "fee" "I", .constantLong RX4 77 (1000)] ++ wsX40)
def wsX4_left : List Cond := .code yX4_left cX4_left 3 (some .int) :: ([.fieldLink RX4 71 "SettlementFundModel" "sum" "I", .fieldLink RX4 83 "SettlementFundModel" "expenses" "I", .fieldLink RX4 68 "SettlementFundModel" "payments" "I", .fieldLink RX4 41 "SettlementFundModel" "paymentStates" "[I", .fieldLink RX4 35 "SettlementFundModel" "amounts" "[I", .methodLink RX4 79 yX4_feeNow, .instanceMethod yX4_feeNow, .selects RX4 yX4_feeNow yX4_feeNow, .initialized RX4, .code yX4_feeNow cX4_feeNow 1 (some .int), .fieldLink RX4 74 "SettlementFundModel" "fee" "I", .constantLong RX4 77 (1000)] ++ wsX40)
def wsX4_setFund_r1 : List Cond := [Cond.constant RX4 86 (10000000), Cond.constant RX4 56 (1000000), Cond.fieldLink RX4 68 "SettlementFundModel" "payments" "I", Cond.fieldLink RX4 71 "SettlementFundModel" "sum" "I", Cond.fieldLink RX4 74 "SettlementFundModel" "fee" "I", Cond.fieldLink RX4 83 "SettlementFundModel" "expenses" "I", Cond.methodLink RX4 64 yX4_isIn, Cond.static yX4_isIn, Cond.initialized RX4, Cond.code yX4_isIn cX4_isIn 3 (some .boolean), Cond.methodLink RX4 87 yX4_goes, Cond.instanceMethod yX4_goes, Cond.selects RX4 yX4_goes yX4_goes, Cond.code yX4_goes cX4_goes 2 (some .boolean), Cond.fieldLink RX4 57 "SettlementFundModel" "thrown" "I", Cond.methodLink RX4 91 yX4_left, Cond.instanceMethod yX4_left, Cond.selects RX4 yX4_left yX4_left, Cond.code yX4_left cX4_left 3 (some .int), Cond.fieldLink RX4 41 "SettlementFundModel" "paymentStates" "[I", Cond.fieldLink RX4 35 "SettlementFundModel" "amounts" "[I", Cond.methodLink RX4 79 yX4_feeNow, Cond.instanceMethod yX4_feeNow, Cond.selects RX4 yX4_feeNow yX4_feeNow]
def wsX4_setFund_r2 : List Cond := [Cond.code yX4_feeNow cX4_feeNow 1 (some .int), Cond.constantLong RX4 77 (1000)]
def wsX4_setFund : List Cond := .code yX4_setFund cX4_setFund 5 (some .int) :: ((wsX4_setFund_r1 ++ wsX4_setFund_r2) ++ wsX40)
def wsX4_setGrade : List Cond := .code yX4_setGrade cX4_setGrade 5 none :: ([.constant RX4 56 (1000000), .fieldLink RX4 68 "SettlementFundModel" "payments" "I", .fieldLink RX4 7 "SettlementFundModel" "points" "[I", .fieldLink RX4 13 "SettlementFundModel" "caps" "[I", .methodLink RX4 64 yX4_isIn, .static yX4_isIn, .initialized RX4, .code yX4_isIn cX4_isIn 3 (some .boolean), .methodLink RX4 87 yX4_goes, .instanceMethod yX4_goes, .selects RX4 yX4_goes yX4_goes, .code yX4_goes cX4_goes 2 (some .boolean), .fieldLink RX4 57 "SettlementFundModel" "thrown" "I"] ++ wsX40)
def wsX4_pass : List Cond := .code yX4_pass cX4_pass 5 (some .int) :: ([.fieldLink RX4 94 "SettlementFundModel" "today" "I", .fieldLink RX4 61 "SettlementFundModel" "claims" "I", .fieldLink RX4 22 "SettlementFundModel" "states" "[I", .fieldLink RX4 25 "SettlementFundModel" "deadlines" "[I", .fieldLink RX4 68 "SettlementFundModel" "payments" "I", .fieldLink RX4 41 "SettlementFundModel" "paymentStates" "[I", .fieldLink RX4 38 "SettlementFundModel" "madeOn" "[I", .methodLink RX4 64 yX4_isIn, .static yX4_isIn, .initialized RX4, .code yX4_isIn cX4_isIn 3 (some .boolean), .methodLink RX4 87 yX4_goes, .instanceMethod yX4_goes, .selects RX4 yX4_goes yX4_goes, .code yX4_goes cX4_goes 2 (some .boolean), .fieldLink RX4 57 "SettlementFundModel" "thrown" "I"] ++ wsX40)
def wsX4_ofPerson : List Cond := .code yX4_ofPerson cX4_ofPerson 4 (some .int) :: ([.fieldLink RX4 61 "SettlementFundModel" "claims" "I", .fieldLink RX4 16 "SettlementFundModel" "persons" "[I"] ++ wsX40)
def wsX4_claim : List Cond := .code yX4_claim cX4_claim 7 (some .int) :: ([.fieldLink RX4 61 "SettlementFundModel" "claims" "I", .fieldLink RX4 16 "SettlementFundModel" "persons" "[I", .fieldLink RX4 19 "SettlementFundModel" "grades" "[I", .fieldLink RX4 22 "SettlementFundModel" "states" "[I", .fieldLink RX4 25 "SettlementFundModel" "deadlines" "[I", .fieldLink RX4 94 "SettlementFundModel" "today" "I", .fieldLink RX4 28 "SettlementFundModel" "wasObjected" "[Z", .methodLink RX4 64 yX4_isIn, .static yX4_isIn, .initialized RX4, .code yX4_isIn cX4_isIn 3 (some .boolean), .methodLink RX4 97 yX4_ofPerson, .instanceMethod yX4_ofPerson, .selects RX4 yX4_ofPerson yX4_ofPerson, .code yX4_ofPerson cX4_ofPerson 4 (some .int), .methodLink RX4 87 yX4_goes, .instanceMethod yX4_goes, .selects RX4 yX4_goes yX4_goes, .code yX4_goes cX4_goes 2 (some .boolean), .fieldLink RX4 57 "SettlementFundModel" "thrown" "I"] ++ wsX40)
def wsX4_cure : List Cond := .code yX4_cure cX4_cure 2 (some .int) :: ([.fieldLink RX4 22 "SettlementFundModel" "states" "[I", .fieldLink RX4 25 "SettlementFundModel" "deadlines" "[I", .fieldLink RX4 94 "SettlementFundModel" "today" "I", .methodLink RX4 101 yX4_isClaim, .instanceMethod yX4_isClaim, .selects RX4 yX4_isClaim yX4_isClaim, .initialized RX4, .code yX4_isClaim cX4_isClaim 2 (some .boolean), .fieldLink RX4 61 "SettlementFundModel" "claims" "I", .methodLink RX4 64 yX4_isIn, .static yX4_isIn, .code yX4_isIn cX4_isIn 3 (some .boolean), .methodLink RX4 87 yX4_goes, .instanceMethod yX4_goes, .selects RX4 yX4_goes yX4_goes, .code yX4_goes cX4_goes 2 (some .boolean), .fieldLink RX4 57 "SettlementFundModel" "thrown" "I"] ++ wsX40)
def wsX4_deny : List Cond := .code yX4_deny cX4_deny 3 (some .int) :: ([.fieldLink RX4 22 "SettlementFundModel" "states" "[I", .methodLink RX4 101 yX4_isClaim, .instanceMethod yX4_isClaim, .selects RX4 yX4_isClaim yX4_isClaim, .initialized RX4, .code yX4_isClaim cX4_isClaim 2 (some .boolean), .fieldLink RX4 61 "SettlementFundModel" "claims" "I", .methodLink RX4 64 yX4_isIn, .static yX4_isIn, .code yX4_isIn cX4_isIn 3 (some .boolean), .methodLink RX4 87 yX4_goes, .instanceMethod yX4_goes, .selects RX4 yX4_goes yX4_goes, .code yX4_goes cX4_goes 2 (some .boolean), .fieldLink RX4 57 "SettlementFundModel" "thrown" "I"] ++ wsX40)
def wsX4_countOf : List Cond := .code yX4_countOf cX4_countOf 4 (some .int) :: ([.fieldLink RX4 61 "SettlementFundModel" "claims" "I", .fieldLink RX4 22 "SettlementFundModel" "states" "[I"] ++ wsX40)
def wsX4_object : List Cond := .code yX4_object cX4_object 2 (some .int) :: ([.fieldLink RX4 22 "SettlementFundModel" "states" "[I", .fieldLink RX4 28 "SettlementFundModel" "wasObjected" "[Z", .methodLink RX4 101 yX4_isClaim, .instanceMethod yX4_isClaim, .selects RX4 yX4_isClaim yX4_isClaim, .initialized RX4, .code yX4_isClaim cX4_isClaim 2 (some .boolean), .fieldLink RX4 61 "SettlementFundModel" "claims" "I", .methodLink RX4 64 yX4_isIn, .static yX4_isIn, .code yX4_isIn cX4_isIn 3 (some .boolean), .methodLink RX4 87 yX4_goes, .instanceMethod yX4_goes, .selects RX4 yX4_goes yX4_goes, .code yX4_goes cX4_goes 2 (some .boolean), .fieldLink RX4 57 "SettlementFundModel" "thrown" "I", .methodLink RX4 104 yX4_countOf, .instanceMethod yX4_countOf, .selects RX4 yX4_countOf yX4_countOf, .code yX4_countOf cX4_countOf 4 (some .int)] ++ wsX40)
def wsX4_decide : List Cond := .code yX4_decide cX4_decide 3 (some .int) :: ([.fieldLink RX4 22 "SettlementFundModel" "states" "[I", .methodLink RX4 101 yX4_isClaim, .instanceMethod yX4_isClaim, .selects RX4 yX4_isClaim yX4_isClaim, .initialized RX4, .code yX4_isClaim cX4_isClaim 2 (some .boolean), .fieldLink RX4 61 "SettlementFundModel" "claims" "I", .methodLink RX4 64 yX4_isIn, .static yX4_isIn, .code yX4_isIn cX4_isIn 3 (some .boolean), .methodLink RX4 87 yX4_goes, .instanceMethod yX4_goes, .selects RX4 yX4_goes yX4_goes, .code yX4_goes cX4_goes 2 (some .boolean), .fieldLink RX4 57 "SettlementFundModel" "thrown" "I", .methodLink RX4 104 yX4_countOf, .instanceMethod yX4_countOf, .selects RX4 yX4_countOf yX4_countOf, .code yX4_countOf cX4_countOf 4 (some .int)] ++ wsX40)
def wsX4_paid : List Cond := .code yX4_paid cX4_paid 4 (some .int) :: ([.fieldLink RX4 68 "SettlementFundModel" "payments" "I", .fieldLink RX4 32 "SettlementFundModel" "paidTo" "[I", .fieldLink RX4 41 "SettlementFundModel" "paymentStates" "[I", .fieldLink RX4 35 "SettlementFundModel" "amounts" "[I"] ++ wsX40)
def wsX4_roomOf : List Cond := .code yX4_roomOf cX4_roomOf 3 (some .int) :: ([.fieldLink RX4 13 "SettlementFundModel" "caps" "[I", .fieldLink RX4 19 "SettlementFundModel" "grades" "[I", .methodLink RX4 107 yX4_paid, .instanceMethod yX4_paid, .selects RX4 yX4_paid yX4_paid, .initialized RX4, .code yX4_paid cX4_paid 4 (some .int), .fieldLink RX4 68 "SettlementFundModel" "payments" "I", .fieldLink RX4 32 "SettlementFundModel" "paidTo" "[I", .fieldLink RX4 41 "SettlementFundModel" "paymentStates" "[I", .fieldLink RX4 35 "SettlementFundModel" "amounts" "[I"] ++ wsX40)
def wsX4_hasVoid : List Cond := .code yX4_hasVoid cX4_hasVoid 4 (some .boolean) :: ([.fieldLink RX4 68 "SettlementFundModel" "payments" "I", .fieldLink RX4 32 "SettlementFundModel" "paidTo" "[I", .fieldLink RX4 41 "SettlementFundModel" "paymentStates" "[I"] ++ wsX40)
def wsX4_isLeft : List Cond := .code yX4_isLeft cX4_isLeft 2 (some .boolean) :: ([.fieldLink RX4 44 "SettlementFundModel" "takesPart" "[Z", .fieldLink RX4 47 "SettlementFundModel" "isFull" "[Z"] ++ wsX40)
def wsX4_allPoints : List Cond := .code yX4_allPoints cX4_allPoints 4 (some .long) :: ([.fieldLink RX4 61 "SettlementFundModel" "claims" "I", .fieldLink RX4 7 "SettlementFundModel" "points" "[I", .fieldLink RX4 19 "SettlementFundModel" "grades" "[I", .methodLink RX4 110 yX4_isLeft, .instanceMethod yX4_isLeft, .selects RX4 yX4_isLeft yX4_isLeft, .initialized RX4, .code yX4_isLeft cX4_isLeft 2 (some .boolean), .fieldLink RX4 44 "SettlementFundModel" "takesPart" "[Z", .fieldLink RX4 47 "SettlementFundModel" "isFull" "[Z"] ++ wsX40)
def wsX4_givesRooms : List Cond := .code yX4_givesRooms cX4_givesRooms 7 (some .int) :: ([.fieldLink RX4 61 "SettlementFundModel" "claims" "I", .fieldLink RX4 50 "SettlementFundModel" "shares" "[I", .fieldLink RX4 7 "SettlementFundModel" "points" "[I", .fieldLink RX4 19 "SettlementFundModel" "grades" "[I", .fieldLink RX4 53 "SettlementFundModel" "rooms" "[I", .fieldLink RX4 47 "SettlementFundModel" "isFull" "[Z", .fieldLink RX4 44 "SettlementFundModel" "takesPart" "[Z", .methodLink RX4 113 yX4_allPoints, .instanceMethod yX4_allPoints, .selects RX4 yX4_allPoints yX4_allPoints, .initialized RX4, .code yX4_allPoints cX4_allPoints 4 (some .long), .methodLink RX4 110 yX4_isLeft, .instanceMethod yX4_isLeft, .selects RX4 yX4_isLeft yX4_isLeft, .code yX4_isLeft cX4_isLeft 2 (some .boolean)] ++ wsX40)
def wsX4_givesRest : List Cond := .code yX4_givesRest cX4_givesRest 7 none :: ([.fieldLink RX4 61 "SettlementFundModel" "claims" "I", .fieldLink RX4 50 "SettlementFundModel" "shares" "[I", .fieldLink RX4 7 "SettlementFundModel" "points" "[I", .fieldLink RX4 19 "SettlementFundModel" "grades" "[I", .methodLink RX4 113 yX4_allPoints, .instanceMethod yX4_allPoints, .selects RX4 yX4_allPoints yX4_allPoints, .initialized RX4, .code yX4_allPoints cX4_allPoints 4 (some .long), .methodLink RX4 110 yX4_isLeft, .instanceMethod yX4_isLeft, .selects RX4 yX4_isLeft yX4_isLeft, .code yX4_isLeft cX4_isLeft 2 (some .boolean), .fieldLink RX4 44 "SettlementFundModel" "takesPart" "[Z", .fieldLink RX4 47 "SettlementFundModel" "isFull" "[Z"] ++ wsX40)
def wsX4_shares : List Cond := .code yX4_shares cX4_shares 4 none :: ([.fieldLink RX4 61 "SettlementFundModel" "claims" "I", .fieldLink RX4 47 "SettlementFundModel" "isFull" "[Z", .fieldLink RX4 50 "SettlementFundModel" "shares" "[I", .methodLink RX4 117 yX4_givesRooms, .instanceMethod yX4_givesRooms, .selects RX4 yX4_givesRooms yX4_givesRooms, .initialized RX4, .code yX4_givesRooms cX4_givesRooms 7 (some .int), .fieldLink RX4 7 "SettlementFundModel" "points" "[I", .fieldLink RX4 19 "SettlementFundModel" "grades" "[I", .fieldLink RX4 53 "SettlementFundModel" "rooms" "[I", .fieldLink RX4 44 "SettlementFundModel" "takesPart" "[Z", .methodLink RX4 113 yX4_allPoints, .instanceMethod yX4_allPoints, .selects RX4 yX4_allPoints yX4_allPoints, .code yX4_allPoints cX4_allPoints 4 (some .long), .methodLink RX4 110 yX4_isLeft, .instanceMethod yX4_isLeft, .selects RX4 yX4_isLeft yX4_isLeft, .code yX4_isLeft cX4_isLeft 2 (some .boolean), .methodLink RX4 120 yX4_givesRest, .instanceMethod yX4_givesRest, .selects RX4 yX4_givesRest yX4_givesRest, .code yX4_givesRest cX4_givesRest 7 none] ++ wsX40)
def wsX4_lowest : List Cond := .code yX4_lowest cX4_lowest 3 (some .int) :: ([.fieldLink RX4 61 "SettlementFundModel" "claims" "I", .fieldLink RX4 44 "SettlementFundModel" "takesPart" "[Z", .fieldLink RX4 50 "SettlementFundModel" "shares" "[I"] ++ wsX40)
def wsX4_lays_r1 : List Cond := [Cond.fieldLink RX4 61 "SettlementFundModel" "claims" "I", Cond.fieldLink RX4 53 "SettlementFundModel" "rooms" "[I", Cond.fieldLink RX4 44 "SettlementFundModel" "takesPart" "[Z", Cond.fieldLink RX4 22 "SettlementFundModel" "states" "[I", Cond.fieldLink RX4 50 "SettlementFundModel" "shares" "[I", Cond.methodLink RX4 91 yX4_left, Cond.instanceMethod yX4_left, Cond.selects RX4 yX4_left yX4_left, Cond.initialized RX4, Cond.code yX4_left cX4_left 3 (some .int), Cond.fieldLink RX4 71 "SettlementFundModel" "sum" "I", Cond.fieldLink RX4 83 "SettlementFundModel" "expenses" "I", Cond.fieldLink RX4 68 "SettlementFundModel" "payments" "I", Cond.fieldLink RX4 41 "SettlementFundModel" "paymentStates" "[I", Cond.fieldLink RX4 35 "SettlementFundModel" "amounts" "[I", Cond.methodLink RX4 79 yX4_feeNow, Cond.instanceMethod yX4_feeNow, Cond.selects RX4 yX4_feeNow yX4_feeNow, Cond.code yX4_feeNow cX4_feeNow 1 (some .int), Cond.fieldLink RX4 74 "SettlementFundModel" "fee" "I", Cond.constantLong RX4 77 (1000), Cond.methodLink RX4 124 yX4_roomOf, Cond.instanceMethod yX4_roomOf, Cond.selects RX4 yX4_roomOf yX4_roomOf]
def wsX4_lays_r2 : List Cond := [Cond.code yX4_roomOf cX4_roomOf 3 (some .int), Cond.fieldLink RX4 13 "SettlementFundModel" "caps" "[I", Cond.fieldLink RX4 19 "SettlementFundModel" "grades" "[I", Cond.methodLink RX4 107 yX4_paid, Cond.instanceMethod yX4_paid, Cond.selects RX4 yX4_paid yX4_paid, Cond.code yX4_paid cX4_paid 4 (some .int), Cond.fieldLink RX4 32 "SettlementFundModel" "paidTo" "[I", Cond.methodLink RX4 127 yX4_hasVoid, Cond.instanceMethod yX4_hasVoid, Cond.selects RX4 yX4_hasVoid yX4_hasVoid, Cond.code yX4_hasVoid cX4_hasVoid 4 (some .boolean), Cond.methodLink RX4 130 yX4_shares, Cond.instanceMethod yX4_shares, Cond.selects RX4 yX4_shares yX4_shares, Cond.code yX4_shares cX4_shares 4 none, Cond.fieldLink RX4 47 "SettlementFundModel" "isFull" "[Z", Cond.methodLink RX4 117 yX4_givesRooms, Cond.instanceMethod yX4_givesRooms, Cond.selects RX4 yX4_givesRooms yX4_givesRooms, Cond.code yX4_givesRooms cX4_givesRooms 7 (some .int), Cond.fieldLink RX4 7 "SettlementFundModel" "points" "[I", Cond.methodLink RX4 113 yX4_allPoints, Cond.instanceMethod yX4_allPoints]
def wsX4_lays_r3 : List Cond := [Cond.selects RX4 yX4_allPoints yX4_allPoints, Cond.code yX4_allPoints cX4_allPoints 4 (some .long), Cond.methodLink RX4 110 yX4_isLeft, Cond.instanceMethod yX4_isLeft, Cond.selects RX4 yX4_isLeft yX4_isLeft, Cond.code yX4_isLeft cX4_isLeft 2 (some .boolean), Cond.methodLink RX4 120 yX4_givesRest, Cond.instanceMethod yX4_givesRest, Cond.selects RX4 yX4_givesRest yX4_givesRest, Cond.code yX4_givesRest cX4_givesRest 7 none, Cond.methodLink RX4 132 yX4_lowest, Cond.instanceMethod yX4_lowest, Cond.selects RX4 yX4_lowest yX4_lowest, Cond.code yX4_lowest cX4_lowest 3 (some .int)]
def wsX4_lays : List Cond := .code yX4_lays cX4_lays 4 none :: ((wsX4_lays_r1 ++ (wsX4_lays_r2 ++ wsX4_lays_r3)) ++ wsX40)
def wsX4_isOpen : List Cond := .code yX4_isOpen cX4_isOpen 3 (some .boolean) :: ([.fieldLink RX4 68 "SettlementFundModel" "payments" "I", .fieldLink RX4 41 "SettlementFundModel" "paymentStates" "[I"] ++ wsX40)
def wsX4_round_r1 : List Cond := [Cond.constant RX4 135 (100000), Cond.fieldLink RX4 61 "SettlementFundModel" "claims" "I", Cond.fieldLink RX4 44 "SettlementFundModel" "takesPart" "[Z", Cond.fieldLink RX4 50 "SettlementFundModel" "shares" "[I", Cond.fieldLink RX4 68 "SettlementFundModel" "payments" "I", Cond.fieldLink RX4 32 "SettlementFundModel" "paidTo" "[I", Cond.fieldLink RX4 35 "SettlementFundModel" "amounts" "[I", Cond.fieldLink RX4 38 "SettlementFundModel" "madeOn" "[I", Cond.fieldLink RX4 94 "SettlementFundModel" "today" "I", Cond.fieldLink RX4 41 "SettlementFundModel" "paymentStates" "[I", Cond.methodLink RX4 64 yX4_isIn, Cond.static yX4_isIn, Cond.initialized RX4, Cond.code yX4_isIn cX4_isIn 3 (some .boolean), Cond.methodLink RX4 87 yX4_goes, Cond.instanceMethod yX4_goes, Cond.selects RX4 yX4_goes yX4_goes, Cond.code yX4_goes cX4_goes 2 (some .boolean), Cond.fieldLink RX4 57 "SettlementFundModel" "thrown" "I", Cond.methodLink RX4 136 yX4_lays, Cond.instanceMethod yX4_lays, Cond.selects RX4 yX4_lays yX4_lays, Cond.code yX4_lays cX4_lays 4 none, Cond.fieldLink RX4 53 "SettlementFundModel" "rooms" "[I"]
def wsX4_round_r2 : List Cond := [Cond.fieldLink RX4 22 "SettlementFundModel" "states" "[I", Cond.methodLink RX4 91 yX4_left, Cond.instanceMethod yX4_left, Cond.selects RX4 yX4_left yX4_left, Cond.code yX4_left cX4_left 3 (some .int), Cond.fieldLink RX4 71 "SettlementFundModel" "sum" "I", Cond.fieldLink RX4 83 "SettlementFundModel" "expenses" "I", Cond.methodLink RX4 79 yX4_feeNow, Cond.instanceMethod yX4_feeNow, Cond.selects RX4 yX4_feeNow yX4_feeNow, Cond.code yX4_feeNow cX4_feeNow 1 (some .int), Cond.fieldLink RX4 74 "SettlementFundModel" "fee" "I", Cond.constantLong RX4 77 (1000), Cond.methodLink RX4 124 yX4_roomOf, Cond.instanceMethod yX4_roomOf, Cond.selects RX4 yX4_roomOf yX4_roomOf, Cond.code yX4_roomOf cX4_roomOf 3 (some .int), Cond.fieldLink RX4 13 "SettlementFundModel" "caps" "[I", Cond.fieldLink RX4 19 "SettlementFundModel" "grades" "[I", Cond.methodLink RX4 107 yX4_paid, Cond.instanceMethod yX4_paid, Cond.selects RX4 yX4_paid yX4_paid, Cond.code yX4_paid cX4_paid 4 (some .int), Cond.methodLink RX4 127 yX4_hasVoid]
def wsX4_round_r3 : List Cond := [Cond.instanceMethod yX4_hasVoid, Cond.selects RX4 yX4_hasVoid yX4_hasVoid, Cond.code yX4_hasVoid cX4_hasVoid 4 (some .boolean), Cond.methodLink RX4 130 yX4_shares, Cond.instanceMethod yX4_shares, Cond.selects RX4 yX4_shares yX4_shares, Cond.code yX4_shares cX4_shares 4 none, Cond.fieldLink RX4 47 "SettlementFundModel" "isFull" "[Z", Cond.methodLink RX4 117 yX4_givesRooms, Cond.instanceMethod yX4_givesRooms, Cond.selects RX4 yX4_givesRooms yX4_givesRooms, Cond.code yX4_givesRooms cX4_givesRooms 7 (some .int), Cond.fieldLink RX4 7 "SettlementFundModel" "points" "[I", Cond.methodLink RX4 113 yX4_allPoints, Cond.instanceMethod yX4_allPoints, Cond.selects RX4 yX4_allPoints yX4_allPoints, Cond.code yX4_allPoints cX4_allPoints 4 (some .long), Cond.methodLink RX4 110 yX4_isLeft, Cond.instanceMethod yX4_isLeft, Cond.selects RX4 yX4_isLeft yX4_isLeft, Cond.code yX4_isLeft cX4_isLeft 2 (some .boolean), Cond.methodLink RX4 120 yX4_givesRest, Cond.instanceMethod yX4_givesRest, Cond.selects RX4 yX4_givesRest yX4_givesRest]
def wsX4_round_r4 : List Cond := [Cond.code yX4_givesRest cX4_givesRest 7 none, Cond.methodLink RX4 132 yX4_lowest, Cond.instanceMethod yX4_lowest, Cond.selects RX4 yX4_lowest yX4_lowest, Cond.code yX4_lowest cX4_lowest 3 (some .int), Cond.methodLink RX4 104 yX4_countOf, Cond.instanceMethod yX4_countOf, Cond.selects RX4 yX4_countOf yX4_countOf, Cond.code yX4_countOf cX4_countOf 4 (some .int), Cond.methodLink RX4 139 yX4_isOpen, Cond.instanceMethod yX4_isOpen, Cond.selects RX4 yX4_isOpen yX4_isOpen, Cond.code yX4_isOpen cX4_isOpen 3 (some .boolean)]
def wsX4_round : List Cond := .code yX4_round cX4_round 5 (some .int) :: ((wsX4_round_r1 ++ (wsX4_round_r2 ++ (wsX4_round_r3 ++ wsX4_round_r4))) ++ wsX40)
def wsX4_cash : List Cond := .code yX4_cash cX4_cash 2 (some .int) :: ([.fieldLink RX4 41 "SettlementFundModel" "paymentStates" "[I", .fieldLink RX4 35 "SettlementFundModel" "amounts" "[I", .methodLink RX4 143 yX4_isPayment, .instanceMethod yX4_isPayment, .selects RX4 yX4_isPayment yX4_isPayment, .initialized RX4, .code yX4_isPayment cX4_isPayment 2 (some .boolean), .fieldLink RX4 68 "SettlementFundModel" "payments" "I", .methodLink RX4 64 yX4_isIn, .static yX4_isIn, .code yX4_isIn cX4_isIn 3 (some .boolean), .methodLink RX4 87 yX4_goes, .instanceMethod yX4_goes, .selects RX4 yX4_goes yX4_goes, .code yX4_goes cX4_goes 2 (some .boolean), .fieldLink RX4 57 "SettlementFundModel" "thrown" "I"] ++ wsX40)
def wsX4_today : List Cond := .code yX4_today cX4_today 1 (some .int) :: ([.fieldLink RX4 57 "SettlementFundModel" "thrown" "I", .fieldLink RX4 94 "SettlementFundModel" "today" "I"] ++ wsX40)
def wsX4_claims : List Cond := .code yX4_claims cX4_claims 1 (some .int) :: ([.fieldLink RX4 57 "SettlementFundModel" "thrown" "I", .fieldLink RX4 61 "SettlementFundModel" "claims" "I"] ++ wsX40)
def wsX4_claimOf : List Cond := .code yX4_claimOf cX4_claimOf 2 (some .int) :: ([.methodLink RX4 64 yX4_isIn, .static yX4_isIn, .initialized RX4, .code yX4_isIn cX4_isIn 3 (some .boolean), .methodLink RX4 87 yX4_goes, .instanceMethod yX4_goes, .selects RX4 yX4_goes yX4_goes, .code yX4_goes cX4_goes 2 (some .boolean), .fieldLink RX4 57 "SettlementFundModel" "thrown" "I", .methodLink RX4 97 yX4_ofPerson, .instanceMethod yX4_ofPerson, .selects RX4 yX4_ofPerson yX4_ofPerson, .code yX4_ofPerson cX4_ofPerson 4 (some .int), .fieldLink RX4 61 "SettlementFundModel" "claims" "I", .fieldLink RX4 16 "SettlementFundModel" "persons" "[I"] ++ wsX40)
def wsX4_asks : List Cond := .code yX4_asks cX4_asks 2 (some .boolean) :: ([.methodLink RX4 101 yX4_isClaim, .instanceMethod yX4_isClaim, .selects RX4 yX4_isClaim yX4_isClaim, .initialized RX4, .code yX4_isClaim cX4_isClaim 2 (some .boolean), .fieldLink RX4 61 "SettlementFundModel" "claims" "I", .methodLink RX4 64 yX4_isIn, .static yX4_isIn, .code yX4_isIn cX4_isIn 3 (some .boolean), .methodLink RX4 87 yX4_goes, .instanceMethod yX4_goes, .selects RX4 yX4_goes yX4_goes, .code yX4_goes cX4_goes 2 (some .boolean), .fieldLink RX4 57 "SettlementFundModel" "thrown" "I"] ++ wsX40)
def wsX4_stateOf : List Cond := .code yX4_stateOf cX4_stateOf 2 (some .int) :: ([.fieldLink RX4 22 "SettlementFundModel" "states" "[I", .methodLink RX4 146 yX4_asks, .instanceMethod yX4_asks, .selects RX4 yX4_asks yX4_asks, .initialized RX4, .code yX4_asks cX4_asks 2 (some .boolean), .methodLink RX4 101 yX4_isClaim, .instanceMethod yX4_isClaim, .selects RX4 yX4_isClaim yX4_isClaim, .code yX4_isClaim cX4_isClaim 2 (some .boolean), .fieldLink RX4 61 "SettlementFundModel" "claims" "I", .methodLink RX4 64 yX4_isIn, .static yX4_isIn, .code yX4_isIn cX4_isIn 3 (some .boolean), .methodLink RX4 87 yX4_goes, .instanceMethod yX4_goes, .selects RX4 yX4_goes yX4_goes, .code yX4_goes cX4_goes 2 (some .boolean), .fieldLink RX4 57 "SettlementFundModel" "thrown" "I"] ++ wsX40)
def wsX4_gradeOf : List Cond := .code yX4_gradeOf cX4_gradeOf 2 (some .int) :: ([.fieldLink RX4 19 "SettlementFundModel" "grades" "[I", .methodLink RX4 146 yX4_asks, .instanceMethod yX4_asks, .selects RX4 yX4_asks yX4_asks, .initialized RX4, .code yX4_asks cX4_asks 2 (some .boolean), .methodLink RX4 101 yX4_isClaim, .instanceMethod yX4_isClaim, .selects RX4 yX4_isClaim yX4_isClaim, .code yX4_isClaim cX4_isClaim 2 (some .boolean), .fieldLink RX4 61 "SettlementFundModel" "claims" "I", .methodLink RX4 64 yX4_isIn, .static yX4_isIn, .code yX4_isIn cX4_isIn 3 (some .boolean), .methodLink RX4 87 yX4_goes, .instanceMethod yX4_goes, .selects RX4 yX4_goes yX4_goes, .code yX4_goes cX4_goes 2 (some .boolean), .fieldLink RX4 57 "SettlementFundModel" "thrown" "I"] ++ wsX40)
def wsX4_room_r1 : List Cond := [Cond.methodLink RX4 146 yX4_asks, Cond.instanceMethod yX4_asks, Cond.selects RX4 yX4_asks yX4_asks, Cond.initialized RX4, Cond.code yX4_asks cX4_asks 2 (some .boolean), Cond.methodLink RX4 101 yX4_isClaim, Cond.instanceMethod yX4_isClaim, Cond.selects RX4 yX4_isClaim yX4_isClaim, Cond.code yX4_isClaim cX4_isClaim 2 (some .boolean), Cond.fieldLink RX4 61 "SettlementFundModel" "claims" "I", Cond.methodLink RX4 64 yX4_isIn, Cond.static yX4_isIn, Cond.code yX4_isIn cX4_isIn 3 (some .boolean), Cond.methodLink RX4 87 yX4_goes, Cond.instanceMethod yX4_goes, Cond.selects RX4 yX4_goes yX4_goes, Cond.code yX4_goes cX4_goes 2 (some .boolean), Cond.fieldLink RX4 57 "SettlementFundModel" "thrown" "I", Cond.methodLink RX4 124 yX4_roomOf, Cond.instanceMethod yX4_roomOf, Cond.selects RX4 yX4_roomOf yX4_roomOf, Cond.code yX4_roomOf cX4_roomOf 3 (some .int), Cond.fieldLink RX4 13 "SettlementFundModel" "caps" "[I", Cond.fieldLink RX4 19 "SettlementFundModel" "grades" "[I"]
def wsX4_room_r2 : List Cond := [Cond.methodLink RX4 107 yX4_paid, Cond.instanceMethod yX4_paid, Cond.selects RX4 yX4_paid yX4_paid, Cond.code yX4_paid cX4_paid 4 (some .int), Cond.fieldLink RX4 68 "SettlementFundModel" "payments" "I", Cond.fieldLink RX4 32 "SettlementFundModel" "paidTo" "[I", Cond.fieldLink RX4 41 "SettlementFundModel" "paymentStates" "[I", Cond.fieldLink RX4 35 "SettlementFundModel" "amounts" "[I"]
def wsX4_room : List Cond := .code yX4_room cX4_room 2 (some .int) :: ((wsX4_room_r1 ++ wsX4_room_r2) ++ wsX40)
def wsX4_paidTo_r1 : List Cond := [Cond.methodLink RX4 146 yX4_asks, Cond.instanceMethod yX4_asks, Cond.selects RX4 yX4_asks yX4_asks, Cond.initialized RX4, Cond.code yX4_asks cX4_asks 2 (some .boolean), Cond.methodLink RX4 101 yX4_isClaim, Cond.instanceMethod yX4_isClaim, Cond.selects RX4 yX4_isClaim yX4_isClaim, Cond.code yX4_isClaim cX4_isClaim 2 (some .boolean), Cond.fieldLink RX4 61 "SettlementFundModel" "claims" "I", Cond.methodLink RX4 64 yX4_isIn, Cond.static yX4_isIn, Cond.code yX4_isIn cX4_isIn 3 (some .boolean), Cond.methodLink RX4 87 yX4_goes, Cond.instanceMethod yX4_goes, Cond.selects RX4 yX4_goes yX4_goes, Cond.code yX4_goes cX4_goes 2 (some .boolean), Cond.fieldLink RX4 57 "SettlementFundModel" "thrown" "I", Cond.methodLink RX4 107 yX4_paid, Cond.instanceMethod yX4_paid, Cond.selects RX4 yX4_paid yX4_paid, Cond.code yX4_paid cX4_paid 4 (some .int), Cond.fieldLink RX4 68 "SettlementFundModel" "payments" "I", Cond.fieldLink RX4 32 "SettlementFundModel" "paidTo" "[I"]
def wsX4_paidTo_r2 : List Cond := [Cond.fieldLink RX4 41 "SettlementFundModel" "paymentStates" "[I", Cond.fieldLink RX4 35 "SettlementFundModel" "amounts" "[I"]
def wsX4_paidTo : List Cond := .code yX4_paidTo cX4_paidTo 2 (some .int) :: ((wsX4_paidTo_r1 ++ wsX4_paidTo_r2) ++ wsX40)
def wsX4_count : List Cond := .code yX4_count cX4_count 2 (some .int) :: ([.methodLink RX4 64 yX4_isIn, .static yX4_isIn, .initialized RX4, .code yX4_isIn cX4_isIn 3 (some .boolean), .methodLink RX4 87 yX4_goes, .instanceMethod yX4_goes, .selects RX4 yX4_goes yX4_goes, .code yX4_goes cX4_goes 2 (some .boolean), .fieldLink RX4 57 "SettlementFundModel" "thrown" "I", .methodLink RX4 104 yX4_countOf, .instanceMethod yX4_countOf, .selects RX4 yX4_countOf yX4_countOf, .code yX4_countOf cX4_countOf 4 (some .int), .fieldLink RX4 61 "SettlementFundModel" "claims" "I", .fieldLink RX4 22 "SettlementFundModel" "states" "[I"] ++ wsX40)
def wsX4_moneyLeft : List Cond := .code yX4_moneyLeft cX4_moneyLeft 1 (some .int) :: ([.fieldLink RX4 57 "SettlementFundModel" "thrown" "I", .methodLink RX4 91 yX4_left, .instanceMethod yX4_left, .selects RX4 yX4_left yX4_left, .initialized RX4, .code yX4_left cX4_left 3 (some .int), .fieldLink RX4 71 "SettlementFundModel" "sum" "I", .fieldLink RX4 83 "SettlementFundModel" "expenses" "I", .fieldLink RX4 68 "SettlementFundModel" "payments" "I", .fieldLink RX4 41 "SettlementFundModel" "paymentStates" "[I", .fieldLink RX4 35 "SettlementFundModel" "amounts" "[I", .methodLink RX4 79 yX4_feeNow, .instanceMethod yX4_feeNow, .selects RX4 yX4_feeNow yX4_feeNow, .code yX4_feeNow cX4_feeNow 1 (some .int), .fieldLink RX4 74 "SettlementFundModel" "fee" "I", .constantLong RX4 77 (1000)] ++ wsX40)
def wsX4_fee : List Cond := .code yX4_fee cX4_fee 1 (some .int) :: ([.fieldLink RX4 57 "SettlementFundModel" "thrown" "I", .methodLink RX4 79 yX4_feeNow, .instanceMethod yX4_feeNow, .selects RX4 yX4_feeNow yX4_feeNow, .initialized RX4, .code yX4_feeNow cX4_feeNow 1 (some .int), .fieldLink RX4 71 "SettlementFundModel" "sum" "I", .fieldLink RX4 74 "SettlementFundModel" "fee" "I", .constantLong RX4 77 (1000)] ++ wsX40)
def wsX4_payments : List Cond := .code yX4_payments cX4_payments 1 (some .int) :: ([.fieldLink RX4 57 "SettlementFundModel" "thrown" "I", .fieldLink RX4 68 "SettlementFundModel" "payments" "I"] ++ wsX40)
def wsX4_asksPayment : List Cond := .code yX4_asksPayment cX4_asksPayment 2 (some .boolean) :: ([.methodLink RX4 143 yX4_isPayment, .instanceMethod yX4_isPayment, .selects RX4 yX4_isPayment yX4_isPayment, .initialized RX4, .code yX4_isPayment cX4_isPayment 2 (some .boolean), .fieldLink RX4 68 "SettlementFundModel" "payments" "I", .methodLink RX4 64 yX4_isIn, .static yX4_isIn, .code yX4_isIn cX4_isIn 3 (some .boolean), .methodLink RX4 87 yX4_goes, .instanceMethod yX4_goes, .selects RX4 yX4_goes yX4_goes, .code yX4_goes cX4_goes 2 (some .boolean), .fieldLink RX4 57 "SettlementFundModel" "thrown" "I"] ++ wsX40)
def wsX4_paymentTo : List Cond := .code yX4_paymentTo cX4_paymentTo 2 (some .int) :: ([.fieldLink RX4 32 "SettlementFundModel" "paidTo" "[I", .methodLink RX4 149 yX4_asksPayment, .instanceMethod yX4_asksPayment, .selects RX4 yX4_asksPayment yX4_asksPayment, .initialized RX4, .code yX4_asksPayment cX4_asksPayment 2 (some .boolean), .methodLink RX4 143 yX4_isPayment, .instanceMethod yX4_isPayment, .selects RX4 yX4_isPayment yX4_isPayment, .code yX4_isPayment cX4_isPayment 2 (some .boolean), .fieldLink RX4 68 "SettlementFundModel" "payments" "I", .methodLink RX4 64 yX4_isIn, .static yX4_isIn, .code yX4_isIn cX4_isIn 3 (some .boolean), .methodLink RX4 87 yX4_goes, .instanceMethod yX4_goes, .selects RX4 yX4_goes yX4_goes, .code yX4_goes cX4_goes 2 (some .boolean), .fieldLink RX4 57 "SettlementFundModel" "thrown" "I"] ++ wsX40)
def wsX4_amountOf : List Cond := .code yX4_amountOf cX4_amountOf 2 (some .int) :: ([.fieldLink RX4 35 "SettlementFundModel" "amounts" "[I", .methodLink RX4 149 yX4_asksPayment, .instanceMethod yX4_asksPayment, .selects RX4 yX4_asksPayment yX4_asksPayment, .initialized RX4, .code yX4_asksPayment cX4_asksPayment 2 (some .boolean), .methodLink RX4 143 yX4_isPayment, .instanceMethod yX4_isPayment, .selects RX4 yX4_isPayment yX4_isPayment, .code yX4_isPayment cX4_isPayment 2 (some .boolean), .fieldLink RX4 68 "SettlementFundModel" "payments" "I", .methodLink RX4 64 yX4_isIn, .static yX4_isIn, .code yX4_isIn cX4_isIn 3 (some .boolean), .methodLink RX4 87 yX4_goes, .instanceMethod yX4_goes, .selects RX4 yX4_goes yX4_goes, .code yX4_goes cX4_goes 2 (some .boolean), .fieldLink RX4 57 "SettlementFundModel" "thrown" "I"] ++ wsX40)
def wsX4_paymentState : List Cond := .code yX4_paymentState cX4_paymentState 2 (some .int) :: ([.fieldLink RX4 41 "SettlementFundModel" "paymentStates" "[I", .methodLink RX4 149 yX4_asksPayment, .instanceMethod yX4_asksPayment, .selects RX4 yX4_asksPayment yX4_asksPayment, .initialized RX4, .code yX4_asksPayment cX4_asksPayment 2 (some .boolean), .methodLink RX4 143 yX4_isPayment, .instanceMethod yX4_isPayment, .selects RX4 yX4_isPayment yX4_isPayment, .code yX4_isPayment cX4_isPayment 2 (some .boolean), .fieldLink RX4 68 "SettlementFundModel" "payments" "I", .methodLink RX4 64 yX4_isIn, .static yX4_isIn, .code yX4_isIn cX4_isIn 3 (some .boolean), .methodLink RX4 87 yX4_goes, .instanceMethod yX4_goes, .selects RX4 yX4_goes yX4_goes, .code yX4_goes cX4_goes 2 (some .boolean), .fieldLink RX4 57 "SettlementFundModel" "thrown" "I"] ++ wsX40)
def wsX4_shareNow_r1 : List Cond := [Cond.constant RX4 135 (100000), Cond.fieldLink RX4 44 "SettlementFundModel" "takesPart" "[Z", Cond.fieldLink RX4 50 "SettlementFundModel" "shares" "[I", Cond.methodLink RX4 101 yX4_isClaim, Cond.instanceMethod yX4_isClaim, Cond.selects RX4 yX4_isClaim yX4_isClaim, Cond.initialized RX4, Cond.code yX4_isClaim cX4_isClaim 2 (some .boolean), Cond.fieldLink RX4 61 "SettlementFundModel" "claims" "I", Cond.methodLink RX4 64 yX4_isIn, Cond.static yX4_isIn, Cond.code yX4_isIn cX4_isIn 3 (some .boolean), Cond.methodLink RX4 87 yX4_goes, Cond.instanceMethod yX4_goes, Cond.selects RX4 yX4_goes yX4_goes, Cond.code yX4_goes cX4_goes 2 (some .boolean), Cond.fieldLink RX4 57 "SettlementFundModel" "thrown" "I", Cond.methodLink RX4 136 yX4_lays, Cond.instanceMethod yX4_lays, Cond.selects RX4 yX4_lays yX4_lays, Cond.code yX4_lays cX4_lays 4 none, Cond.fieldLink RX4 53 "SettlementFundModel" "rooms" "[I", Cond.fieldLink RX4 22 "SettlementFundModel" "states" "[I", Cond.methodLink RX4 91 yX4_left]
def wsX4_shareNow_r2 : List Cond := [Cond.instanceMethod yX4_left, Cond.selects RX4 yX4_left yX4_left, Cond.code yX4_left cX4_left 3 (some .int), Cond.fieldLink RX4 71 "SettlementFundModel" "sum" "I", Cond.fieldLink RX4 83 "SettlementFundModel" "expenses" "I", Cond.fieldLink RX4 68 "SettlementFundModel" "payments" "I", Cond.fieldLink RX4 41 "SettlementFundModel" "paymentStates" "[I", Cond.fieldLink RX4 35 "SettlementFundModel" "amounts" "[I", Cond.methodLink RX4 79 yX4_feeNow, Cond.instanceMethod yX4_feeNow, Cond.selects RX4 yX4_feeNow yX4_feeNow, Cond.code yX4_feeNow cX4_feeNow 1 (some .int), Cond.fieldLink RX4 74 "SettlementFundModel" "fee" "I", Cond.constantLong RX4 77 (1000), Cond.methodLink RX4 124 yX4_roomOf, Cond.instanceMethod yX4_roomOf, Cond.selects RX4 yX4_roomOf yX4_roomOf, Cond.code yX4_roomOf cX4_roomOf 3 (some .int), Cond.fieldLink RX4 13 "SettlementFundModel" "caps" "[I", Cond.fieldLink RX4 19 "SettlementFundModel" "grades" "[I", Cond.methodLink RX4 107 yX4_paid, Cond.instanceMethod yX4_paid, Cond.selects RX4 yX4_paid yX4_paid, Cond.code yX4_paid cX4_paid 4 (some .int)]
def wsX4_shareNow_r3 : List Cond := [Cond.fieldLink RX4 32 "SettlementFundModel" "paidTo" "[I", Cond.methodLink RX4 127 yX4_hasVoid, Cond.instanceMethod yX4_hasVoid, Cond.selects RX4 yX4_hasVoid yX4_hasVoid, Cond.code yX4_hasVoid cX4_hasVoid 4 (some .boolean), Cond.methodLink RX4 130 yX4_shares, Cond.instanceMethod yX4_shares, Cond.selects RX4 yX4_shares yX4_shares, Cond.code yX4_shares cX4_shares 4 none, Cond.fieldLink RX4 47 "SettlementFundModel" "isFull" "[Z", Cond.methodLink RX4 117 yX4_givesRooms, Cond.instanceMethod yX4_givesRooms, Cond.selects RX4 yX4_givesRooms yX4_givesRooms, Cond.code yX4_givesRooms cX4_givesRooms 7 (some .int), Cond.fieldLink RX4 7 "SettlementFundModel" "points" "[I", Cond.methodLink RX4 113 yX4_allPoints, Cond.instanceMethod yX4_allPoints, Cond.selects RX4 yX4_allPoints yX4_allPoints, Cond.code yX4_allPoints cX4_allPoints 4 (some .long), Cond.methodLink RX4 110 yX4_isLeft, Cond.instanceMethod yX4_isLeft, Cond.selects RX4 yX4_isLeft yX4_isLeft, Cond.code yX4_isLeft cX4_isLeft 2 (some .boolean), Cond.methodLink RX4 120 yX4_givesRest]
def wsX4_shareNow_r4 : List Cond := [Cond.instanceMethod yX4_givesRest, Cond.selects RX4 yX4_givesRest yX4_givesRest, Cond.code yX4_givesRest cX4_givesRest 7 none, Cond.methodLink RX4 132 yX4_lowest, Cond.instanceMethod yX4_lowest, Cond.selects RX4 yX4_lowest yX4_lowest, Cond.code yX4_lowest cX4_lowest 3 (some .int)]
def wsX4_shareNow : List Cond := .code yX4_shareNow cX4_shareNow 3 (some .int) :: ((wsX4_shareNow_r1 ++ (wsX4_shareNow_r2 ++ (wsX4_shareNow_r3 ++ wsX4_shareNow_r4))) ++ wsX40)
def wsX4_shareOf_r1 : List Cond := [Cond.methodLink RX4 152 yX4_shareNow, Cond.instanceMethod yX4_shareNow, Cond.selects RX4 yX4_shareNow yX4_shareNow, Cond.initialized RX4, Cond.code yX4_shareNow cX4_shareNow 3 (some .int), Cond.constant RX4 135 (100000), Cond.fieldLink RX4 44 "SettlementFundModel" "takesPart" "[Z", Cond.fieldLink RX4 50 "SettlementFundModel" "shares" "[I", Cond.methodLink RX4 101 yX4_isClaim, Cond.instanceMethod yX4_isClaim, Cond.selects RX4 yX4_isClaim yX4_isClaim, Cond.code yX4_isClaim cX4_isClaim 2 (some .boolean), Cond.fieldLink RX4 61 "SettlementFundModel" "claims" "I", Cond.methodLink RX4 64 yX4_isIn, Cond.static yX4_isIn, Cond.code yX4_isIn cX4_isIn 3 (some .boolean), Cond.methodLink RX4 87 yX4_goes, Cond.instanceMethod yX4_goes, Cond.selects RX4 yX4_goes yX4_goes, Cond.code yX4_goes cX4_goes 2 (some .boolean), Cond.fieldLink RX4 57 "SettlementFundModel" "thrown" "I", Cond.methodLink RX4 136 yX4_lays, Cond.instanceMethod yX4_lays, Cond.selects RX4 yX4_lays yX4_lays]
def wsX4_shareOf_r2 : List Cond := [Cond.code yX4_lays cX4_lays 4 none, Cond.fieldLink RX4 53 "SettlementFundModel" "rooms" "[I", Cond.fieldLink RX4 22 "SettlementFundModel" "states" "[I", Cond.methodLink RX4 91 yX4_left, Cond.instanceMethod yX4_left, Cond.selects RX4 yX4_left yX4_left, Cond.code yX4_left cX4_left 3 (some .int), Cond.fieldLink RX4 71 "SettlementFundModel" "sum" "I", Cond.fieldLink RX4 83 "SettlementFundModel" "expenses" "I", Cond.fieldLink RX4 68 "SettlementFundModel" "payments" "I", Cond.fieldLink RX4 41 "SettlementFundModel" "paymentStates" "[I", Cond.fieldLink RX4 35 "SettlementFundModel" "amounts" "[I", Cond.methodLink RX4 79 yX4_feeNow, Cond.instanceMethod yX4_feeNow, Cond.selects RX4 yX4_feeNow yX4_feeNow, Cond.code yX4_feeNow cX4_feeNow 1 (some .int), Cond.fieldLink RX4 74 "SettlementFundModel" "fee" "I", Cond.constantLong RX4 77 (1000), Cond.methodLink RX4 124 yX4_roomOf, Cond.instanceMethod yX4_roomOf, Cond.selects RX4 yX4_roomOf yX4_roomOf, Cond.code yX4_roomOf cX4_roomOf 3 (some .int), Cond.fieldLink RX4 13 "SettlementFundModel" "caps" "[I", Cond.fieldLink RX4 19 "SettlementFundModel" "grades" "[I"]
def wsX4_shareOf_r3 : List Cond := [Cond.methodLink RX4 107 yX4_paid, Cond.instanceMethod yX4_paid, Cond.selects RX4 yX4_paid yX4_paid, Cond.code yX4_paid cX4_paid 4 (some .int), Cond.fieldLink RX4 32 "SettlementFundModel" "paidTo" "[I", Cond.methodLink RX4 127 yX4_hasVoid, Cond.instanceMethod yX4_hasVoid, Cond.selects RX4 yX4_hasVoid yX4_hasVoid, Cond.code yX4_hasVoid cX4_hasVoid 4 (some .boolean), Cond.methodLink RX4 130 yX4_shares, Cond.instanceMethod yX4_shares, Cond.selects RX4 yX4_shares yX4_shares, Cond.code yX4_shares cX4_shares 4 none, Cond.fieldLink RX4 47 "SettlementFundModel" "isFull" "[Z", Cond.methodLink RX4 117 yX4_givesRooms, Cond.instanceMethod yX4_givesRooms, Cond.selects RX4 yX4_givesRooms yX4_givesRooms, Cond.code yX4_givesRooms cX4_givesRooms 7 (some .int), Cond.fieldLink RX4 7 "SettlementFundModel" "points" "[I", Cond.methodLink RX4 113 yX4_allPoints, Cond.instanceMethod yX4_allPoints, Cond.selects RX4 yX4_allPoints yX4_allPoints, Cond.code yX4_allPoints cX4_allPoints 4 (some .long), Cond.methodLink RX4 110 yX4_isLeft]
def wsX4_shareOf_r4 : List Cond := [Cond.instanceMethod yX4_isLeft, Cond.selects RX4 yX4_isLeft yX4_isLeft, Cond.code yX4_isLeft cX4_isLeft 2 (some .boolean), Cond.methodLink RX4 120 yX4_givesRest, Cond.instanceMethod yX4_givesRest, Cond.selects RX4 yX4_givesRest yX4_givesRest, Cond.code yX4_givesRest cX4_givesRest 7 none, Cond.methodLink RX4 132 yX4_lowest, Cond.instanceMethod yX4_lowest, Cond.selects RX4 yX4_lowest yX4_lowest, Cond.code yX4_lowest cX4_lowest 3 (some .int)]
def wsX4_shareOf : List Cond := .code yX4_shareOf cX4_shareOf 3 (some .int) :: ((wsX4_shareOf_r1 ++ (wsX4_shareOf_r2 ++ (wsX4_shareOf_r3 ++ wsX4_shareOf_r4))) ++ wsX40)
def wsX4_shareBySorting_r1 : List Cond := [Cond.methodLink RX4 152 yX4_shareNow, Cond.instanceMethod yX4_shareNow, Cond.selects RX4 yX4_shareNow yX4_shareNow, Cond.initialized RX4, Cond.code yX4_shareNow cX4_shareNow 3 (some .int), Cond.constant RX4 135 (100000), Cond.fieldLink RX4 44 "SettlementFundModel" "takesPart" "[Z", Cond.fieldLink RX4 50 "SettlementFundModel" "shares" "[I", Cond.methodLink RX4 101 yX4_isClaim, Cond.instanceMethod yX4_isClaim, Cond.selects RX4 yX4_isClaim yX4_isClaim, Cond.code yX4_isClaim cX4_isClaim 2 (some .boolean), Cond.fieldLink RX4 61 "SettlementFundModel" "claims" "I", Cond.methodLink RX4 64 yX4_isIn, Cond.static yX4_isIn, Cond.code yX4_isIn cX4_isIn 3 (some .boolean), Cond.methodLink RX4 87 yX4_goes, Cond.instanceMethod yX4_goes, Cond.selects RX4 yX4_goes yX4_goes, Cond.code yX4_goes cX4_goes 2 (some .boolean), Cond.fieldLink RX4 57 "SettlementFundModel" "thrown" "I", Cond.methodLink RX4 136 yX4_lays, Cond.instanceMethod yX4_lays, Cond.selects RX4 yX4_lays yX4_lays]
def wsX4_shareBySorting_r2 : List Cond := [Cond.code yX4_lays cX4_lays 4 none, Cond.fieldLink RX4 53 "SettlementFundModel" "rooms" "[I", Cond.fieldLink RX4 22 "SettlementFundModel" "states" "[I", Cond.methodLink RX4 91 yX4_left, Cond.instanceMethod yX4_left, Cond.selects RX4 yX4_left yX4_left, Cond.code yX4_left cX4_left 3 (some .int), Cond.fieldLink RX4 71 "SettlementFundModel" "sum" "I", Cond.fieldLink RX4 83 "SettlementFundModel" "expenses" "I", Cond.fieldLink RX4 68 "SettlementFundModel" "payments" "I", Cond.fieldLink RX4 41 "SettlementFundModel" "paymentStates" "[I", Cond.fieldLink RX4 35 "SettlementFundModel" "amounts" "[I", Cond.methodLink RX4 79 yX4_feeNow, Cond.instanceMethod yX4_feeNow, Cond.selects RX4 yX4_feeNow yX4_feeNow, Cond.code yX4_feeNow cX4_feeNow 1 (some .int), Cond.fieldLink RX4 74 "SettlementFundModel" "fee" "I", Cond.constantLong RX4 77 (1000), Cond.methodLink RX4 124 yX4_roomOf, Cond.instanceMethod yX4_roomOf, Cond.selects RX4 yX4_roomOf yX4_roomOf, Cond.code yX4_roomOf cX4_roomOf 3 (some .int), Cond.fieldLink RX4 13 "SettlementFundModel" "caps" "[I", Cond.fieldLink RX4 19 "SettlementFundModel" "grades" "[I"]
def wsX4_shareBySorting_r3 : List Cond := [Cond.methodLink RX4 107 yX4_paid, Cond.instanceMethod yX4_paid, Cond.selects RX4 yX4_paid yX4_paid, Cond.code yX4_paid cX4_paid 4 (some .int), Cond.fieldLink RX4 32 "SettlementFundModel" "paidTo" "[I", Cond.methodLink RX4 127 yX4_hasVoid, Cond.instanceMethod yX4_hasVoid, Cond.selects RX4 yX4_hasVoid yX4_hasVoid, Cond.code yX4_hasVoid cX4_hasVoid 4 (some .boolean), Cond.methodLink RX4 130 yX4_shares, Cond.instanceMethod yX4_shares, Cond.selects RX4 yX4_shares yX4_shares, Cond.code yX4_shares cX4_shares 4 none, Cond.fieldLink RX4 47 "SettlementFundModel" "isFull" "[Z", Cond.methodLink RX4 117 yX4_givesRooms, Cond.instanceMethod yX4_givesRooms, Cond.selects RX4 yX4_givesRooms yX4_givesRooms, Cond.code yX4_givesRooms cX4_givesRooms 7 (some .int), Cond.fieldLink RX4 7 "SettlementFundModel" "points" "[I", Cond.methodLink RX4 113 yX4_allPoints, Cond.instanceMethod yX4_allPoints, Cond.selects RX4 yX4_allPoints yX4_allPoints, Cond.code yX4_allPoints cX4_allPoints 4 (some .long), Cond.methodLink RX4 110 yX4_isLeft]
def wsX4_shareBySorting_r4 : List Cond := [Cond.instanceMethod yX4_isLeft, Cond.selects RX4 yX4_isLeft yX4_isLeft, Cond.code yX4_isLeft cX4_isLeft 2 (some .boolean), Cond.methodLink RX4 120 yX4_givesRest, Cond.instanceMethod yX4_givesRest, Cond.selects RX4 yX4_givesRest yX4_givesRest, Cond.code yX4_givesRest cX4_givesRest 7 none, Cond.methodLink RX4 132 yX4_lowest, Cond.instanceMethod yX4_lowest, Cond.selects RX4 yX4_lowest yX4_lowest, Cond.code yX4_lowest cX4_lowest 3 (some .int)]
def wsX4_shareBySorting : List Cond := .code yX4_shareBySorting cX4_shareBySorting 3 (some .int) :: ((wsX4_shareBySorting_r1 ++ (wsX4_shareBySorting_r2 ++ (wsX4_shareBySorting_r3 ++ wsX4_shareBySorting_r4))) ++ wsX40)
def wsJ9_max_7cf53 : List Cond := .code yJ9_max_7cf53 cJ9_max_7cf53 2 (some .int) :: ([])
def wsL_setFund_r1 : List Cond := [Cond.classLink RL 13 "java/lang/IllegalArgumentException", Cond.classLink RL 15 "java/lang/IllegalStateException", Cond.methodLink RL 7 yX3_setFund, Cond.instanceMethod yX3_setFund, Cond.selects RX3 yX3_setFund yX3_setFund, Cond.initialized RX3, Cond.code yX3_setFund cX3_setFund 4 (some .int), Cond.classLink RX3 43 "java/lang/IllegalArgumentException", Cond.initialized "java/lang/IllegalArgumentException", Cond.constant RX3 38 (10000000), Cond.constant RX3 37 (1000000), Cond.fieldLink RX3 53 "SettlementFund" "sum" "I", Cond.fieldLink RX3 57 "SettlementFund" "feeInThousandths" "I", Cond.fieldLink RX3 60 "SettlementFund" "expenses" "I", Cond.methodLink RX3 39 yX3_isOutside, Cond.static yX3_isOutside, Cond.code yX3_isOutside cX3_isOutside 3 (some .boolean), Cond.methodLink RX3 50 yX3_mustHaveNoPayments, Cond.instanceMethod yX3_mustHaveNoPayments, Cond.selects RX3 yX3_mustHaveNoPayments yX3_mustHaveNoPayments, Cond.code yX3_mustHaveNoPayments cX3_mustHaveNoPayments 1 none, Cond.classLink RX3 103 "java/lang/IllegalStateException", Cond.initialized "java/lang/IllegalStateException", Cond.fieldLink RX3 26 "SettlementFund" "paymentBook" "LSettlementFund$PaymentBook;"]
def wsL_setFund_r2 : List Cond := [Cond.fieldLink RX3 198 "SettlementFund$PaymentBook" "size" "I", Cond.methodLink RX3 63 yX3_moneyLeft, Cond.instanceMethod yX3_moneyLeft, Cond.selects RX3 yX3_moneyLeft yX3_moneyLeft, Cond.code yX3_moneyLeft cX3_moneyLeft 1 (some .int), Cond.methodLink RX3 190 yX3_fee, Cond.instanceMethod yX3_fee, Cond.selects RX3 yX3_fee yX3_fee, Cond.code yX3_fee cX3_fee 1 (some .int), Cond.constantLong RX3 196 (1000), Cond.methodLink RX3 193 yX1_sumOfAll, Cond.instanceMethod yX1_sumOfAll, Cond.selects RX1 yX1_sumOfAll yX1_sumOfAll, Cond.initialized RX1, Cond.code yX1_sumOfAll cX1_sumOfAll 3 (some .int), Cond.fieldLink RX1 24 "SettlementFund$PaymentBook" "size" "I", Cond.fieldLink RX1 18 "SettlementFund$PaymentBook" "state" "[I", Cond.fieldLink RX1 15 "SettlementFund$PaymentBook" "amount" "[I"]
def wsL_setFund : List Cond := .codeWith yL_setFund cL_setFund 6 (some .int) [(0, 12, 15, 13), (0, 12, 19, 15)] :: ((wsL_setFund_r1 ++ wsL_setFund_r2) ++ wsX30 ++ wsX10 ++ (vx_atS RX3 47 "java/lang/IllegalArgumentException" ["java/lang/RuntimeException", "java/lang/Exception"]).filter goodWord ++ (vx_atS RX3 107 "java/lang/IllegalStateException" ["java/lang/RuntimeException", "java/lang/Exception"]).filter goodWord)
def wsL_setGrade_r1 : List Cond := [Cond.classLink RL 21 "java/lang/IndexOutOfBoundsException", Cond.classLink RL 13 "java/lang/IllegalArgumentException", Cond.classLink RL 15 "java/lang/IllegalStateException", Cond.methodLink RL 17 yX3_setGrade, Cond.instanceMethod yX3_setGrade, Cond.selects RX3 yX3_setGrade yX3_setGrade, Cond.initialized RX3, Cond.code yX3_setGrade cX3_setGrade 4 none, Cond.classLink RX3 67 "java/lang/IndexOutOfBoundsException", Cond.initialized "java/lang/IndexOutOfBoundsException", Cond.classLink RX3 43 "java/lang/IllegalArgumentException", Cond.initialized "java/lang/IllegalArgumentException", Cond.constant RX3 37 (1000000), Cond.fieldLink RX3 9 "SettlementFund" "gradePoints" "[I", Cond.fieldLink RX3 13 "SettlementFund" "gradeCap" "[I", Cond.methodLink RX3 39 yX3_isOutside, Cond.static yX3_isOutside, Cond.code yX3_isOutside cX3_isOutside 3 (some .boolean), Cond.methodLink RX3 50 yX3_mustHaveNoPayments, Cond.instanceMethod yX3_mustHaveNoPayments, Cond.selects RX3 yX3_mustHaveNoPayments yX3_mustHaveNoPayments, Cond.code yX3_mustHaveNoPayments cX3_mustHaveNoPayments 1 none, Cond.classLink RX3 103 "java/lang/IllegalStateException", Cond.initialized "java/lang/IllegalStateException"]
def wsL_setGrade_r2 : List Cond := [Cond.fieldLink RX3 26 "SettlementFund" "paymentBook" "LSettlementFund$PaymentBook;", Cond.fieldLink RX3 198 "SettlementFund$PaymentBook" "size" "I"]
def wsL_setGrade : List Cond := .codeWith yL_setGrade cL_setGrade 5 (some .int) [(0, 7, 10, 21), (0, 7, 14, 13), (0, 7, 18, 15)] :: ((wsL_setGrade_r1 ++ wsL_setGrade_r2) ++ wsX30 ++ wsX10 ++ (vx_atS RX3 71 "java/lang/IndexOutOfBoundsException" ["java/lang/RuntimeException", "java/lang/Exception"]).filter goodWord ++ (vx_atS RX3 47 "java/lang/IllegalArgumentException" ["java/lang/RuntimeException", "java/lang/Exception"]).filter goodWord ++ (vx_atS RX3 107 "java/lang/IllegalStateException" ["java/lang/RuntimeException", "java/lang/Exception"]).filter goodWord)
def wsL_pass_r1 : List Cond := [Cond.classLink RL 13 "java/lang/IllegalArgumentException", Cond.methodLink RL 23 yX3_pass, Cond.instanceMethod yX3_pass, Cond.selects RX3 yX3_pass yX3_pass, Cond.initialized RX3, Cond.code yX3_pass cX3_pass 2 (some .int), Cond.classLink RX3 43 "java/lang/IllegalArgumentException", Cond.initialized "java/lang/IllegalArgumentException", Cond.fieldLink RX3 76 "SettlementFund" "day" "I", Cond.fieldLink RX3 19 "SettlementFund" "claimBook" "LSettlementFund$ClaimBook;", Cond.fieldLink RX3 26 "SettlementFund" "paymentBook" "LSettlementFund$PaymentBook;", Cond.methodLink RX3 39 yX3_isOutside, Cond.static yX3_isOutside, Cond.code yX3_isOutside cX3_isOutside 3 (some .boolean), Cond.methodLink RX3 79 yX0_denyLate, Cond.instanceMethod yX0_denyLate, Cond.selects RX0 yX0_denyLate yX0_denyLate, Cond.initialized RX0, Cond.code yX0_denyLate cX0_denyLate 3 none, Cond.fieldLink RX0 28 "SettlementFund$ClaimBook" "size" "I", Cond.fieldLink RX0 18 "SettlementFund$ClaimBook" "state" "[I", Cond.fieldLink RX0 21 "SettlementFund$ClaimBook" "deadline" "[I", Cond.methodLink RX3 83 yX1_voidLate, Cond.instanceMethod yX1_voidLate]
def wsL_pass_r2 : List Cond := [Cond.selects RX1 yX1_voidLate yX1_voidLate, Cond.initialized RX1, Cond.code yX1_voidLate cX1_voidLate 3 none, Cond.fieldLink RX1 24 "SettlementFund$PaymentBook" "size" "I", Cond.fieldLink RX1 18 "SettlementFund$PaymentBook" "state" "[I", Cond.fieldLink RX1 21 "SettlementFund$PaymentBook" "dayMade" "[I"]
def wsL_pass : List Cond := .codeWith yL_pass cL_pass 4 (some .int) [(0, 9, 12, 13)] :: ((wsL_pass_r1 ++ wsL_pass_r2) ++ wsX30 ++ wsX00 ++ wsX10 ++ (vx_atS RX3 47 "java/lang/IllegalArgumentException" ["java/lang/RuntimeException", "java/lang/Exception"]).filter goodWord)
def wsL_claim_r1 : List Cond := [Cond.classLink RL 21 "java/lang/IndexOutOfBoundsException", Cond.classLink RL 13 "java/lang/IllegalArgumentException", Cond.classLink RL 15 "java/lang/IllegalStateException", Cond.methodLink RL 27 yX3_claim, Cond.instanceMethod yX3_claim, Cond.selects RX3 yX3_claim yX3_claim, Cond.initialized RX3, Cond.code yX3_claim cX3_claim 6 (some .int), Cond.classLink RX3 67 "java/lang/IndexOutOfBoundsException", Cond.initialized "java/lang/IndexOutOfBoundsException", Cond.classLink RX3 43 "java/lang/IllegalArgumentException", Cond.initialized "java/lang/IllegalArgumentException", Cond.classLink RX3 103 "java/lang/IllegalStateException", Cond.initialized "java/lang/IllegalStateException", Cond.fieldLink RX3 19 "SettlementFund" "claimBook" "LSettlementFund$ClaimBook;", Cond.fieldLink RX3 88 "SettlementFund$ClaimBook" "ofPerson" "[I", Cond.fieldLink RX3 76 "SettlementFund" "day" "I", Cond.methodLink RX3 39 yX3_isOutside, Cond.static yX3_isOutside, Cond.code yX3_isOutside cX3_isOutside 3 (some .boolean), Cond.methodLink RX3 91 yX0_has, Cond.instanceMethod yX0_has, Cond.selects RX0 yX0_has yX0_has, Cond.initialized RX0]
def wsL_claim_r2 : List Cond := [Cond.code yX0_has cX0_has 2 (some .boolean), Cond.fieldLink RX0 28 "SettlementFund$ClaimBook" "size" "I", Cond.methodLink RX3 95 yX0_join, Cond.instanceMethod yX0_join, Cond.selects RX0 yX0_join yX0_join, Cond.code yX0_join cX0_join 4 none, Cond.fieldLink RX0 15 "SettlementFund$ClaimBook" "grade" "[I", Cond.methodLink RX0 32 Lib.Math.max.name, Cond.static Lib.Math.max.name, Cond.initialized "java/lang/Math", Cond.code Lib.Math.max.name Lib.Math.max.code 2 (some .int), Cond.fieldLink RX0 18 "SettlementFund$ClaimBook" "state" "[I", Cond.methodLink RX3 99 yX0_hasPlace, Cond.instanceMethod yX0_hasPlace, Cond.selects RX0 yX0_hasPlace yX0_hasPlace, Cond.code yX0_hasPlace cX0_hasPlace 1 (some .boolean), Cond.methodLink RX3 108 yX0_enter, Cond.instanceMethod yX0_enter, Cond.selects RX0 yX0_enter yX0_enter, Cond.code yX0_enter cX0_enter 6 (some .int), Cond.fieldLink RX0 9 "SettlementFund$ClaimBook" "ofPerson" "[I", Cond.fieldLink RX0 21 "SettlementFund$ClaimBook" "deadline" "[I"]
def wsL_claim : List Cond := .codeWith yL_claim cL_claim 7 (some .int) [(0, 14, 17, 21), (0, 14, 21, 13), (0, 14, 25, 15)] :: ((wsL_claim_r1 ++ wsL_claim_r2) ++ wsX30 ++ wsX00 ++ (vx_atS RX3 71 "java/lang/IndexOutOfBoundsException" ["java/lang/RuntimeException", "java/lang/Exception"]).filter goodWord ++ (vx_atS RX3 47 "java/lang/IllegalArgumentException" ["java/lang/RuntimeException", "java/lang/Exception"]).filter goodWord ++ (vx_atS RX3 107 "java/lang/IllegalStateException" ["java/lang/RuntimeException", "java/lang/Exception"]).filter goodWord)
def wsL_cure_r1 : List Cond := [Cond.classLink RL 21 "java/lang/IndexOutOfBoundsException", Cond.classLink RL 15 "java/lang/IllegalStateException", Cond.methodLink RL 31 yX3_cure, Cond.instanceMethod yX3_cure, Cond.selects RX3 yX3_cure yX3_cure, Cond.initialized RX3, Cond.code yX3_cure cX3_cure 2 (some .int), Cond.classLink RX3 103 "java/lang/IllegalStateException", Cond.initialized "java/lang/IllegalStateException", Cond.fieldLink RX3 19 "SettlementFund" "claimBook" "LSettlementFund$ClaimBook;", Cond.fieldLink RX3 115 "SettlementFund$ClaimBook" "state" "[I", Cond.fieldLink RX3 120 "SettlementFund$ClaimBook" "deadline" "[I", Cond.fieldLink RX3 76 "SettlementFund" "day" "I", Cond.methodLink RX3 112 yX3_mustBeClaim, Cond.instanceMethod yX3_mustBeClaim, Cond.selects RX3 yX3_mustBeClaim yX3_mustBeClaim, Cond.code yX3_mustBeClaim cX3_mustBeClaim 2 none, Cond.classLink RX3 67 "java/lang/IndexOutOfBoundsException", Cond.initialized "java/lang/IndexOutOfBoundsException", Cond.methodLink RX3 91 yX0_has, Cond.instanceMethod yX0_has, Cond.selects RX0 yX0_has yX0_has, Cond.initialized RX0, Cond.code yX0_has cX0_has 2 (some .boolean)]
def wsL_cure_r2 : List Cond := [Cond.fieldLink RX0 28 "SettlementFund$ClaimBook" "size" "I"]
def wsL_cure : List Cond := .codeWith yL_cure cL_cure 4 (some .int) [(0, 9, 12, 21), (0, 9, 15, 15)] :: ((wsL_cure_r1 ++ wsL_cure_r2) ++ wsX30 ++ wsX00 ++ (vx_atS RX3 107 "java/lang/IllegalStateException" ["java/lang/RuntimeException", "java/lang/Exception"]).filter goodWord ++ (vx_atS RX3 71 "java/lang/IndexOutOfBoundsException" ["java/lang/RuntimeException", "java/lang/Exception"]).filter goodWord)
def wsL_deny : List Cond := .codeWith yL_deny cL_deny 4 (some .int) [(0, 9, 12, 21), (0, 9, 15, 15)] :: ([.classLink RL 21 "java/lang/IndexOutOfBoundsException", .classLink RL 15 "java/lang/IllegalStateException", .methodLink RL 34 yX3_deny, .instanceMethod yX3_deny, .selects RX3 yX3_deny yX3_deny, .initialized RX3, .code yX3_deny cX3_deny 3 (some .int), .classLink RX3 103 "java/lang/IllegalStateException", .initialized "java/lang/IllegalStateException", .fieldLink RX3 19 "SettlementFund" "claimBook" "LSettlementFund$ClaimBook;", .fieldLink RX3 115 "SettlementFund$ClaimBook" "state" "[I", .methodLink RX3 112 yX3_mustBeClaim, .instanceMethod yX3_mustBeClaim, .selects RX3 yX3_mustBeClaim yX3_mustBeClaim, .code yX3_mustBeClaim cX3_mustBeClaim 2 none, .classLink RX3 67 "java/lang/IndexOutOfBoundsException", .initialized "java/lang/IndexOutOfBoundsException", .methodLink RX3 91 yX0_has, .instanceMethod yX0_has, .selects RX0 yX0_has yX0_has, .initialized RX0, .code yX0_has cX0_has 2 (some .boolean), .fieldLink RX0 28 "SettlementFund$ClaimBook" "size" "I"] ++ wsX30 ++ wsX00 ++ (vx_atS RX3 107 "java/lang/IllegalStateException" ["java/lang/RuntimeException", "java/lang/Exception"]).filter goodWord ++ (vx_atS RX3 71 "java/lang/IndexOutOfBoundsException" ["java/lang/RuntimeException", "java/lang/Exception"]).filter goodWord)
def wsL_object_r1 : List Cond := [Cond.classLink RL 21 "java/lang/IndexOutOfBoundsException", Cond.classLink RL 15 "java/lang/IllegalStateException", Cond.methodLink RL 37 yX3_object, Cond.instanceMethod yX3_object, Cond.selects RX3 yX3_object yX3_object, Cond.initialized RX3, Cond.code yX3_object cX3_object 2 (some .int), Cond.classLink RX3 103 "java/lang/IllegalStateException", Cond.initialized "java/lang/IllegalStateException", Cond.fieldLink RX3 19 "SettlementFund" "claimBook" "LSettlementFund$ClaimBook;", Cond.fieldLink RX3 115 "SettlementFund$ClaimBook" "state" "[I", Cond.fieldLink RX3 125 "SettlementFund$ClaimBook" "wasObjected" "[Z", Cond.methodLink RX3 112 yX3_mustBeClaim, Cond.instanceMethod yX3_mustBeClaim, Cond.selects RX3 yX3_mustBeClaim yX3_mustBeClaim, Cond.code yX3_mustBeClaim cX3_mustBeClaim 2 none, Cond.classLink RX3 67 "java/lang/IndexOutOfBoundsException", Cond.initialized "java/lang/IndexOutOfBoundsException", Cond.methodLink RX3 91 yX0_has, Cond.instanceMethod yX0_has, Cond.selects RX0 yX0_has yX0_has, Cond.initialized RX0, Cond.code yX0_has cX0_has 2 (some .boolean), Cond.fieldLink RX0 28 "SettlementFund$ClaimBook" "size" "I"]
def wsL_object_r2 : List Cond := [Cond.methodLink RX3 131 yX0_tally, Cond.instanceMethod yX0_tally, Cond.selects RX0 yX0_tally yX0_tally, Cond.code yX0_tally cX0_tally 4 (some .int), Cond.fieldLink RX0 18 "SettlementFund$ClaimBook" "state" "[I"]
def wsL_object : List Cond := .codeWith yL_object cL_object 4 (some .int) [(0, 9, 12, 21), (0, 9, 15, 15)] :: ((wsL_object_r1 ++ wsL_object_r2) ++ wsX30 ++ wsX00 ++ (vx_atS RX3 107 "java/lang/IllegalStateException" ["java/lang/RuntimeException", "java/lang/Exception"]).filter goodWord ++ (vx_atS RX3 71 "java/lang/IndexOutOfBoundsException" ["java/lang/RuntimeException", "java/lang/Exception"]).filter goodWord)
def wsL_decide_r1 : List Cond := [Cond.classLink RL 21 "java/lang/IndexOutOfBoundsException", Cond.classLink RL 15 "java/lang/IllegalStateException", Cond.methodLink RL 40 yX3_decide, Cond.instanceMethod yX3_decide, Cond.selects RX3 yX3_decide yX3_decide, Cond.initialized RX3, Cond.code yX3_decide cX3_decide 3 (some .int), Cond.classLink RX3 103 "java/lang/IllegalStateException", Cond.initialized "java/lang/IllegalStateException", Cond.fieldLink RX3 19 "SettlementFund" "claimBook" "LSettlementFund$ClaimBook;", Cond.fieldLink RX3 115 "SettlementFund$ClaimBook" "state" "[I", Cond.methodLink RX3 112 yX3_mustBeClaim, Cond.instanceMethod yX3_mustBeClaim, Cond.selects RX3 yX3_mustBeClaim yX3_mustBeClaim, Cond.code yX3_mustBeClaim cX3_mustBeClaim 2 none, Cond.classLink RX3 67 "java/lang/IndexOutOfBoundsException", Cond.initialized "java/lang/IndexOutOfBoundsException", Cond.methodLink RX3 91 yX0_has, Cond.instanceMethod yX0_has, Cond.selects RX0 yX0_has yX0_has, Cond.initialized RX0, Cond.code yX0_has cX0_has 2 (some .boolean), Cond.fieldLink RX0 28 "SettlementFund$ClaimBook" "size" "I", Cond.methodLink RX3 131 yX0_tally]
def wsL_decide_r2 : List Cond := [Cond.instanceMethod yX0_tally, Cond.selects RX0 yX0_tally yX0_tally, Cond.code yX0_tally cX0_tally 4 (some .int), Cond.fieldLink RX0 18 "SettlementFund$ClaimBook" "state" "[I"]
def wsL_decide : List Cond := .codeWith yL_decide cL_decide 5 (some .int) [(0, 10, 13, 21), (0, 10, 17, 15)] :: ((wsL_decide_r1 ++ wsL_decide_r2) ++ wsX30 ++ wsX00 ++ (vx_atS RX3 107 "java/lang/IllegalStateException" ["java/lang/RuntimeException", "java/lang/Exception"]).filter goodWord ++ (vx_atS RX3 71 "java/lang/IndexOutOfBoundsException" ["java/lang/RuntimeException", "java/lang/Exception"]).filter goodWord)
def wsL_round_r1 : List Cond := [Cond.classLink RL 13 "java/lang/IllegalArgumentException", Cond.classLink RL 15 "java/lang/IllegalStateException", Cond.methodLink RL 44 yX3_round, Cond.instanceMethod yX3_round, Cond.selects RX3 yX3_round yX3_round, Cond.initialized RX3, Cond.code yX3_round cX3_round 3 (some .int), Cond.classLink RX3 103 "java/lang/IllegalStateException", Cond.initialized "java/lang/IllegalStateException", Cond.fieldLink RX3 19 "SettlementFund" "claimBook" "LSettlementFund$ClaimBook;", Cond.fieldLink RX3 26 "SettlementFund" "paymentBook" "LSettlementFund$PaymentBook;", Cond.fieldLink RX3 33 "SettlementFund" "sharing" "LSettlementFund$Sharing;", Cond.methodLink RX3 137 yX3_mustBeLeast, Cond.instanceMethod yX3_mustBeLeast, Cond.selects RX3 yX3_mustBeLeast yX3_mustBeLeast, Cond.code yX3_mustBeLeast cX3_mustBeLeast 2 none, Cond.classLink RX3 43 "java/lang/IllegalArgumentException", Cond.initialized "java/lang/IllegalArgumentException", Cond.constant RX3 211 (100000), Cond.methodLink RX3 39 yX3_isOutside, Cond.static yX3_isOutside, Cond.code yX3_isOutside cX3_isOutside 3 (some .boolean), Cond.methodLink RX3 131 yX0_tally, Cond.instanceMethod yX0_tally]
def wsL_round_r2 : List Cond := [Cond.selects RX0 yX0_tally yX0_tally, Cond.initialized RX0, Cond.code yX0_tally cX0_tally 4 (some .int), Cond.fieldLink RX0 28 "SettlementFund$ClaimBook" "size" "I", Cond.fieldLink RX0 18 "SettlementFund$ClaimBook" "state" "[I", Cond.methodLink RX3 142 yX1_hasOpen, Cond.instanceMethod yX1_hasOpen, Cond.selects RX1 yX1_hasOpen yX1_hasOpen, Cond.initialized RX1, Cond.code yX1_hasOpen cX1_hasOpen 2 (some .boolean), Cond.fieldLink RX1 24 "SettlementFund$PaymentBook" "size" "I", Cond.fieldLink RX1 18 "SettlementFund$PaymentBook" "state" "[I", Cond.methodLink RX3 63 yX3_moneyLeft, Cond.instanceMethod yX3_moneyLeft, Cond.selects RX3 yX3_moneyLeft yX3_moneyLeft, Cond.code yX3_moneyLeft cX3_moneyLeft 1 (some .int), Cond.fieldLink RX3 53 "SettlementFund" "sum" "I", Cond.fieldLink RX3 60 "SettlementFund" "expenses" "I", Cond.methodLink RX3 190 yX3_fee, Cond.instanceMethod yX3_fee, Cond.selects RX3 yX3_fee yX3_fee, Cond.code yX3_fee cX3_fee 1 (some .int), Cond.fieldLink RX3 57 "SettlementFund" "feeInThousandths" "I", Cond.constantLong RX3 196 (1000)]
def wsL_round_r3 : List Cond := [Cond.methodLink RX3 193 yX1_sumOfAll, Cond.instanceMethod yX1_sumOfAll, Cond.selects RX1 yX1_sumOfAll yX1_sumOfAll, Cond.code yX1_sumOfAll cX1_sumOfAll 3 (some .int), Cond.fieldLink RX1 15 "SettlementFund$PaymentBook" "amount" "[I", Cond.methodLink RX3 149 yX3_shareMoneyLeft, Cond.instanceMethod yX3_shareMoneyLeft, Cond.selects RX3 yX3_shareMoneyLeft yX3_shareMoneyLeft, Cond.code yX3_shareMoneyLeft cX3_shareMoneyLeft 5 none, Cond.fieldLink RX3 173 "SettlementFund$ClaimBook" "size" "I", Cond.fieldLink RX3 9 "SettlementFund" "gradePoints" "[I", Cond.fieldLink RX3 178 "SettlementFund$ClaimBook" "grade" "[I", Cond.methodLink RX3 219 yX2_clear, Cond.instanceMethod yX2_clear, Cond.selects RX2 yX2_clear yX2_clear, Cond.initialized RX2, Cond.code yX2_clear cX2_clear 1 none, Cond.fieldLink RX2 28 "SettlementFund$Sharing" "size" "I", Cond.methodLink RX3 222 yX3_takesPart, Cond.instanceMethod yX3_takesPart, Cond.selects RX3 yX3_takesPart yX3_takesPart, Cond.code yX3_takesPart cX3_takesPart 2 (some .boolean), Cond.fieldLink RX3 115 "SettlementFund$ClaimBook" "state" "[I", Cond.methodLink RX3 225 yX3_room]
def wsL_round_r4 : List Cond := [Cond.instanceMethod yX3_room, Cond.selects RX3 yX3_room yX3_room, Cond.code yX3_room cX3_room 3 (some .int), Cond.fieldLink RX3 13 "SettlementFund" "gradeCap" "[I", Cond.methodLink RX3 112 yX3_mustBeClaim, Cond.instanceMethod yX3_mustBeClaim, Cond.selects RX3 yX3_mustBeClaim yX3_mustBeClaim, Cond.code yX3_mustBeClaim cX3_mustBeClaim 2 none, Cond.classLink RX3 67 "java/lang/IndexOutOfBoundsException", Cond.initialized "java/lang/IndexOutOfBoundsException", Cond.methodLink RX3 91 yX0_has, Cond.instanceMethod yX0_has, Cond.selects RX0 yX0_has yX0_has, Cond.code yX0_has cX0_has 2 (some .boolean), Cond.methodLink RX3 181 yX3_valueAt, Cond.static yX3_valueAt, Cond.code yX3_valueAt cX3_valueAt 2 (some .int), Cond.methodLink RX3 185 yX1_sumFor, Cond.instanceMethod yX1_sumFor, Cond.selects RX1 yX1_sumFor yX1_sumFor, Cond.code yX1_sumFor cX1_sumFor 4 (some .int), Cond.fieldLink RX1 9 "SettlementFund$PaymentBook" "claim" "[I", Cond.methodLink RX3 235 yX1_hasVoidFor, Cond.instanceMethod yX1_hasVoidFor]
def wsL_round_r5 : List Cond := [Cond.selects RX1 yX1_hasVoidFor yX1_hasVoidFor, Cond.code yX1_hasVoidFor cX1_hasVoidFor 3 (some .boolean), Cond.methodLink RX3 228 yX2_add, Cond.instanceMethod yX2_add, Cond.selects RX2 yX2_add yX2_add, Cond.code yX2_add cX2_add 4 none, Cond.fieldLink RX2 9 "SettlementFund$Sharing" "claim" "[I", Cond.fieldLink RX2 15 "SettlementFund$Sharing" "points" "[I", Cond.fieldLink RX2 18 "SettlementFund$Sharing" "room" "[I", Cond.methodLink RX3 232 yX2_shareOut, Cond.instanceMethod yX2_shareOut, Cond.selects RX2 yX2_shareOut yX2_shareOut, Cond.code yX2_shareOut cX2_shareOut 6 none, Cond.fieldLink RX2 21 "SettlementFund$Sharing" "share" "[I", Cond.methodLink RX2 32 yX2_sortByRoomPerPoint, Cond.instanceMethod yX2_sortByRoomPerPoint, Cond.selects RX2 yX2_sortByRoomPerPoint yX2_sortByRoomPerPoint, Cond.code yX2_sortByRoomPerPoint cX2_sortByRoomPerPoint 3 none, Cond.methodLink RX2 78 yX2_hasLessRoomPerPoint, Cond.instanceMethod yX2_hasLessRoomPerPoint, Cond.selects RX2 yX2_hasLessRoomPerPoint yX2_hasLessRoomPerPoint, Cond.code yX2_hasLessRoomPerPoint cX2_hasLessRoomPerPoint 3 (some .boolean), Cond.methodLink RX2 82 yX2_swapPlaces, Cond.instanceMethod yX2_swapPlaces]
def wsL_round_r6 : List Cond := [Cond.selects RX2 yX2_swapPlaces yX2_swapPlaces, Cond.code yX2_swapPlaces cX2_swapPlaces 6 none, Cond.methodLink RX2 74 yX2_copyPlace, Cond.instanceMethod yX2_copyPlace, Cond.selects RX2 yX2_copyPlace yX2_copyPlace, Cond.code yX2_copyPlace cX2_copyPlace 3 none, Cond.methodLink RX2 35 yX2_shareOnce, Cond.instanceMethod yX2_shareOnce, Cond.selects RX2 yX2_shareOnce yX2_shareOnce, Cond.code yX2_shareOnce cX2_shareOnce 4 none, Cond.fieldLink RX2 47 "SettlementFund$Sharing" "restMoney" "J", Cond.fieldLink RX2 51 "SettlementFund$Sharing" "restPoints" "J", Cond.fieldLink RX2 24 "SettlementFund$Sharing" "isFull" "[Z", Cond.methodLink RX2 54 yX2_fillFromFront, Cond.instanceMethod yX2_fillFromFront, Cond.selects RX2 yX2_fillFromFront yX2_fillFromFront, Cond.code yX2_fillFromFront cX2_fillFromFront 2 none, Cond.methodLink RX2 63 yX2_reachesRoom, Cond.instanceMethod yX2_reachesRoom, Cond.selects RX2 yX2_reachesRoom yX2_reachesRoom, Cond.code yX2_reachesRoom cX2_reachesRoom 6 (some .boolean), Cond.methodLink RX2 67 yX2_fill, Cond.instanceMethod yX2_fill, Cond.selects RX2 yX2_fill yX2_fill]
def wsL_round_r7 : List Cond := [Cond.code yX2_fill cX2_fill 2 none, Cond.methodLink RX2 57 yX2_fillInLooks, Cond.instanceMethod yX2_fillInLooks, Cond.selects RX2 yX2_fillInLooks yX2_fillInLooks, Cond.code yX2_fillInLooks cX2_fillInLooks 8 none, Cond.methodLink RX2 60 yX2_shareRestByPoints, Cond.instanceMethod yX2_shareRestByPoints, Cond.selects RX2 yX2_shareRestByPoints yX2_shareRestByPoints, Cond.code yX2_shareRestByPoints cX2_shareRestByPoints 4 none, Cond.methodLink RX2 70 yX2_notFullBelow, Cond.instanceMethod yX2_notFullBelow, Cond.selects RX2 yX2_notFullBelow yX2_notFullBelow, Cond.code yX2_notFullBelow cX2_notFullBelow 4 (some .int), Cond.methodLink RX2 39 yX2_placeOfSmallest, Cond.instanceMethod yX2_placeOfSmallest, Cond.selects RX2 yX2_placeOfSmallest yX2_placeOfSmallest, Cond.code yX2_placeOfSmallest cX2_placeOfSmallest 3 (some .int), Cond.methodLink RX2 43 yX2_takeOut, Cond.instanceMethod yX2_takeOut, Cond.selects RX2 yX2_takeOut yX2_takeOut, Cond.code yX2_takeOut cX2_takeOut 3 none, Cond.methodLink RX3 153 yX2_gainers, Cond.instanceMethod yX2_gainers, Cond.selects RX2 yX2_gainers yX2_gainers]
def wsL_round_r8 : List Cond := [Cond.code yX2_gainers cX2_gainers 3 (some .int), Cond.methodLink RX3 156 yX1_hasPlacesFor, Cond.instanceMethod yX1_hasPlacesFor, Cond.selects RX1 yX1_hasPlacesFor yX1_hasPlacesFor, Cond.code yX1_hasPlacesFor cX1_hasPlacesFor 2 (some .boolean), Cond.methodLink RX3 161 yX3_makePayments, Cond.instanceMethod yX3_makePayments, Cond.selects RX3 yX3_makePayments yX3_makePayments, Cond.code yX3_makePayments cX3_makePayments 3 none, Cond.fieldLink RX3 76 "SettlementFund" "day" "I", Cond.methodLink RX3 216 yX2_shareGivenTo, Cond.instanceMethod yX2_shareGivenTo, Cond.selects RX2 yX2_shareGivenTo yX2_shareGivenTo, Cond.code yX2_shareGivenTo cX2_shareGivenTo 3 (some .int), Cond.methodLink RX3 238 yX1_add, Cond.instanceMethod yX1_add, Cond.selects RX1 yX1_add yX1_add, Cond.code yX1_add cX1_add 4 none, Cond.fieldLink RX1 21 "SettlementFund$PaymentBook" "dayMade" "[I", Cond.methodLink RX1 28 yX1_hasPlacesFor]
def wsL_round : List Cond := .codeWith yL_round cL_round 4 (some .int) [(0, 9, 12, 13), (0, 9, 15, 15)] :: ((wsL_round_r1 ++ (wsL_round_r2 ++ (wsL_round_r3 ++ (wsL_round_r4 ++ (wsL_round_r5 ++ (wsL_round_r6 ++ (wsL_round_r7 ++ wsL_round_r8))))))) ++ wsX30 ++ wsX00 ++ wsX10 ++ wsX20 ++ (vx_atS RX3 107 "java/lang/IllegalStateException" ["java/lang/RuntimeException", "java/lang/Exception"]).filter goodWord ++ (vx_atS RX3 47 "java/lang/IllegalArgumentException" ["java/lang/RuntimeException", "java/lang/Exception"]).filter goodWord ++ (vx_atS RX3 71 "java/lang/IndexOutOfBoundsException" ["java/lang/RuntimeException", "java/lang/Exception"]).filter goodWord)
def wsL_cash : List Cond := .codeWith yL_cash cL_cash 4 (some .int) [(0, 9, 12, 21), (0, 9, 15, 15)] :: ([.classLink RL 21 "java/lang/IndexOutOfBoundsException", .classLink RL 15 "java/lang/IllegalStateException", .methodLink RL 47 yX3_cash, .instanceMethod yX3_cash, .selects RX3 yX3_cash yX3_cash, .initialized RX3, .code yX3_cash cX3_cash 2 (some .int), .classLink RX3 103 "java/lang/IllegalStateException", .initialized "java/lang/IllegalStateException", .fieldLink RX3 26 "SettlementFund" "paymentBook" "LSettlementFund$PaymentBook;", .fieldLink RX3 167 "SettlementFund$PaymentBook" "state" "[I", .fieldLink RX3 170 "SettlementFund$PaymentBook" "amount" "[I", .methodLink RX3 164 yX3_mustBePayment, .instanceMethod yX3_mustBePayment, .selects RX3 yX3_mustBePayment yX3_mustBePayment, .code yX3_mustBePayment cX3_mustBePayment 2 none, .classLink RX3 67 "java/lang/IndexOutOfBoundsException", .initialized "java/lang/IndexOutOfBoundsException", .methodLink RX3 208 yX1_has, .instanceMethod yX1_has, .selects RX1 yX1_has yX1_has, .initialized RX1, .code yX1_has cX1_has 2 (some .boolean), .fieldLink RX1 24 "SettlementFund$PaymentBook" "size" "I"] ++ wsX30 ++ wsX10 ++ (vx_atS RX3 107 "java/lang/IllegalStateException" ["java/lang/RuntimeException", "java/lang/Exception"]).filter goodWord ++ (vx_atS RX3 71 "java/lang/IndexOutOfBoundsException" ["java/lang/RuntimeException", "java/lang/Exception"]).filter goodWord)
def wsL_claimOf : List Cond := .codeWith yL_claimOf cL_claimOf 4 (some .int) [(0, 9, 12, 21)] :: ([.classLink RL 21 "java/lang/IndexOutOfBoundsException", .methodLink RL 50 yX3_claimOf, .instanceMethod yX3_claimOf, .selects RX3 yX3_claimOf yX3_claimOf, .initialized RX3, .code yX3_claimOf cX3_claimOf 2 (some .int), .classLink RX3 67 "java/lang/IndexOutOfBoundsException", .initialized "java/lang/IndexOutOfBoundsException", .fieldLink RX3 19 "SettlementFund" "claimBook" "LSettlementFund$ClaimBook;", .fieldLink RX3 88 "SettlementFund$ClaimBook" "ofPerson" "[I", .methodLink RX3 39 yX3_isOutside, .static yX3_isOutside, .code yX3_isOutside cX3_isOutside 3 (some .boolean)] ++ wsX30 ++ wsX00 ++ (vx_atS RX3 71 "java/lang/IndexOutOfBoundsException" ["java/lang/RuntimeException", "java/lang/Exception"]).filter goodWord)
def wsL_stateOf : List Cond := .codeWith yL_stateOf cL_stateOf 4 (some .int) [(0, 9, 12, 21)] :: ([.classLink RL 21 "java/lang/IndexOutOfBoundsException", .methodLink RL 53 yX3_stateOf, .instanceMethod yX3_stateOf, .selects RX3 yX3_stateOf yX3_stateOf, .initialized RX3, .code yX3_stateOf cX3_stateOf 2 (some .int), .fieldLink RX3 19 "SettlementFund" "claimBook" "LSettlementFund$ClaimBook;", .fieldLink RX3 115 "SettlementFund$ClaimBook" "state" "[I", .methodLink RX3 112 yX3_mustBeClaim, .instanceMethod yX3_mustBeClaim, .selects RX3 yX3_mustBeClaim yX3_mustBeClaim, .code yX3_mustBeClaim cX3_mustBeClaim 2 none, .classLink RX3 67 "java/lang/IndexOutOfBoundsException", .initialized "java/lang/IndexOutOfBoundsException", .methodLink RX3 91 yX0_has, .instanceMethod yX0_has, .selects RX0 yX0_has yX0_has, .initialized RX0, .code yX0_has cX0_has 2 (some .boolean), .fieldLink RX0 28 "SettlementFund$ClaimBook" "size" "I"] ++ wsX30 ++ wsX00 ++ (vx_atS RX3 71 "java/lang/IndexOutOfBoundsException" ["java/lang/RuntimeException", "java/lang/Exception"]).filter goodWord)
def wsL_gradeOf : List Cond := .codeWith yL_gradeOf cL_gradeOf 4 (some .int) [(0, 9, 12, 21)] :: ([.classLink RL 21 "java/lang/IndexOutOfBoundsException", .methodLink RL 56 yX3_gradeOf, .instanceMethod yX3_gradeOf, .selects RX3 yX3_gradeOf yX3_gradeOf, .initialized RX3, .code yX3_gradeOf cX3_gradeOf 2 (some .int), .fieldLink RX3 19 "SettlementFund" "claimBook" "LSettlementFund$ClaimBook;", .fieldLink RX3 178 "SettlementFund$ClaimBook" "grade" "[I", .methodLink RX3 112 yX3_mustBeClaim, .instanceMethod yX3_mustBeClaim, .selects RX3 yX3_mustBeClaim yX3_mustBeClaim, .code yX3_mustBeClaim cX3_mustBeClaim 2 none, .classLink RX3 67 "java/lang/IndexOutOfBoundsException", .initialized "java/lang/IndexOutOfBoundsException", .methodLink RX3 91 yX0_has, .instanceMethod yX0_has, .selects RX0 yX0_has yX0_has, .initialized RX0, .code yX0_has cX0_has 2 (some .boolean), .fieldLink RX0 28 "SettlementFund$ClaimBook" "size" "I"] ++ wsX30 ++ wsX00 ++ (vx_atS RX3 71 "java/lang/IndexOutOfBoundsException" ["java/lang/RuntimeException", "java/lang/Exception"]).filter goodWord)
def wsL_room_r1 : List Cond := [Cond.classLink RL 21 "java/lang/IndexOutOfBoundsException", Cond.methodLink RL 59 yX3_room, Cond.instanceMethod yX3_room, Cond.selects RX3 yX3_room yX3_room, Cond.initialized RX3, Cond.code yX3_room cX3_room 3 (some .int), Cond.fieldLink RX3 13 "SettlementFund" "gradeCap" "[I", Cond.fieldLink RX3 19 "SettlementFund" "claimBook" "LSettlementFund$ClaimBook;", Cond.fieldLink RX3 178 "SettlementFund$ClaimBook" "grade" "[I", Cond.fieldLink RX3 26 "SettlementFund" "paymentBook" "LSettlementFund$PaymentBook;", Cond.methodLink RX3 112 yX3_mustBeClaim, Cond.instanceMethod yX3_mustBeClaim, Cond.selects RX3 yX3_mustBeClaim yX3_mustBeClaim, Cond.code yX3_mustBeClaim cX3_mustBeClaim 2 none, Cond.classLink RX3 67 "java/lang/IndexOutOfBoundsException", Cond.initialized "java/lang/IndexOutOfBoundsException", Cond.methodLink RX3 91 yX0_has, Cond.instanceMethod yX0_has, Cond.selects RX0 yX0_has yX0_has, Cond.initialized RX0, Cond.code yX0_has cX0_has 2 (some .boolean), Cond.fieldLink RX0 28 "SettlementFund$ClaimBook" "size" "I", Cond.methodLink RX3 181 yX3_valueAt, Cond.static yX3_valueAt]
def wsL_room_r2 : List Cond := [Cond.code yX3_valueAt cX3_valueAt 2 (some .int), Cond.methodLink RX3 185 yX1_sumFor, Cond.instanceMethod yX1_sumFor, Cond.selects RX1 yX1_sumFor yX1_sumFor, Cond.initialized RX1, Cond.code yX1_sumFor cX1_sumFor 4 (some .int), Cond.fieldLink RX1 24 "SettlementFund$PaymentBook" "size" "I", Cond.fieldLink RX1 9 "SettlementFund$PaymentBook" "claim" "[I", Cond.fieldLink RX1 18 "SettlementFund$PaymentBook" "state" "[I", Cond.fieldLink RX1 15 "SettlementFund$PaymentBook" "amount" "[I"]
def wsL_room : List Cond := .codeWith yL_room cL_room 4 (some .int) [(0, 9, 12, 21)] :: ((wsL_room_r1 ++ wsL_room_r2) ++ wsX30 ++ wsX00 ++ wsX10 ++ (vx_atS RX3 71 "java/lang/IndexOutOfBoundsException" ["java/lang/RuntimeException", "java/lang/Exception"]).filter goodWord)
def wsL_paidTo_r1 : List Cond := [Cond.classLink RL 21 "java/lang/IndexOutOfBoundsException", Cond.methodLink RL 62 yX3_paidTo, Cond.instanceMethod yX3_paidTo, Cond.selects RX3 yX3_paidTo yX3_paidTo, Cond.initialized RX3, Cond.code yX3_paidTo cX3_paidTo 2 (some .int), Cond.fieldLink RX3 26 "SettlementFund" "paymentBook" "LSettlementFund$PaymentBook;", Cond.methodLink RX3 112 yX3_mustBeClaim, Cond.instanceMethod yX3_mustBeClaim, Cond.selects RX3 yX3_mustBeClaim yX3_mustBeClaim, Cond.code yX3_mustBeClaim cX3_mustBeClaim 2 none, Cond.classLink RX3 67 "java/lang/IndexOutOfBoundsException", Cond.initialized "java/lang/IndexOutOfBoundsException", Cond.fieldLink RX3 19 "SettlementFund" "claimBook" "LSettlementFund$ClaimBook;", Cond.methodLink RX3 91 yX0_has, Cond.instanceMethod yX0_has, Cond.selects RX0 yX0_has yX0_has, Cond.initialized RX0, Cond.code yX0_has cX0_has 2 (some .boolean), Cond.fieldLink RX0 28 "SettlementFund$ClaimBook" "size" "I", Cond.methodLink RX3 185 yX1_sumFor, Cond.instanceMethod yX1_sumFor, Cond.selects RX1 yX1_sumFor yX1_sumFor, Cond.initialized RX1]
def wsL_paidTo_r2 : List Cond := [Cond.code yX1_sumFor cX1_sumFor 4 (some .int), Cond.fieldLink RX1 24 "SettlementFund$PaymentBook" "size" "I", Cond.fieldLink RX1 9 "SettlementFund$PaymentBook" "claim" "[I", Cond.fieldLink RX1 18 "SettlementFund$PaymentBook" "state" "[I", Cond.fieldLink RX1 15 "SettlementFund$PaymentBook" "amount" "[I"]
def wsL_paidTo : List Cond := .codeWith yL_paidTo cL_paidTo 4 (some .int) [(0, 9, 12, 21)] :: ((wsL_paidTo_r1 ++ wsL_paidTo_r2) ++ wsX30 ++ wsX00 ++ wsX10 ++ (vx_atS RX3 71 "java/lang/IndexOutOfBoundsException" ["java/lang/RuntimeException", "java/lang/Exception"]).filter goodWord)
def wsL_count : List Cond := .codeWith yL_count cL_count 4 (some .int) [(0, 9, 12, 13)] :: ([.classLink RL 13 "java/lang/IllegalArgumentException", .methodLink RL 65 yX3_count, .instanceMethod yX3_count, .selects RX3 yX3_count yX3_count, .initialized RX3, .code yX3_count cX3_count 2 (some .int), .classLink RX3 43 "java/lang/IllegalArgumentException", .initialized "java/lang/IllegalArgumentException", .fieldLink RX3 19 "SettlementFund" "claimBook" "LSettlementFund$ClaimBook;", .methodLink RX3 39 yX3_isOutside, .static yX3_isOutside, .code yX3_isOutside cX3_isOutside 3 (some .boolean), .methodLink RX3 131 yX0_tally, .instanceMethod yX0_tally, .selects RX0 yX0_tally yX0_tally, .initialized RX0, .code yX0_tally cX0_tally 4 (some .int), .fieldLink RX0 28 "SettlementFund$ClaimBook" "size" "I", .fieldLink RX0 18 "SettlementFund$ClaimBook" "state" "[I"] ++ wsX30 ++ wsX00 ++ (vx_atS RX3 47 "java/lang/IllegalArgumentException" ["java/lang/RuntimeException", "java/lang/Exception"]).filter goodWord)
def wsL_paymentTo : List Cond := .codeWith yL_paymentTo cL_paymentTo 4 (some .int) [(0, 9, 12, 21)] :: ([.classLink RL 21 "java/lang/IndexOutOfBoundsException", .methodLink RL 68 yX3_paymentTo, .instanceMethod yX3_paymentTo, .selects RX3 yX3_paymentTo yX3_paymentTo, .initialized RX3, .code yX3_paymentTo cX3_paymentTo 2 (some .int), .fieldLink RX3 26 "SettlementFund" "paymentBook" "LSettlementFund$PaymentBook;", .fieldLink RX3 199 "SettlementFund$PaymentBook" "claim" "[I", .methodLink RX3 164 yX3_mustBePayment, .instanceMethod yX3_mustBePayment, .selects RX3 yX3_mustBePayment yX3_mustBePayment, .code yX3_mustBePayment cX3_mustBePayment 2 none, .classLink RX3 67 "java/lang/IndexOutOfBoundsException", .initialized "java/lang/IndexOutOfBoundsException", .methodLink RX3 208 yX1_has, .instanceMethod yX1_has, .selects RX1 yX1_has yX1_has, .initialized RX1, .code yX1_has cX1_has 2 (some .boolean), .fieldLink RX1 24 "SettlementFund$PaymentBook" "size" "I"] ++ wsX30 ++ wsX10 ++ (vx_atS RX3 71 "java/lang/IndexOutOfBoundsException" ["java/lang/RuntimeException", "java/lang/Exception"]).filter goodWord)
def wsL_amountOf : List Cond := .codeWith yL_amountOf cL_amountOf 4 (some .int) [(0, 9, 12, 21)] :: ([.classLink RL 21 "java/lang/IndexOutOfBoundsException", .methodLink RL 71 yX3_amountOf, .instanceMethod yX3_amountOf, .selects RX3 yX3_amountOf yX3_amountOf, .initialized RX3, .code yX3_amountOf cX3_amountOf 2 (some .int), .fieldLink RX3 26 "SettlementFund" "paymentBook" "LSettlementFund$PaymentBook;", .fieldLink RX3 170 "SettlementFund$PaymentBook" "amount" "[I", .methodLink RX3 164 yX3_mustBePayment, .instanceMethod yX3_mustBePayment, .selects RX3 yX3_mustBePayment yX3_mustBePayment, .code yX3_mustBePayment cX3_mustBePayment 2 none, .classLink RX3 67 "java/lang/IndexOutOfBoundsException", .initialized "java/lang/IndexOutOfBoundsException", .methodLink RX3 208 yX1_has, .instanceMethod yX1_has, .selects RX1 yX1_has yX1_has, .initialized RX1, .code yX1_has cX1_has 2 (some .boolean), .fieldLink RX1 24 "SettlementFund$PaymentBook" "size" "I"] ++ wsX30 ++ wsX10 ++ (vx_atS RX3 71 "java/lang/IndexOutOfBoundsException" ["java/lang/RuntimeException", "java/lang/Exception"]).filter goodWord)
def wsL_paymentState : List Cond := .codeWith yL_paymentState cL_paymentState 4 (some .int) [(0, 9, 12, 21)] :: ([.classLink RL 21 "java/lang/IndexOutOfBoundsException", .methodLink RL 74 yX3_paymentState, .instanceMethod yX3_paymentState, .selects RX3 yX3_paymentState yX3_paymentState, .initialized RX3, .code yX3_paymentState cX3_paymentState 2 (some .int), .fieldLink RX3 26 "SettlementFund" "paymentBook" "LSettlementFund$PaymentBook;", .fieldLink RX3 167 "SettlementFund$PaymentBook" "state" "[I", .methodLink RX3 164 yX3_mustBePayment, .instanceMethod yX3_mustBePayment, .selects RX3 yX3_mustBePayment yX3_mustBePayment, .code yX3_mustBePayment cX3_mustBePayment 2 none, .classLink RX3 67 "java/lang/IndexOutOfBoundsException", .initialized "java/lang/IndexOutOfBoundsException", .methodLink RX3 208 yX1_has, .instanceMethod yX1_has, .selects RX1 yX1_has yX1_has, .initialized RX1, .code yX1_has cX1_has 2 (some .boolean), .fieldLink RX1 24 "SettlementFund$PaymentBook" "size" "I"] ++ wsX30 ++ wsX10 ++ (vx_atS RX3 71 "java/lang/IndexOutOfBoundsException" ["java/lang/RuntimeException", "java/lang/Exception"]).filter goodWord)
def wsL_shareOf_r1 : List Cond := [Cond.classLink RL 21 "java/lang/IndexOutOfBoundsException", Cond.classLink RL 13 "java/lang/IllegalArgumentException", Cond.methodLink RL 77 yX3_shareOf, Cond.instanceMethod yX3_shareOf, Cond.selects RX3 yX3_shareOf yX3_shareOf, Cond.initialized RX3, Cond.code yX3_shareOf cX3_shareOf 3 (some .int), Cond.methodLink RX3 202 yX3_shareFor, Cond.instanceMethod yX3_shareFor, Cond.selects RX3 yX3_shareFor yX3_shareFor, Cond.code yX3_shareFor cX3_shareFor 4 (some .int), Cond.fieldLink RX3 33 "SettlementFund" "sharing" "LSettlementFund$Sharing;", Cond.methodLink RX3 112 yX3_mustBeClaim, Cond.instanceMethod yX3_mustBeClaim, Cond.selects RX3 yX3_mustBeClaim yX3_mustBeClaim, Cond.code yX3_mustBeClaim cX3_mustBeClaim 2 none, Cond.classLink RX3 67 "java/lang/IndexOutOfBoundsException", Cond.initialized "java/lang/IndexOutOfBoundsException", Cond.fieldLink RX3 19 "SettlementFund" "claimBook" "LSettlementFund$ClaimBook;", Cond.methodLink RX3 91 yX0_has, Cond.instanceMethod yX0_has, Cond.selects RX0 yX0_has yX0_has, Cond.initialized RX0, Cond.code yX0_has cX0_has 2 (some .boolean)]
def wsL_shareOf_r2 : List Cond := [Cond.fieldLink RX0 28 "SettlementFund$ClaimBook" "size" "I", Cond.methodLink RX3 137 yX3_mustBeLeast, Cond.instanceMethod yX3_mustBeLeast, Cond.selects RX3 yX3_mustBeLeast yX3_mustBeLeast, Cond.code yX3_mustBeLeast cX3_mustBeLeast 2 none, Cond.classLink RX3 43 "java/lang/IllegalArgumentException", Cond.initialized "java/lang/IllegalArgumentException", Cond.constant RX3 211 (100000), Cond.methodLink RX3 39 yX3_isOutside, Cond.static yX3_isOutside, Cond.code yX3_isOutside cX3_isOutside 3 (some .boolean), Cond.methodLink RX3 149 yX3_shareMoneyLeft, Cond.instanceMethod yX3_shareMoneyLeft, Cond.selects RX3 yX3_shareMoneyLeft yX3_shareMoneyLeft, Cond.code yX3_shareMoneyLeft cX3_shareMoneyLeft 5 none, Cond.fieldLink RX3 173 "SettlementFund$ClaimBook" "size" "I", Cond.fieldLink RX3 9 "SettlementFund" "gradePoints" "[I", Cond.fieldLink RX3 178 "SettlementFund$ClaimBook" "grade" "[I", Cond.methodLink RX3 219 yX2_clear, Cond.instanceMethod yX2_clear, Cond.selects RX2 yX2_clear yX2_clear, Cond.initialized RX2, Cond.code yX2_clear cX2_clear 1 none, Cond.fieldLink RX2 28 "SettlementFund$Sharing" "size" "I"]
def wsL_shareOf_r3 : List Cond := [Cond.methodLink RX3 63 yX3_moneyLeft, Cond.instanceMethod yX3_moneyLeft, Cond.selects RX3 yX3_moneyLeft yX3_moneyLeft, Cond.code yX3_moneyLeft cX3_moneyLeft 1 (some .int), Cond.fieldLink RX3 53 "SettlementFund" "sum" "I", Cond.fieldLink RX3 60 "SettlementFund" "expenses" "I", Cond.fieldLink RX3 26 "SettlementFund" "paymentBook" "LSettlementFund$PaymentBook;", Cond.methodLink RX3 190 yX3_fee, Cond.instanceMethod yX3_fee, Cond.selects RX3 yX3_fee yX3_fee, Cond.code yX3_fee cX3_fee 1 (some .int), Cond.fieldLink RX3 57 "SettlementFund" "feeInThousandths" "I", Cond.constantLong RX3 196 (1000), Cond.methodLink RX3 193 yX1_sumOfAll, Cond.instanceMethod yX1_sumOfAll, Cond.selects RX1 yX1_sumOfAll yX1_sumOfAll, Cond.initialized RX1, Cond.code yX1_sumOfAll cX1_sumOfAll 3 (some .int), Cond.fieldLink RX1 24 "SettlementFund$PaymentBook" "size" "I", Cond.fieldLink RX1 18 "SettlementFund$PaymentBook" "state" "[I", Cond.fieldLink RX1 15 "SettlementFund$PaymentBook" "amount" "[I", Cond.methodLink RX3 222 yX3_takesPart, Cond.instanceMethod yX3_takesPart, Cond.selects RX3 yX3_takesPart yX3_takesPart]
def wsL_shareOf_r4 : List Cond := [Cond.code yX3_takesPart cX3_takesPart 2 (some .boolean), Cond.fieldLink RX3 115 "SettlementFund$ClaimBook" "state" "[I", Cond.methodLink RX3 225 yX3_room, Cond.instanceMethod yX3_room, Cond.selects RX3 yX3_room yX3_room, Cond.code yX3_room cX3_room 3 (some .int), Cond.fieldLink RX3 13 "SettlementFund" "gradeCap" "[I", Cond.methodLink RX3 181 yX3_valueAt, Cond.static yX3_valueAt, Cond.code yX3_valueAt cX3_valueAt 2 (some .int), Cond.methodLink RX3 185 yX1_sumFor, Cond.instanceMethod yX1_sumFor, Cond.selects RX1 yX1_sumFor yX1_sumFor, Cond.code yX1_sumFor cX1_sumFor 4 (some .int), Cond.fieldLink RX1 9 "SettlementFund$PaymentBook" "claim" "[I", Cond.methodLink RX3 235 yX1_hasVoidFor, Cond.instanceMethod yX1_hasVoidFor, Cond.selects RX1 yX1_hasVoidFor yX1_hasVoidFor, Cond.code yX1_hasVoidFor cX1_hasVoidFor 3 (some .boolean), Cond.methodLink RX3 228 yX2_add, Cond.instanceMethod yX2_add, Cond.selects RX2 yX2_add yX2_add, Cond.code yX2_add cX2_add 4 none, Cond.fieldLink RX2 9 "SettlementFund$Sharing" "claim" "[I"]
def wsL_shareOf_r5 : List Cond := [Cond.fieldLink RX2 15 "SettlementFund$Sharing" "points" "[I", Cond.fieldLink RX2 18 "SettlementFund$Sharing" "room" "[I", Cond.methodLink RX3 232 yX2_shareOut, Cond.instanceMethod yX2_shareOut, Cond.selects RX2 yX2_shareOut yX2_shareOut, Cond.code yX2_shareOut cX2_shareOut 6 none, Cond.fieldLink RX2 21 "SettlementFund$Sharing" "share" "[I", Cond.methodLink RX2 32 yX2_sortByRoomPerPoint, Cond.instanceMethod yX2_sortByRoomPerPoint, Cond.selects RX2 yX2_sortByRoomPerPoint yX2_sortByRoomPerPoint, Cond.code yX2_sortByRoomPerPoint cX2_sortByRoomPerPoint 3 none, Cond.methodLink RX2 78 yX2_hasLessRoomPerPoint, Cond.instanceMethod yX2_hasLessRoomPerPoint, Cond.selects RX2 yX2_hasLessRoomPerPoint yX2_hasLessRoomPerPoint, Cond.code yX2_hasLessRoomPerPoint cX2_hasLessRoomPerPoint 3 (some .boolean), Cond.methodLink RX2 82 yX2_swapPlaces, Cond.instanceMethod yX2_swapPlaces, Cond.selects RX2 yX2_swapPlaces yX2_swapPlaces, Cond.code yX2_swapPlaces cX2_swapPlaces 6 none, Cond.methodLink RX2 74 yX2_copyPlace, Cond.instanceMethod yX2_copyPlace, Cond.selects RX2 yX2_copyPlace yX2_copyPlace, Cond.code yX2_copyPlace cX2_copyPlace 3 none, Cond.methodLink RX2 35 yX2_shareOnce]
def wsL_shareOf_r6 : List Cond := [Cond.instanceMethod yX2_shareOnce, Cond.selects RX2 yX2_shareOnce yX2_shareOnce, Cond.code yX2_shareOnce cX2_shareOnce 4 none, Cond.fieldLink RX2 47 "SettlementFund$Sharing" "restMoney" "J", Cond.fieldLink RX2 51 "SettlementFund$Sharing" "restPoints" "J", Cond.fieldLink RX2 24 "SettlementFund$Sharing" "isFull" "[Z", Cond.methodLink RX2 54 yX2_fillFromFront, Cond.instanceMethod yX2_fillFromFront, Cond.selects RX2 yX2_fillFromFront yX2_fillFromFront, Cond.code yX2_fillFromFront cX2_fillFromFront 2 none, Cond.methodLink RX2 63 yX2_reachesRoom, Cond.instanceMethod yX2_reachesRoom, Cond.selects RX2 yX2_reachesRoom yX2_reachesRoom, Cond.code yX2_reachesRoom cX2_reachesRoom 6 (some .boolean), Cond.methodLink RX2 67 yX2_fill, Cond.instanceMethod yX2_fill, Cond.selects RX2 yX2_fill yX2_fill, Cond.code yX2_fill cX2_fill 2 none, Cond.methodLink RX2 57 yX2_fillInLooks, Cond.instanceMethod yX2_fillInLooks, Cond.selects RX2 yX2_fillInLooks yX2_fillInLooks, Cond.code yX2_fillInLooks cX2_fillInLooks 8 none, Cond.methodLink RX2 60 yX2_shareRestByPoints, Cond.instanceMethod yX2_shareRestByPoints]
def wsL_shareOf_r7 : List Cond := [Cond.selects RX2 yX2_shareRestByPoints yX2_shareRestByPoints, Cond.code yX2_shareRestByPoints cX2_shareRestByPoints 4 none, Cond.methodLink RX2 70 yX2_notFullBelow, Cond.instanceMethod yX2_notFullBelow, Cond.selects RX2 yX2_notFullBelow yX2_notFullBelow, Cond.code yX2_notFullBelow cX2_notFullBelow 4 (some .int), Cond.methodLink RX2 39 yX2_placeOfSmallest, Cond.instanceMethod yX2_placeOfSmallest, Cond.selects RX2 yX2_placeOfSmallest yX2_placeOfSmallest, Cond.code yX2_placeOfSmallest cX2_placeOfSmallest 3 (some .int), Cond.methodLink RX2 43 yX2_takeOut, Cond.instanceMethod yX2_takeOut, Cond.selects RX2 yX2_takeOut yX2_takeOut, Cond.code yX2_takeOut cX2_takeOut 3 none, Cond.methodLink RX3 216 yX2_shareGivenTo, Cond.instanceMethod yX2_shareGivenTo, Cond.selects RX2 yX2_shareGivenTo yX2_shareGivenTo, Cond.code yX2_shareGivenTo cX2_shareGivenTo 3 (some .int)]
def wsL_shareOf : List Cond := .codeWith yL_shareOf cL_shareOf 5 (some .int) [(0, 10, 13, 21), (0, 10, 17, 13)] :: ((wsL_shareOf_r1 ++ (wsL_shareOf_r2 ++ (wsL_shareOf_r3 ++ (wsL_shareOf_r4 ++ (wsL_shareOf_r5 ++ (wsL_shareOf_r6 ++ wsL_shareOf_r7)))))) ++ wsX30 ++ wsX00 ++ wsX20 ++ wsX10 ++ (vx_atS RX3 71 "java/lang/IndexOutOfBoundsException" ["java/lang/RuntimeException", "java/lang/Exception"]).filter goodWord ++ (vx_atS RX3 47 "java/lang/IllegalArgumentException" ["java/lang/RuntimeException", "java/lang/Exception"]).filter goodWord)
def wsL_shareBySorting_r1 : List Cond := [Cond.classLink RL 21 "java/lang/IndexOutOfBoundsException", Cond.classLink RL 13 "java/lang/IllegalArgumentException", Cond.methodLink RL 81 yX3_shareBySorting, Cond.instanceMethod yX3_shareBySorting, Cond.selects RX3 yX3_shareBySorting yX3_shareBySorting, Cond.initialized RX3, Cond.code yX3_shareBySorting cX3_shareBySorting 3 (some .int), Cond.methodLink RX3 202 yX3_shareFor, Cond.instanceMethod yX3_shareFor, Cond.selects RX3 yX3_shareFor yX3_shareFor, Cond.code yX3_shareFor cX3_shareFor 4 (some .int), Cond.fieldLink RX3 33 "SettlementFund" "sharing" "LSettlementFund$Sharing;", Cond.methodLink RX3 112 yX3_mustBeClaim, Cond.instanceMethod yX3_mustBeClaim, Cond.selects RX3 yX3_mustBeClaim yX3_mustBeClaim, Cond.code yX3_mustBeClaim cX3_mustBeClaim 2 none, Cond.classLink RX3 67 "java/lang/IndexOutOfBoundsException", Cond.initialized "java/lang/IndexOutOfBoundsException", Cond.fieldLink RX3 19 "SettlementFund" "claimBook" "LSettlementFund$ClaimBook;", Cond.methodLink RX3 91 yX0_has, Cond.instanceMethod yX0_has, Cond.selects RX0 yX0_has yX0_has, Cond.initialized RX0, Cond.code yX0_has cX0_has 2 (some .boolean)]
def wsL_shareBySorting_r2 : List Cond := [Cond.fieldLink RX0 28 "SettlementFund$ClaimBook" "size" "I", Cond.methodLink RX3 137 yX3_mustBeLeast, Cond.instanceMethod yX3_mustBeLeast, Cond.selects RX3 yX3_mustBeLeast yX3_mustBeLeast, Cond.code yX3_mustBeLeast cX3_mustBeLeast 2 none, Cond.classLink RX3 43 "java/lang/IllegalArgumentException", Cond.initialized "java/lang/IllegalArgumentException", Cond.constant RX3 211 (100000), Cond.methodLink RX3 39 yX3_isOutside, Cond.static yX3_isOutside, Cond.code yX3_isOutside cX3_isOutside 3 (some .boolean), Cond.methodLink RX3 149 yX3_shareMoneyLeft, Cond.instanceMethod yX3_shareMoneyLeft, Cond.selects RX3 yX3_shareMoneyLeft yX3_shareMoneyLeft, Cond.code yX3_shareMoneyLeft cX3_shareMoneyLeft 5 none, Cond.fieldLink RX3 173 "SettlementFund$ClaimBook" "size" "I", Cond.fieldLink RX3 9 "SettlementFund" "gradePoints" "[I", Cond.fieldLink RX3 178 "SettlementFund$ClaimBook" "grade" "[I", Cond.methodLink RX3 219 yX2_clear, Cond.instanceMethod yX2_clear, Cond.selects RX2 yX2_clear yX2_clear, Cond.initialized RX2, Cond.code yX2_clear cX2_clear 1 none, Cond.fieldLink RX2 28 "SettlementFund$Sharing" "size" "I"]
def wsL_shareBySorting_r3 : List Cond := [Cond.methodLink RX3 63 yX3_moneyLeft, Cond.instanceMethod yX3_moneyLeft, Cond.selects RX3 yX3_moneyLeft yX3_moneyLeft, Cond.code yX3_moneyLeft cX3_moneyLeft 1 (some .int), Cond.fieldLink RX3 53 "SettlementFund" "sum" "I", Cond.fieldLink RX3 60 "SettlementFund" "expenses" "I", Cond.fieldLink RX3 26 "SettlementFund" "paymentBook" "LSettlementFund$PaymentBook;", Cond.methodLink RX3 190 yX3_fee, Cond.instanceMethod yX3_fee, Cond.selects RX3 yX3_fee yX3_fee, Cond.code yX3_fee cX3_fee 1 (some .int), Cond.fieldLink RX3 57 "SettlementFund" "feeInThousandths" "I", Cond.constantLong RX3 196 (1000), Cond.methodLink RX3 193 yX1_sumOfAll, Cond.instanceMethod yX1_sumOfAll, Cond.selects RX1 yX1_sumOfAll yX1_sumOfAll, Cond.initialized RX1, Cond.code yX1_sumOfAll cX1_sumOfAll 3 (some .int), Cond.fieldLink RX1 24 "SettlementFund$PaymentBook" "size" "I", Cond.fieldLink RX1 18 "SettlementFund$PaymentBook" "state" "[I", Cond.fieldLink RX1 15 "SettlementFund$PaymentBook" "amount" "[I", Cond.methodLink RX3 222 yX3_takesPart, Cond.instanceMethod yX3_takesPart, Cond.selects RX3 yX3_takesPart yX3_takesPart]
def wsL_shareBySorting_r4 : List Cond := [Cond.code yX3_takesPart cX3_takesPart 2 (some .boolean), Cond.fieldLink RX3 115 "SettlementFund$ClaimBook" "state" "[I", Cond.methodLink RX3 225 yX3_room, Cond.instanceMethod yX3_room, Cond.selects RX3 yX3_room yX3_room, Cond.code yX3_room cX3_room 3 (some .int), Cond.fieldLink RX3 13 "SettlementFund" "gradeCap" "[I", Cond.methodLink RX3 181 yX3_valueAt, Cond.static yX3_valueAt, Cond.code yX3_valueAt cX3_valueAt 2 (some .int), Cond.methodLink RX3 185 yX1_sumFor, Cond.instanceMethod yX1_sumFor, Cond.selects RX1 yX1_sumFor yX1_sumFor, Cond.code yX1_sumFor cX1_sumFor 4 (some .int), Cond.fieldLink RX1 9 "SettlementFund$PaymentBook" "claim" "[I", Cond.methodLink RX3 235 yX1_hasVoidFor, Cond.instanceMethod yX1_hasVoidFor, Cond.selects RX1 yX1_hasVoidFor yX1_hasVoidFor, Cond.code yX1_hasVoidFor cX1_hasVoidFor 3 (some .boolean), Cond.methodLink RX3 228 yX2_add, Cond.instanceMethod yX2_add, Cond.selects RX2 yX2_add yX2_add, Cond.code yX2_add cX2_add 4 none, Cond.fieldLink RX2 9 "SettlementFund$Sharing" "claim" "[I"]
def wsL_shareBySorting_r5 : List Cond := [Cond.fieldLink RX2 15 "SettlementFund$Sharing" "points" "[I", Cond.fieldLink RX2 18 "SettlementFund$Sharing" "room" "[I", Cond.methodLink RX3 232 yX2_shareOut, Cond.instanceMethod yX2_shareOut, Cond.selects RX2 yX2_shareOut yX2_shareOut, Cond.code yX2_shareOut cX2_shareOut 6 none, Cond.fieldLink RX2 21 "SettlementFund$Sharing" "share" "[I", Cond.methodLink RX2 32 yX2_sortByRoomPerPoint, Cond.instanceMethod yX2_sortByRoomPerPoint, Cond.selects RX2 yX2_sortByRoomPerPoint yX2_sortByRoomPerPoint, Cond.code yX2_sortByRoomPerPoint cX2_sortByRoomPerPoint 3 none, Cond.methodLink RX2 78 yX2_hasLessRoomPerPoint, Cond.instanceMethod yX2_hasLessRoomPerPoint, Cond.selects RX2 yX2_hasLessRoomPerPoint yX2_hasLessRoomPerPoint, Cond.code yX2_hasLessRoomPerPoint cX2_hasLessRoomPerPoint 3 (some .boolean), Cond.methodLink RX2 82 yX2_swapPlaces, Cond.instanceMethod yX2_swapPlaces, Cond.selects RX2 yX2_swapPlaces yX2_swapPlaces, Cond.code yX2_swapPlaces cX2_swapPlaces 6 none, Cond.methodLink RX2 74 yX2_copyPlace, Cond.instanceMethod yX2_copyPlace, Cond.selects RX2 yX2_copyPlace yX2_copyPlace, Cond.code yX2_copyPlace cX2_copyPlace 3 none, Cond.methodLink RX2 35 yX2_shareOnce]
def wsL_shareBySorting_r6 : List Cond := [Cond.instanceMethod yX2_shareOnce, Cond.selects RX2 yX2_shareOnce yX2_shareOnce, Cond.code yX2_shareOnce cX2_shareOnce 4 none, Cond.fieldLink RX2 47 "SettlementFund$Sharing" "restMoney" "J", Cond.fieldLink RX2 51 "SettlementFund$Sharing" "restPoints" "J", Cond.fieldLink RX2 24 "SettlementFund$Sharing" "isFull" "[Z", Cond.methodLink RX2 54 yX2_fillFromFront, Cond.instanceMethod yX2_fillFromFront, Cond.selects RX2 yX2_fillFromFront yX2_fillFromFront, Cond.code yX2_fillFromFront cX2_fillFromFront 2 none, Cond.methodLink RX2 63 yX2_reachesRoom, Cond.instanceMethod yX2_reachesRoom, Cond.selects RX2 yX2_reachesRoom yX2_reachesRoom, Cond.code yX2_reachesRoom cX2_reachesRoom 6 (some .boolean), Cond.methodLink RX2 67 yX2_fill, Cond.instanceMethod yX2_fill, Cond.selects RX2 yX2_fill yX2_fill, Cond.code yX2_fill cX2_fill 2 none, Cond.methodLink RX2 57 yX2_fillInLooks, Cond.instanceMethod yX2_fillInLooks, Cond.selects RX2 yX2_fillInLooks yX2_fillInLooks, Cond.code yX2_fillInLooks cX2_fillInLooks 8 none, Cond.methodLink RX2 60 yX2_shareRestByPoints, Cond.instanceMethod yX2_shareRestByPoints]
def wsL_shareBySorting_r7 : List Cond := [Cond.selects RX2 yX2_shareRestByPoints yX2_shareRestByPoints, Cond.code yX2_shareRestByPoints cX2_shareRestByPoints 4 none, Cond.methodLink RX2 70 yX2_notFullBelow, Cond.instanceMethod yX2_notFullBelow, Cond.selects RX2 yX2_notFullBelow yX2_notFullBelow, Cond.code yX2_notFullBelow cX2_notFullBelow 4 (some .int), Cond.methodLink RX2 39 yX2_placeOfSmallest, Cond.instanceMethod yX2_placeOfSmallest, Cond.selects RX2 yX2_placeOfSmallest yX2_placeOfSmallest, Cond.code yX2_placeOfSmallest cX2_placeOfSmallest 3 (some .int), Cond.methodLink RX2 43 yX2_takeOut, Cond.instanceMethod yX2_takeOut, Cond.selects RX2 yX2_takeOut yX2_takeOut, Cond.code yX2_takeOut cX2_takeOut 3 none, Cond.methodLink RX3 216 yX2_shareGivenTo, Cond.instanceMethod yX2_shareGivenTo, Cond.selects RX2 yX2_shareGivenTo yX2_shareGivenTo, Cond.code yX2_shareGivenTo cX2_shareGivenTo 3 (some .int)]
def wsL_shareBySorting : List Cond := .codeWith yL_shareBySorting cL_shareBySorting 5 (some .int) [(0, 10, 13, 21), (0, 10, 17, 13)] :: ((wsL_shareBySorting_r1 ++ (wsL_shareBySorting_r2 ++ (wsL_shareBySorting_r3 ++ (wsL_shareBySorting_r4 ++ (wsL_shareBySorting_r5 ++ (wsL_shareBySorting_r6 ++ wsL_shareBySorting_r7)))))) ++ wsX30 ++ wsX00 ++ wsX20 ++ wsX10 ++ (vx_atS RX3 71 "java/lang/IndexOutOfBoundsException" ["java/lang/RuntimeException", "java/lang/Exception"]).filter goodWord ++ (vx_atS RX3 47 "java/lang/IllegalArgumentException" ["java/lang/RuntimeException", "java/lang/Exception"]).filter goodWord)
def wsL_law0_r1 : List Cond := [Cond.classLink RL 8 RX3, Cond.instantiable RX3 9, Cond.initialized RX3, Cond.classLink RL 85 RX4, Cond.instantiable RX4 22, Cond.initialized RX4, Cond.arrayClass .long, Cond.methodLink RL 84 yX3_init, Cond.instanceMethod yX3_init, Cond.code yX3_init cX3_init 2 none, Cond.methodLink RX3 1 objectInit, Cond.instanceMethod objectInit, Cond.code objectInit ⟨#[0xb1]⟩ 1 none, Cond.arrayClass .int, Cond.fieldLink RX3 9 "SettlementFund" "gradePoints" "[I", Cond.fieldLink RX3 13 "SettlementFund" "gradeCap" "[I", Cond.classLink RX3 16 RX0, Cond.instantiable RX0 6, Cond.initialized RX0, Cond.fieldLink RX3 19 "SettlementFund" "claimBook" "LSettlementFund$ClaimBook;", Cond.classLink RX3 23 RX1, Cond.instantiable RX1 5, Cond.initialized RX1, Cond.fieldLink RX3 26 "SettlementFund" "paymentBook" "LSettlementFund$PaymentBook;"]
def wsL_law0_r2 : List Cond := [Cond.classLink RX3 30 RX2, Cond.instantiable RX2 8, Cond.initialized RX2, Cond.fieldLink RX3 33 "SettlementFund" "sharing" "LSettlementFund$Sharing;", Cond.constant RX3 37 (1000000), Cond.methodLink RX3 18 yX0_init, Cond.instanceMethod yX0_init, Cond.code yX0_init cX0_init 2 none, Cond.methodLink RX0 3 objectInit, Cond.fieldLink RX0 9 "SettlementFund$ClaimBook" "ofPerson" "[I", Cond.fieldLink RX0 15 "SettlementFund$ClaimBook" "grade" "[I", Cond.fieldLink RX0 18 "SettlementFund$ClaimBook" "state" "[I", Cond.fieldLink RX0 21 "SettlementFund$ClaimBook" "deadline" "[I", Cond.arrayClass .boolean, Cond.fieldLink RX0 24 "SettlementFund$ClaimBook" "wasObjected" "[Z", Cond.instanceMethod yX1_init, Cond.code yX1_init cX1_init 1 none, Cond.methodLink RX1 3 objectInit, Cond.fieldLink RX1 9 "SettlementFund$PaymentBook" "claim" "[I", Cond.fieldLink RX1 15 "SettlementFund$PaymentBook" "amount" "[I", Cond.fieldLink RX1 18 "SettlementFund$PaymentBook" "state" "[I", Cond.fieldLink RX1 21 "SettlementFund$PaymentBook" "dayMade" "[I", Cond.instanceMethod yX2_init, Cond.code yX2_init cX2_init 1 none]
def wsL_law0_r3 : List Cond := [Cond.methodLink RX2 3 objectInit, Cond.fieldLink RX2 9 "SettlementFund$Sharing" "claim" "[I", Cond.fieldLink RX2 15 "SettlementFund$Sharing" "points" "[I", Cond.fieldLink RX2 18 "SettlementFund$Sharing" "room" "[I", Cond.fieldLink RX2 21 "SettlementFund$Sharing" "share" "[I", Cond.fieldLink RX2 24 "SettlementFund$Sharing" "isFull" "[Z", Cond.methodLink RL 87 yX4_init, Cond.instanceMethod yX4_init, Cond.code yX4_init cX4_init 2 none, Cond.methodLink RX4 1 objectInit, Cond.fieldLink RX4 7 "SettlementFundModel" "points" "[I", Cond.fieldLink RX4 13 "SettlementFundModel" "caps" "[I", Cond.fieldLink RX4 16 "SettlementFundModel" "persons" "[I", Cond.fieldLink RX4 19 "SettlementFundModel" "grades" "[I", Cond.fieldLink RX4 22 "SettlementFundModel" "states" "[I", Cond.fieldLink RX4 25 "SettlementFundModel" "deadlines" "[I", Cond.fieldLink RX4 28 "SettlementFundModel" "wasObjected" "[Z", Cond.fieldLink RX4 32 "SettlementFundModel" "paidTo" "[I", Cond.fieldLink RX4 35 "SettlementFundModel" "amounts" "[I", Cond.fieldLink RX4 38 "SettlementFundModel" "madeOn" "[I", Cond.fieldLink RX4 41 "SettlementFundModel" "paymentStates" "[I", Cond.fieldLink RX4 44 "SettlementFundModel" "takesPart" "[Z", Cond.fieldLink RX4 47 "SettlementFundModel" "isFull" "[Z", Cond.fieldLink RX4 50 "SettlementFundModel" "shares" "[I"]
def wsL_law0_r4 : List Cond := [Cond.fieldLink RX4 53 "SettlementFundModel" "rooms" "[I", Cond.constant RX4 56 (1000000), Cond.methodLink RL 88 yL_setFund, Cond.static yL_setFund, Cond.initialized RL, Cond.codeWith yL_setFund cL_setFund 6 (some .int) [(0, 12, 15, 13), (0, 12, 19, 15)], Cond.classLink RL 13 "java/lang/IllegalArgumentException", Cond.classLink RL 15 "java/lang/IllegalStateException", Cond.methodLink RL 7 yX3_setFund, Cond.instanceMethod yX3_setFund, Cond.selects RX3 yX3_setFund yX3_setFund, Cond.code yX3_setFund cX3_setFund 4 (some .int), Cond.classLink RX3 43 "java/lang/IllegalArgumentException", Cond.initialized "java/lang/IllegalArgumentException", Cond.constant RX3 38 (10000000), Cond.fieldLink RX3 53 "SettlementFund" "sum" "I", Cond.fieldLink RX3 57 "SettlementFund" "feeInThousandths" "I", Cond.fieldLink RX3 60 "SettlementFund" "expenses" "I", Cond.methodLink RX3 39 yX3_isOutside, Cond.static yX3_isOutside, Cond.code yX3_isOutside cX3_isOutside 3 (some .boolean), Cond.methodLink RX3 50 yX3_mustHaveNoPayments, Cond.instanceMethod yX3_mustHaveNoPayments, Cond.selects RX3 yX3_mustHaveNoPayments yX3_mustHaveNoPayments]
def wsL_law0_r5 : List Cond := [Cond.code yX3_mustHaveNoPayments cX3_mustHaveNoPayments 1 none, Cond.classLink RX3 103 "java/lang/IllegalStateException", Cond.initialized "java/lang/IllegalStateException", Cond.fieldLink RX3 198 "SettlementFund$PaymentBook" "size" "I", Cond.methodLink RX3 63 yX3_moneyLeft, Cond.instanceMethod yX3_moneyLeft, Cond.selects RX3 yX3_moneyLeft yX3_moneyLeft, Cond.code yX3_moneyLeft cX3_moneyLeft 1 (some .int), Cond.methodLink RX3 190 yX3_fee, Cond.instanceMethod yX3_fee, Cond.selects RX3 yX3_fee yX3_fee, Cond.code yX3_fee cX3_fee 1 (some .int), Cond.constantLong RX3 196 (1000), Cond.methodLink RX3 193 yX1_sumOfAll, Cond.instanceMethod yX1_sumOfAll, Cond.selects RX1 yX1_sumOfAll yX1_sumOfAll, Cond.code yX1_sumOfAll cX1_sumOfAll 3 (some .int), Cond.fieldLink RX1 24 "SettlementFund$PaymentBook" "size" "I", Cond.methodLink RL 93 yX4_setFund, Cond.instanceMethod yX4_setFund, Cond.selects RX4 yX4_setFund yX4_setFund, Cond.code yX4_setFund cX4_setFund 5 (some .int), Cond.constant RX4 86 (10000000), Cond.fieldLink RX4 68 "SettlementFundModel" "payments" "I"]
def wsL_law0_r6 : List Cond := [Cond.fieldLink RX4 71 "SettlementFundModel" "sum" "I", Cond.fieldLink RX4 74 "SettlementFundModel" "fee" "I", Cond.fieldLink RX4 83 "SettlementFundModel" "expenses" "I", Cond.methodLink RX4 64 yX4_isIn, Cond.static yX4_isIn, Cond.code yX4_isIn cX4_isIn 3 (some .boolean), Cond.methodLink RX4 87 yX4_goes, Cond.instanceMethod yX4_goes, Cond.selects RX4 yX4_goes yX4_goes, Cond.code yX4_goes cX4_goes 2 (some .boolean), Cond.fieldLink RX4 57 "SettlementFundModel" "thrown" "I", Cond.methodLink RX4 91 yX4_left, Cond.instanceMethod yX4_left, Cond.selects RX4 yX4_left yX4_left, Cond.code yX4_left cX4_left 3 (some .int), Cond.methodLink RX4 79 yX4_feeNow, Cond.instanceMethod yX4_feeNow, Cond.selects RX4 yX4_feeNow yX4_feeNow, Cond.code yX4_feeNow cX4_feeNow 1 (some .int), Cond.constantLong RX4 77 (1000), Cond.methodLink RL 94 yX4_thrown, Cond.instanceMethod yX4_thrown, Cond.selects RX4 yX4_thrown yX4_thrown, Cond.code yX4_thrown cX4_thrown 1 (some .int)]
def wsL_law0_r7 : List Cond := [Cond.methodLink RL 98 yL_setGrade, Cond.static yL_setGrade, Cond.codeWith yL_setGrade cL_setGrade 5 (some .int) [(0, 7, 10, 21), (0, 7, 14, 13), (0, 7, 18, 15)], Cond.classLink RL 21 "java/lang/IndexOutOfBoundsException", Cond.methodLink RL 17 yX3_setGrade, Cond.instanceMethod yX3_setGrade, Cond.selects RX3 yX3_setGrade yX3_setGrade, Cond.code yX3_setGrade cX3_setGrade 4 none, Cond.classLink RX3 67 "java/lang/IndexOutOfBoundsException", Cond.initialized "java/lang/IndexOutOfBoundsException", Cond.methodLink RL 101 yX4_setGrade, Cond.instanceMethod yX4_setGrade, Cond.selects RX4 yX4_setGrade yX4_setGrade, Cond.code yX4_setGrade cX4_setGrade 5 none, Cond.methodLink RL 102 yL_pass, Cond.static yL_pass, Cond.codeWith yL_pass cL_pass 4 (some .int) [(0, 9, 12, 13)], Cond.methodLink RL 23 yX3_pass, Cond.instanceMethod yX3_pass, Cond.selects RX3 yX3_pass yX3_pass, Cond.code yX3_pass cX3_pass 2 (some .int), Cond.fieldLink RX3 76 "SettlementFund" "day" "I", Cond.methodLink RX3 79 yX0_denyLate, Cond.instanceMethod yX0_denyLate]
def wsL_law0_r8 : List Cond := [Cond.selects RX0 yX0_denyLate yX0_denyLate, Cond.code yX0_denyLate cX0_denyLate 3 none, Cond.fieldLink RX0 28 "SettlementFund$ClaimBook" "size" "I", Cond.methodLink RX3 83 yX1_voidLate, Cond.instanceMethod yX1_voidLate, Cond.selects RX1 yX1_voidLate yX1_voidLate, Cond.code yX1_voidLate cX1_voidLate 3 none, Cond.methodLink RL 105 yX4_pass, Cond.instanceMethod yX4_pass, Cond.selects RX4 yX4_pass yX4_pass, Cond.code yX4_pass cX4_pass 5 (some .int), Cond.fieldLink RX4 94 "SettlementFundModel" "today" "I", Cond.fieldLink RX4 61 "SettlementFundModel" "claims" "I", Cond.methodLink RL 106 yL_claim, Cond.static yL_claim, Cond.codeWith yL_claim cL_claim 7 (some .int) [(0, 14, 17, 21), (0, 14, 21, 13), (0, 14, 25, 15)], Cond.methodLink RL 27 yX3_claim, Cond.instanceMethod yX3_claim, Cond.selects RX3 yX3_claim yX3_claim, Cond.code yX3_claim cX3_claim 6 (some .int), Cond.fieldLink RX3 88 "SettlementFund$ClaimBook" "ofPerson" "[I", Cond.methodLink RX3 91 yX0_has, Cond.instanceMethod yX0_has, Cond.selects RX0 yX0_has yX0_has]
def wsL_law0_r9 : List Cond := [Cond.code yX0_has cX0_has 2 (some .boolean), Cond.methodLink RX3 95 yX0_join, Cond.instanceMethod yX0_join, Cond.selects RX0 yX0_join yX0_join, Cond.code yX0_join cX0_join 4 none, Cond.methodLink RX0 32 Lib.Math.max.name, Cond.static Lib.Math.max.name, Cond.initialized "java/lang/Math", Cond.code Lib.Math.max.name Lib.Math.max.code 2 (some .int), Cond.methodLink RX3 99 yX0_hasPlace, Cond.instanceMethod yX0_hasPlace, Cond.selects RX0 yX0_hasPlace yX0_hasPlace, Cond.code yX0_hasPlace cX0_hasPlace 1 (some .boolean), Cond.methodLink RX3 108 yX0_enter, Cond.instanceMethod yX0_enter, Cond.selects RX0 yX0_enter yX0_enter, Cond.code yX0_enter cX0_enter 6 (some .int), Cond.methodLink RL 109 yX4_claim, Cond.instanceMethod yX4_claim, Cond.selects RX4 yX4_claim yX4_claim, Cond.code yX4_claim cX4_claim 7 (some .int), Cond.methodLink RX4 97 yX4_ofPerson, Cond.instanceMethod yX4_ofPerson, Cond.selects RX4 yX4_ofPerson yX4_ofPerson]
def wsL_law0_r10 : List Cond := [Cond.code yX4_ofPerson cX4_ofPerson 4 (some .int), Cond.methodLink RL 110 yL_cure, Cond.static yL_cure, Cond.codeWith yL_cure cL_cure 4 (some .int) [(0, 9, 12, 21), (0, 9, 15, 15)], Cond.methodLink RL 31 yX3_cure, Cond.instanceMethod yX3_cure, Cond.selects RX3 yX3_cure yX3_cure, Cond.code yX3_cure cX3_cure 2 (some .int), Cond.fieldLink RX3 115 "SettlementFund$ClaimBook" "state" "[I", Cond.fieldLink RX3 120 "SettlementFund$ClaimBook" "deadline" "[I", Cond.methodLink RX3 112 yX3_mustBeClaim, Cond.instanceMethod yX3_mustBeClaim, Cond.selects RX3 yX3_mustBeClaim yX3_mustBeClaim, Cond.code yX3_mustBeClaim cX3_mustBeClaim 2 none, Cond.methodLink RL 112 yX4_cure, Cond.instanceMethod yX4_cure, Cond.selects RX4 yX4_cure yX4_cure, Cond.code yX4_cure cX4_cure 2 (some .int), Cond.methodLink RX4 101 yX4_isClaim, Cond.instanceMethod yX4_isClaim, Cond.selects RX4 yX4_isClaim yX4_isClaim, Cond.code yX4_isClaim cX4_isClaim 2 (some .boolean), Cond.methodLink RL 113 yL_deny, Cond.static yL_deny]
def wsL_law0_r11 : List Cond := [Cond.codeWith yL_deny cL_deny 4 (some .int) [(0, 9, 12, 21), (0, 9, 15, 15)], Cond.methodLink RL 34 yX3_deny, Cond.instanceMethod yX3_deny, Cond.selects RX3 yX3_deny yX3_deny, Cond.code yX3_deny cX3_deny 3 (some .int), Cond.methodLink RL 115 yX4_deny, Cond.instanceMethod yX4_deny, Cond.selects RX4 yX4_deny yX4_deny, Cond.code yX4_deny cX4_deny 3 (some .int), Cond.methodLink RL 116 yL_object, Cond.static yL_object, Cond.codeWith yL_object cL_object 4 (some .int) [(0, 9, 12, 21), (0, 9, 15, 15)], Cond.methodLink RL 37 yX3_object, Cond.instanceMethod yX3_object, Cond.selects RX3 yX3_object yX3_object, Cond.code yX3_object cX3_object 2 (some .int), Cond.fieldLink RX3 125 "SettlementFund$ClaimBook" "wasObjected" "[Z", Cond.methodLink RX3 131 yX0_tally, Cond.instanceMethod yX0_tally, Cond.selects RX0 yX0_tally yX0_tally, Cond.code yX0_tally cX0_tally 4 (some .int), Cond.methodLink RL 118 yX4_object, Cond.instanceMethod yX4_object, Cond.selects RX4 yX4_object yX4_object]
def wsL_law0_r12 : List Cond := [Cond.code yX4_object cX4_object 2 (some .int), Cond.methodLink RX4 104 yX4_countOf, Cond.instanceMethod yX4_countOf, Cond.selects RX4 yX4_countOf yX4_countOf, Cond.code yX4_countOf cX4_countOf 4 (some .int), Cond.methodLink RL 119 yL_decide, Cond.static yL_decide, Cond.codeWith yL_decide cL_decide 5 (some .int) [(0, 10, 13, 21), (0, 10, 17, 15)], Cond.methodLink RL 40 yX3_decide, Cond.instanceMethod yX3_decide, Cond.selects RX3 yX3_decide yX3_decide, Cond.code yX3_decide cX3_decide 3 (some .int), Cond.methodLink RL 122 yX4_decide, Cond.instanceMethod yX4_decide, Cond.selects RX4 yX4_decide yX4_decide, Cond.code yX4_decide cX4_decide 3 (some .int), Cond.methodLink RL 123 yL_round, Cond.static yL_round, Cond.codeWith yL_round cL_round 4 (some .int) [(0, 9, 12, 13), (0, 9, 15, 15)], Cond.methodLink RL 44 yX3_round, Cond.instanceMethod yX3_round, Cond.selects RX3 yX3_round yX3_round, Cond.code yX3_round cX3_round 3 (some .int), Cond.methodLink RX3 137 yX3_mustBeLeast]
def wsL_law0_r13 : List Cond := [Cond.instanceMethod yX3_mustBeLeast, Cond.selects RX3 yX3_mustBeLeast yX3_mustBeLeast, Cond.code yX3_mustBeLeast cX3_mustBeLeast 2 none, Cond.constant RX3 211 (100000), Cond.methodLink RX3 142 yX1_hasOpen, Cond.instanceMethod yX1_hasOpen, Cond.selects RX1 yX1_hasOpen yX1_hasOpen, Cond.code yX1_hasOpen cX1_hasOpen 2 (some .boolean), Cond.methodLink RX3 149 yX3_shareMoneyLeft, Cond.instanceMethod yX3_shareMoneyLeft, Cond.selects RX3 yX3_shareMoneyLeft yX3_shareMoneyLeft, Cond.code yX3_shareMoneyLeft cX3_shareMoneyLeft 5 none, Cond.fieldLink RX3 173 "SettlementFund$ClaimBook" "size" "I", Cond.fieldLink RX3 178 "SettlementFund$ClaimBook" "grade" "[I", Cond.methodLink RX3 219 yX2_clear, Cond.instanceMethod yX2_clear, Cond.selects RX2 yX2_clear yX2_clear, Cond.code yX2_clear cX2_clear 1 none, Cond.fieldLink RX2 28 "SettlementFund$Sharing" "size" "I", Cond.methodLink RX3 222 yX3_takesPart, Cond.instanceMethod yX3_takesPart, Cond.selects RX3 yX3_takesPart yX3_takesPart, Cond.code yX3_takesPart cX3_takesPart 2 (some .boolean), Cond.methodLink RX3 225 yX3_room]
def wsL_law0_r14 : List Cond := [Cond.instanceMethod yX3_room, Cond.selects RX3 yX3_room yX3_room, Cond.code yX3_room cX3_room 3 (some .int), Cond.methodLink RX3 181 yX3_valueAt, Cond.static yX3_valueAt, Cond.code yX3_valueAt cX3_valueAt 2 (some .int), Cond.methodLink RX3 185 yX1_sumFor, Cond.instanceMethod yX1_sumFor, Cond.selects RX1 yX1_sumFor yX1_sumFor, Cond.code yX1_sumFor cX1_sumFor 4 (some .int), Cond.methodLink RX3 235 yX1_hasVoidFor, Cond.instanceMethod yX1_hasVoidFor, Cond.selects RX1 yX1_hasVoidFor yX1_hasVoidFor, Cond.code yX1_hasVoidFor cX1_hasVoidFor 3 (some .boolean), Cond.methodLink RX3 228 yX2_add, Cond.instanceMethod yX2_add, Cond.selects RX2 yX2_add yX2_add, Cond.code yX2_add cX2_add 4 none, Cond.methodLink RX3 232 yX2_shareOut, Cond.instanceMethod yX2_shareOut, Cond.selects RX2 yX2_shareOut yX2_shareOut, Cond.code yX2_shareOut cX2_shareOut 6 none, Cond.methodLink RX2 32 yX2_sortByRoomPerPoint, Cond.instanceMethod yX2_sortByRoomPerPoint]
def wsL_law0_r15 : List Cond := [Cond.selects RX2 yX2_sortByRoomPerPoint yX2_sortByRoomPerPoint, Cond.code yX2_sortByRoomPerPoint cX2_sortByRoomPerPoint 3 none, Cond.methodLink RX2 78 yX2_hasLessRoomPerPoint, Cond.instanceMethod yX2_hasLessRoomPerPoint, Cond.selects RX2 yX2_hasLessRoomPerPoint yX2_hasLessRoomPerPoint, Cond.code yX2_hasLessRoomPerPoint cX2_hasLessRoomPerPoint 3 (some .boolean), Cond.methodLink RX2 82 yX2_swapPlaces, Cond.instanceMethod yX2_swapPlaces, Cond.selects RX2 yX2_swapPlaces yX2_swapPlaces, Cond.code yX2_swapPlaces cX2_swapPlaces 6 none, Cond.methodLink RX2 74 yX2_copyPlace, Cond.instanceMethod yX2_copyPlace, Cond.selects RX2 yX2_copyPlace yX2_copyPlace, Cond.code yX2_copyPlace cX2_copyPlace 3 none, Cond.methodLink RX2 35 yX2_shareOnce, Cond.instanceMethod yX2_shareOnce, Cond.selects RX2 yX2_shareOnce yX2_shareOnce, Cond.code yX2_shareOnce cX2_shareOnce 4 none, Cond.fieldLink RX2 47 "SettlementFund$Sharing" "restMoney" "J", Cond.fieldLink RX2 51 "SettlementFund$Sharing" "restPoints" "J", Cond.methodLink RX2 54 yX2_fillFromFront, Cond.instanceMethod yX2_fillFromFront, Cond.selects RX2 yX2_fillFromFront yX2_fillFromFront, Cond.code yX2_fillFromFront cX2_fillFromFront 2 none]
def wsL_law0_r16 : List Cond := [Cond.methodLink RX2 63 yX2_reachesRoom, Cond.instanceMethod yX2_reachesRoom, Cond.selects RX2 yX2_reachesRoom yX2_reachesRoom, Cond.code yX2_reachesRoom cX2_reachesRoom 6 (some .boolean), Cond.methodLink RX2 67 yX2_fill, Cond.instanceMethod yX2_fill, Cond.selects RX2 yX2_fill yX2_fill, Cond.code yX2_fill cX2_fill 2 none, Cond.methodLink RX2 57 yX2_fillInLooks, Cond.instanceMethod yX2_fillInLooks, Cond.selects RX2 yX2_fillInLooks yX2_fillInLooks, Cond.code yX2_fillInLooks cX2_fillInLooks 8 none, Cond.methodLink RX2 60 yX2_shareRestByPoints, Cond.instanceMethod yX2_shareRestByPoints, Cond.selects RX2 yX2_shareRestByPoints yX2_shareRestByPoints, Cond.code yX2_shareRestByPoints cX2_shareRestByPoints 4 none, Cond.methodLink RX2 70 yX2_notFullBelow, Cond.instanceMethod yX2_notFullBelow, Cond.selects RX2 yX2_notFullBelow yX2_notFullBelow, Cond.code yX2_notFullBelow cX2_notFullBelow 4 (some .int), Cond.methodLink RX2 39 yX2_placeOfSmallest, Cond.instanceMethod yX2_placeOfSmallest, Cond.selects RX2 yX2_placeOfSmallest yX2_placeOfSmallest, Cond.code yX2_placeOfSmallest cX2_placeOfSmallest 3 (some .int)]
def wsL_law0_r17 : List Cond := [Cond.methodLink RX2 43 yX2_takeOut, Cond.instanceMethod yX2_takeOut, Cond.selects RX2 yX2_takeOut yX2_takeOut, Cond.code yX2_takeOut cX2_takeOut 3 none, Cond.methodLink RX3 153 yX2_gainers, Cond.instanceMethod yX2_gainers, Cond.selects RX2 yX2_gainers yX2_gainers, Cond.code yX2_gainers cX2_gainers 3 (some .int), Cond.methodLink RX3 156 yX1_hasPlacesFor, Cond.instanceMethod yX1_hasPlacesFor, Cond.selects RX1 yX1_hasPlacesFor yX1_hasPlacesFor, Cond.code yX1_hasPlacesFor cX1_hasPlacesFor 2 (some .boolean), Cond.methodLink RX3 161 yX3_makePayments, Cond.instanceMethod yX3_makePayments, Cond.selects RX3 yX3_makePayments yX3_makePayments, Cond.code yX3_makePayments cX3_makePayments 3 none, Cond.methodLink RX3 216 yX2_shareGivenTo, Cond.instanceMethod yX2_shareGivenTo, Cond.selects RX2 yX2_shareGivenTo yX2_shareGivenTo, Cond.code yX2_shareGivenTo cX2_shareGivenTo 3 (some .int), Cond.methodLink RX3 238 yX1_add, Cond.instanceMethod yX1_add, Cond.selects RX1 yX1_add yX1_add, Cond.code yX1_add cX1_add 4 none]
def wsL_law0_r18 : List Cond := [Cond.methodLink RX1 28 yX1_hasPlacesFor, Cond.methodLink RL 125 yX4_round, Cond.instanceMethod yX4_round, Cond.selects RX4 yX4_round yX4_round, Cond.code yX4_round cX4_round 5 (some .int), Cond.constant RX4 135 (100000), Cond.methodLink RX4 136 yX4_lays, Cond.instanceMethod yX4_lays, Cond.selects RX4 yX4_lays yX4_lays, Cond.code yX4_lays cX4_lays 4 none, Cond.methodLink RX4 124 yX4_roomOf, Cond.instanceMethod yX4_roomOf, Cond.selects RX4 yX4_roomOf yX4_roomOf, Cond.code yX4_roomOf cX4_roomOf 3 (some .int), Cond.methodLink RX4 107 yX4_paid, Cond.instanceMethod yX4_paid, Cond.selects RX4 yX4_paid yX4_paid, Cond.code yX4_paid cX4_paid 4 (some .int), Cond.methodLink RX4 127 yX4_hasVoid, Cond.instanceMethod yX4_hasVoid, Cond.selects RX4 yX4_hasVoid yX4_hasVoid, Cond.code yX4_hasVoid cX4_hasVoid 4 (some .boolean), Cond.methodLink RX4 130 yX4_shares, Cond.instanceMethod yX4_shares]
def wsL_law0_r19 : List Cond := [Cond.selects RX4 yX4_shares yX4_shares, Cond.code yX4_shares cX4_shares 4 none, Cond.methodLink RX4 117 yX4_givesRooms, Cond.instanceMethod yX4_givesRooms, Cond.selects RX4 yX4_givesRooms yX4_givesRooms, Cond.code yX4_givesRooms cX4_givesRooms 7 (some .int), Cond.methodLink RX4 113 yX4_allPoints, Cond.instanceMethod yX4_allPoints, Cond.selects RX4 yX4_allPoints yX4_allPoints, Cond.code yX4_allPoints cX4_allPoints 4 (some .long), Cond.methodLink RX4 110 yX4_isLeft, Cond.instanceMethod yX4_isLeft, Cond.selects RX4 yX4_isLeft yX4_isLeft, Cond.code yX4_isLeft cX4_isLeft 2 (some .boolean), Cond.methodLink RX4 120 yX4_givesRest, Cond.instanceMethod yX4_givesRest, Cond.selects RX4 yX4_givesRest yX4_givesRest, Cond.code yX4_givesRest cX4_givesRest 7 none, Cond.methodLink RX4 132 yX4_lowest, Cond.instanceMethod yX4_lowest, Cond.selects RX4 yX4_lowest yX4_lowest, Cond.code yX4_lowest cX4_lowest 3 (some .int), Cond.methodLink RX4 139 yX4_isOpen, Cond.instanceMethod yX4_isOpen]
def wsL_law0_r20 : List Cond := [Cond.selects RX4 yX4_isOpen yX4_isOpen, Cond.code yX4_isOpen cX4_isOpen 3 (some .boolean), Cond.methodLink RL 126 yL_cash, Cond.static yL_cash, Cond.codeWith yL_cash cL_cash 4 (some .int) [(0, 9, 12, 21), (0, 9, 15, 15)], Cond.methodLink RL 47 yX3_cash, Cond.instanceMethod yX3_cash, Cond.selects RX3 yX3_cash yX3_cash, Cond.code yX3_cash cX3_cash 2 (some .int), Cond.fieldLink RX3 167 "SettlementFund$PaymentBook" "state" "[I", Cond.fieldLink RX3 170 "SettlementFund$PaymentBook" "amount" "[I", Cond.methodLink RX3 164 yX3_mustBePayment, Cond.instanceMethod yX3_mustBePayment, Cond.selects RX3 yX3_mustBePayment yX3_mustBePayment, Cond.code yX3_mustBePayment cX3_mustBePayment 2 none, Cond.methodLink RX3 208 yX1_has, Cond.instanceMethod yX1_has, Cond.selects RX1 yX1_has yX1_has, Cond.code yX1_has cX1_has 2 (some .boolean), Cond.methodLink RL 128 yX4_cash, Cond.instanceMethod yX4_cash, Cond.selects RX4 yX4_cash yX4_cash, Cond.code yX4_cash cX4_cash 2 (some .int), Cond.methodLink RX4 143 yX4_isPayment]
def wsL_law0_r21 : List Cond := [Cond.instanceMethod yX4_isPayment, Cond.selects RX4 yX4_isPayment yX4_isPayment, Cond.code yX4_isPayment cX4_isPayment 2 (some .boolean), Cond.methodLink RL 129 yX3_today, Cond.instanceMethod yX3_today, Cond.selects RX3 yX3_today yX3_today, Cond.code yX3_today cX3_today 1 (some .int), Cond.methodLink RL 132 yX4_today, Cond.instanceMethod yX4_today, Cond.selects RX4 yX4_today yX4_today, Cond.code yX4_today cX4_today 1 (some .int), Cond.methodLink RL 133 yX3_claims, Cond.instanceMethod yX3_claims, Cond.selects RX3 yX3_claims yX3_claims, Cond.code yX3_claims cX3_claims 1 (some .int), Cond.methodLink RL 136 yX4_claims, Cond.instanceMethod yX4_claims, Cond.selects RX4 yX4_claims yX4_claims, Cond.code yX4_claims cX4_claims 1 (some .int), Cond.methodLink RL 137 yL_claimOf, Cond.static yL_claimOf, Cond.codeWith yL_claimOf cL_claimOf 4 (some .int) [(0, 9, 12, 21)], Cond.methodLink RL 50 yX3_claimOf, Cond.instanceMethod yX3_claimOf]
def wsL_law0_r22 : List Cond := [Cond.selects RX3 yX3_claimOf yX3_claimOf, Cond.code yX3_claimOf cX3_claimOf 2 (some .int), Cond.methodLink RL 139 yX4_claimOf, Cond.instanceMethod yX4_claimOf, Cond.selects RX4 yX4_claimOf yX4_claimOf, Cond.code yX4_claimOf cX4_claimOf 2 (some .int), Cond.methodLink RL 140 yL_stateOf, Cond.static yL_stateOf, Cond.codeWith yL_stateOf cL_stateOf 4 (some .int) [(0, 9, 12, 21)], Cond.methodLink RL 53 yX3_stateOf, Cond.instanceMethod yX3_stateOf, Cond.selects RX3 yX3_stateOf yX3_stateOf, Cond.code yX3_stateOf cX3_stateOf 2 (some .int), Cond.methodLink RL 142 yX4_stateOf, Cond.instanceMethod yX4_stateOf, Cond.selects RX4 yX4_stateOf yX4_stateOf, Cond.code yX4_stateOf cX4_stateOf 2 (some .int), Cond.methodLink RX4 146 yX4_asks, Cond.instanceMethod yX4_asks, Cond.selects RX4 yX4_asks yX4_asks, Cond.code yX4_asks cX4_asks 2 (some .boolean), Cond.methodLink RL 143 yL_gradeOf, Cond.static yL_gradeOf, Cond.codeWith yL_gradeOf cL_gradeOf 4 (some .int) [(0, 9, 12, 21)]]
def wsL_law0_r23 : List Cond := [Cond.methodLink RL 56 yX3_gradeOf, Cond.instanceMethod yX3_gradeOf, Cond.selects RX3 yX3_gradeOf yX3_gradeOf, Cond.code yX3_gradeOf cX3_gradeOf 2 (some .int), Cond.methodLink RL 145 yX4_gradeOf, Cond.instanceMethod yX4_gradeOf, Cond.selects RX4 yX4_gradeOf yX4_gradeOf, Cond.code yX4_gradeOf cX4_gradeOf 2 (some .int), Cond.methodLink RL 146 yL_room, Cond.static yL_room, Cond.codeWith yL_room cL_room 4 (some .int) [(0, 9, 12, 21)], Cond.methodLink RL 59 yX3_room, Cond.methodLink RL 148 yX4_room, Cond.instanceMethod yX4_room, Cond.selects RX4 yX4_room yX4_room, Cond.code yX4_room cX4_room 2 (some .int), Cond.methodLink RL 149 yL_paidTo, Cond.static yL_paidTo, Cond.codeWith yL_paidTo cL_paidTo 4 (some .int) [(0, 9, 12, 21)], Cond.methodLink RL 62 yX3_paidTo, Cond.instanceMethod yX3_paidTo, Cond.selects RX3 yX3_paidTo yX3_paidTo, Cond.code yX3_paidTo cX3_paidTo 2 (some .int), Cond.methodLink RL 151 yX4_paidTo]
def wsL_law0_r24 : List Cond := [Cond.instanceMethod yX4_paidTo, Cond.selects RX4 yX4_paidTo yX4_paidTo, Cond.code yX4_paidTo cX4_paidTo 2 (some .int), Cond.methodLink RL 152 yL_count, Cond.static yL_count, Cond.codeWith yL_count cL_count 4 (some .int) [(0, 9, 12, 13)], Cond.methodLink RL 65 yX3_count, Cond.instanceMethod yX3_count, Cond.selects RX3 yX3_count yX3_count, Cond.code yX3_count cX3_count 2 (some .int), Cond.methodLink RL 154 yX4_count, Cond.instanceMethod yX4_count, Cond.selects RX4 yX4_count yX4_count, Cond.code yX4_count cX4_count 2 (some .int), Cond.methodLink RL 155 yX3_moneyLeft, Cond.methodLink RL 158 yX4_moneyLeft, Cond.instanceMethod yX4_moneyLeft, Cond.selects RX4 yX4_moneyLeft yX4_moneyLeft, Cond.code yX4_moneyLeft cX4_moneyLeft 1 (some .int), Cond.methodLink RL 159 yX3_fee, Cond.methodLink RL 162 yX4_fee, Cond.instanceMethod yX4_fee, Cond.selects RX4 yX4_fee yX4_fee, Cond.code yX4_fee cX4_fee 1 (some .int)]
def wsL_law0_r25 : List Cond := [Cond.methodLink RL 163 yX3_payments, Cond.instanceMethod yX3_payments, Cond.selects RX3 yX3_payments yX3_payments, Cond.code yX3_payments cX3_payments 1 (some .int), Cond.methodLink RL 166 yX4_payments, Cond.instanceMethod yX4_payments, Cond.selects RX4 yX4_payments yX4_payments, Cond.code yX4_payments cX4_payments 1 (some .int), Cond.methodLink RL 167 yL_paymentTo, Cond.static yL_paymentTo, Cond.codeWith yL_paymentTo cL_paymentTo 4 (some .int) [(0, 9, 12, 21)], Cond.methodLink RL 68 yX3_paymentTo, Cond.instanceMethod yX3_paymentTo, Cond.selects RX3 yX3_paymentTo yX3_paymentTo, Cond.code yX3_paymentTo cX3_paymentTo 2 (some .int), Cond.fieldLink RX3 199 "SettlementFund$PaymentBook" "claim" "[I", Cond.methodLink RL 169 yX4_paymentTo, Cond.instanceMethod yX4_paymentTo, Cond.selects RX4 yX4_paymentTo yX4_paymentTo, Cond.code yX4_paymentTo cX4_paymentTo 2 (some .int), Cond.methodLink RX4 149 yX4_asksPayment, Cond.instanceMethod yX4_asksPayment, Cond.selects RX4 yX4_asksPayment yX4_asksPayment, Cond.code yX4_asksPayment cX4_asksPayment 2 (some .boolean)]
def wsL_law0_r26 : List Cond := [Cond.methodLink RL 170 yL_amountOf, Cond.static yL_amountOf, Cond.codeWith yL_amountOf cL_amountOf 4 (some .int) [(0, 9, 12, 21)], Cond.methodLink RL 71 yX3_amountOf, Cond.instanceMethod yX3_amountOf, Cond.selects RX3 yX3_amountOf yX3_amountOf, Cond.code yX3_amountOf cX3_amountOf 2 (some .int), Cond.methodLink RL 172 yX4_amountOf, Cond.instanceMethod yX4_amountOf, Cond.selects RX4 yX4_amountOf yX4_amountOf, Cond.code yX4_amountOf cX4_amountOf 2 (some .int), Cond.methodLink RL 173 yL_paymentState, Cond.static yL_paymentState, Cond.codeWith yL_paymentState cL_paymentState 4 (some .int) [(0, 9, 12, 21)], Cond.methodLink RL 74 yX3_paymentState, Cond.instanceMethod yX3_paymentState, Cond.selects RX3 yX3_paymentState yX3_paymentState, Cond.code yX3_paymentState cX3_paymentState 2 (some .int), Cond.methodLink RL 175 yX4_paymentState, Cond.instanceMethod yX4_paymentState, Cond.selects RX4 yX4_paymentState yX4_paymentState, Cond.code yX4_paymentState cX4_paymentState 2 (some .int), Cond.methodLink RL 176 yL_shareOf, Cond.static yL_shareOf]
def wsL_law0_r27 : List Cond := [Cond.codeWith yL_shareOf cL_shareOf 5 (some .int) [(0, 10, 13, 21), (0, 10, 17, 13)], Cond.methodLink RL 77 yX3_shareOf, Cond.instanceMethod yX3_shareOf, Cond.selects RX3 yX3_shareOf yX3_shareOf, Cond.code yX3_shareOf cX3_shareOf 3 (some .int), Cond.methodLink RX3 202 yX3_shareFor, Cond.instanceMethod yX3_shareFor, Cond.selects RX3 yX3_shareFor yX3_shareFor, Cond.code yX3_shareFor cX3_shareFor 4 (some .int), Cond.methodLink RL 179 yX4_shareOf, Cond.instanceMethod yX4_shareOf, Cond.selects RX4 yX4_shareOf yX4_shareOf, Cond.code yX4_shareOf cX4_shareOf 3 (some .int), Cond.methodLink RX4 152 yX4_shareNow, Cond.instanceMethod yX4_shareNow, Cond.selects RX4 yX4_shareNow yX4_shareNow, Cond.code yX4_shareNow cX4_shareNow 3 (some .int), Cond.methodLink RL 180 yL_shareBySorting, Cond.static yL_shareBySorting, Cond.codeWith yL_shareBySorting cL_shareBySorting 5 (some .int) [(0, 10, 13, 21), (0, 10, 17, 13)], Cond.methodLink RL 81 yX3_shareBySorting, Cond.instanceMethod yX3_shareBySorting, Cond.selects RX3 yX3_shareBySorting yX3_shareBySorting, Cond.code yX3_shareBySorting cX3_shareBySorting 3 (some .int)]
def wsL_law0_r28 : List Cond := [Cond.methodLink RL 182 yX4_shareBySorting, Cond.instanceMethod yX4_shareBySorting, Cond.selects RX4 yX4_shareBySorting yX4_shareBySorting, Cond.code yX4_shareBySorting cX4_shareBySorting 3 (some .int)]
def wsL_law0 : List Cond := (wsL_law0_r1 ++ (wsL_law0_r2 ++ (wsL_law0_r3 ++ (wsL_law0_r4 ++ (wsL_law0_r5 ++ (wsL_law0_r6 ++ (wsL_law0_r7 ++ (wsL_law0_r8 ++ (wsL_law0_r9 ++ (wsL_law0_r10 ++ (wsL_law0_r11 ++ (wsL_law0_r12 ++ (wsL_law0_r13 ++ (wsL_law0_r14 ++ (wsL_law0_r15 ++ (wsL_law0_r16 ++ (wsL_law0_r17 ++ (wsL_law0_r18 ++ (wsL_law0_r19 ++ (wsL_law0_r20 ++ (wsL_law0_r21 ++ (wsL_law0_r22 ++ (wsL_law0_r23 ++ (wsL_law0_r24 ++ (wsL_law0_r25 ++ (wsL_law0_r26 ++ (wsL_law0_r27 ++ wsL_law0_r28))))))))))))))))))))))))))) ++ wsX30 ++ wsX40 ++ wsX00 ++ wsX10 ++ wsX20 ++ ([] : List Cond)
def wsL_law : List Cond := wsL_law0 ++ (vx_atS RX3 47 "java/lang/IllegalArgumentException" ["java/lang/RuntimeException", "java/lang/Exception"]).filter goodWord ++ (vx_atS RX3 107 "java/lang/IllegalStateException" ["java/lang/RuntimeException", "java/lang/Exception"]).filter goodWord ++ (vx_atS RX3 71 "java/lang/IndexOutOfBoundsException" ["java/lang/RuntimeException", "java/lang/Exception"]).filter goodWord
abbrev vwCl : List vw_C := [(RX0, TX0, 6), (RX1, TX1, 5), (RX2, TX2, 8), (RX3, TX3, 9), (RX4, TX4, 22)]
end
section
theorem dX0_init_0 : decode cX0_init 0 = .ok (.aload_n 0, 1) := by decide +kernel
theorem dX0_init_1 : decode cX0_init 1 = .ok (.invokespecial 3, 3) := by decide +kernel
theorem dX0_init_4 : decode cX0_init 4 = .ok (.aload_n 0, 1) := by decide +kernel
theorem dX0_init_5 : decode cX0_init 5 = .ok (.bipush 30, 2) := by decide +kernel
theorem dX0_init_7 : decode cX0_init 7 = .ok (.newarray .int, 2) := by decide +kernel
theorem dX0_init_9 : decode cX0_init 9 = .ok (.putfield 9, 3) := by decide +kernel
theorem dX0_init_12 : decode cX0_init 12 = .ok (.aload_n 0, 1) := by decide +kernel
theorem dX0_init_13 : decode cX0_init 13 = .ok (.bipush 24, 2) := by decide +kernel
theorem dX0_init_15 : decode cX0_init 15 = .ok (.newarray .int, 2) := by decide +kernel
theorem dX0_init_17 : decode cX0_init 17 = .ok (.putfield 15, 3) := by decide +kernel
theorem dX0_init_20 : decode cX0_init 20 = .ok (.aload_n 0, 1) := by decide +kernel
theorem dX0_init_21 : decode cX0_init 21 = .ok (.bipush 24, 2) := by decide +kernel
theorem dX0_init_23 : decode cX0_init 23 = .ok (.newarray .int, 2) := by decide +kernel
theorem dX0_init_25 : decode cX0_init 25 = .ok (.putfield 18, 3) := by decide +kernel
theorem dX0_init_28 : decode cX0_init 28 = .ok (.aload_n 0, 1) := by decide +kernel
theorem dX0_init_29 : decode cX0_init 29 = .ok (.bipush 24, 2) := by decide +kernel
theorem dX0_init_31 : decode cX0_init 31 = .ok (.newarray .int, 2) := by decide +kernel
theorem dX0_init_33 : decode cX0_init 33 = .ok (.putfield 21, 3) := by decide +kernel
theorem dX0_init_36 : decode cX0_init 36 = .ok (.aload_n 0, 1) := by decide +kernel
theorem dX0_init_37 : decode cX0_init 37 = .ok (.bipush 24, 2) := by decide +kernel
theorem dX0_init_39 : decode cX0_init 39 = .ok (.newarray .boolean, 2) := by decide +kernel
theorem dX0_init_41 : decode cX0_init 41 = .ok (.putfield 24, 3) := by decide +kernel
theorem dX0_init_44 : decode cX0_init 44 = .ok (.iconst 0, 1) := by decide +kernel
theorem dX0_init_45 : decode cX0_init 45 = .ok (.istore_n 1, 1) := by decide +kernel
theorem dX0_init_46 : decode cX0_init 46 = .ok (.iload_n 1, 1) := by decide +kernel
theorem dX0_init_47 : decode cX0_init 47 = .ok (.bipush 30, 2) := by decide +kernel
theorem dX0_init_49 : decode cX0_init 49 = .ok (.if_icmp .ge 16, 3) := by decide +kernel
theorem dX0_init_52 : decode cX0_init 52 = .ok (.aload_n 0, 1) := by decide +kernel
theorem dX0_init_53 : decode cX0_init 53 = .ok (.getfield 9, 3) := by decide +kernel
theorem dX0_init_56 : decode cX0_init 56 = .ok (.iload_n 1, 1) := by decide +kernel
theorem dX0_init_57 : decode cX0_init 57 = .ok (.iconst (-1), 1) := by decide +kernel
theorem dX0_init_58 : decode cX0_init 58 = .ok (.iastore, 1) := by decide +kernel
theorem dX0_init_59 : decode cX0_init 59 = .ok (.iinc 1 1, 3) := by decide +kernel
theorem dX0_init_62 : decode cX0_init 62 = .ok (.goto (-16), 3) := by decide +kernel
theorem dX0_init_65 : decode cX0_init 65 = .ok (.return_, 1) := by decide +kernel
theorem dX0_has_0 : decode cX0_has 0 = .ok (.iload_n 1, 1) := by decide +kernel
theorem dX0_has_1 : decode cX0_has 1 = .ok (.ifCond .lt 15, 3) := by decide +kernel
theorem dX0_has_4 : decode cX0_has 4 = .ok (.iload_n 1, 1) := by decide +kernel
theorem dX0_has_5 : decode cX0_has 5 = .ok (.aload_n 0, 1) := by decide +kernel
theorem dX0_has_6 : decode cX0_has 6 = .ok (.getfield 28, 3) := by decide +kernel
theorem dX0_has_9 : decode cX0_has 9 = .ok (.if_icmp .ge 7, 3) := by decide +kernel
theorem dX0_has_12 : decode cX0_has 12 = .ok (.iconst 1, 1) := by decide +kernel
theorem dX0_has_13 : decode cX0_has 13 = .ok (.goto 4, 3) := by decide +kernel
theorem dX0_has_16 : decode cX0_has 16 = .ok (.iconst 0, 1) := by decide +kernel
theorem dX0_has_17 : decode cX0_has 17 = .ok (.ireturn, 1) := by decide +kernel
theorem dX0_hasPlace_0 : decode cX0_hasPlace 0 = .ok (.aload_n 0, 1) := by decide +kernel
theorem dX0_hasPlace_1 : decode cX0_hasPlace 1 = .ok (.getfield 28, 3) := by decide +kernel
theorem dX0_hasPlace_4 : decode cX0_hasPlace 4 = .ok (.bipush 24, 2) := by decide +kernel
theorem dX0_hasPlace_6 : decode cX0_hasPlace 6 = .ok (.if_icmp .ge 7, 3) := by decide +kernel
theorem dX0_hasPlace_9 : decode cX0_hasPlace 9 = .ok (.iconst 1, 1) := by decide +kernel
theorem dX0_hasPlace_10 : decode cX0_hasPlace 10 = .ok (.goto 4, 3) := by decide +kernel
theorem dX0_hasPlace_13 : decode cX0_hasPlace 13 = .ok (.iconst 0, 1) := by decide +kernel
theorem dX0_hasPlace_14 : decode cX0_hasPlace 14 = .ok (.ireturn, 1) := by decide +kernel
theorem dX0_enter_0 : decode cX0_enter 0 = .ok (.aload_n 0, 1) := by decide +kernel
theorem dX0_enter_1 : decode cX0_enter 1 = .ok (.getfield 28, 3) := by decide +kernel
theorem dX0_enter_4 : decode cX0_enter 4 = .ok (.istore 5, 2) := by decide +kernel
theorem dX0_enter_6 : decode cX0_enter 6 = .ok (.aload_n 0, 1) := by decide +kernel
theorem dX0_enter_7 : decode cX0_enter 7 = .ok (.getfield 9, 3) := by decide +kernel
theorem dX0_enter_10 : decode cX0_enter 10 = .ok (.iload_n 1, 1) := by decide +kernel
theorem dX0_enter_11 : decode cX0_enter 11 = .ok (.iload 5, 2) := by decide +kernel
theorem dX0_enter_13 : decode cX0_enter 13 = .ok (.iastore, 1) := by decide +kernel
theorem dX0_enter_14 : decode cX0_enter 14 = .ok (.aload_n 0, 1) := by decide +kernel
theorem dX0_enter_15 : decode cX0_enter 15 = .ok (.getfield 15, 3) := by decide +kernel
theorem dX0_enter_18 : decode cX0_enter 18 = .ok (.iload 5, 2) := by decide +kernel
theorem dX0_enter_20 : decode cX0_enter 20 = .ok (.iload_n 2, 1) := by decide +kernel
theorem dX0_enter_21 : decode cX0_enter 21 = .ok (.iastore, 1) := by decide +kernel
theorem dX0_enter_22 : decode cX0_enter 22 = .ok (.aload_n 0, 1) := by decide +kernel
theorem dX0_enter_23 : decode cX0_enter 23 = .ok (.getfield 18, 3) := by decide +kernel
theorem dX0_enter_26 : decode cX0_enter 26 = .ok (.iload 5, 2) := by decide +kernel
theorem dX0_enter_28 : decode cX0_enter 28 = .ok (.iload_n 3, 1) := by decide +kernel
theorem dX0_enter_29 : decode cX0_enter 29 = .ok (.iastore, 1) := by decide +kernel
theorem dX0_enter_30 : decode cX0_enter 30 = .ok (.aload_n 0, 1) := by decide +kernel
theorem dX0_enter_31 : decode cX0_enter 31 = .ok (.getfield 21, 3) := by decide +kernel
theorem dX0_enter_34 : decode cX0_enter 34 = .ok (.iload 5, 2) := by decide +kernel
theorem dX0_enter_36 : decode cX0_enter 36 = .ok (.iload 4, 2) := by decide +kernel
theorem dX0_enter_38 : decode cX0_enter 38 = .ok (.iastore, 1) := by decide +kernel
theorem dX0_enter_39 : decode cX0_enter 39 = .ok (.aload_n 0, 1) := by decide +kernel
theorem dX0_enter_40 : decode cX0_enter 40 = .ok (.dup, 1) := by decide +kernel
theorem dX0_enter_41 : decode cX0_enter 41 = .ok (.getfield 28, 3) := by decide +kernel
theorem dX0_enter_44 : decode cX0_enter 44 = .ok (.iconst 1, 1) := by decide +kernel
theorem dX0_enter_45 : decode cX0_enter 45 = .ok (.iadd, 1) := by decide +kernel
theorem dX0_enter_46 : decode cX0_enter 46 = .ok (.putfield 28, 3) := by decide +kernel
theorem dX0_enter_49 : decode cX0_enter 49 = .ok (.iload 5, 2) := by decide +kernel
theorem dX0_enter_51 : decode cX0_enter 51 = .ok (.ireturn, 1) := by decide +kernel
theorem dX0_join_0 : decode cX0_join 0 = .ok (.aload_n 0, 1) := by decide +kernel
theorem dX0_join_1 : decode cX0_join 1 = .ok (.getfield 15, 3) := by decide +kernel
theorem dX0_join_4 : decode cX0_join 4 = .ok (.iload_n 1, 1) := by decide +kernel
theorem dX0_join_5 : decode cX0_join 5 = .ok (.aload_n 0, 1) := by decide +kernel
theorem dX0_join_6 : decode cX0_join 6 = .ok (.getfield 15, 3) := by decide +kernel
theorem dX0_join_9 : decode cX0_join 9 = .ok (.iload_n 1, 1) := by decide +kernel
theorem dX0_join_10 : decode cX0_join 10 = .ok (.iaload, 1) := by decide +kernel
theorem dX0_join_11 : decode cX0_join 11 = .ok (.iload_n 2, 1) := by decide +kernel
theorem dX0_join_12 : decode cX0_join 12 = .ok (.invokestatic 32, 3) := by decide +kernel
theorem dX0_join_15 : decode cX0_join 15 = .ok (.iastore, 1) := by decide +kernel
theorem dX0_join_16 : decode cX0_join 16 = .ok (.iload_n 3, 1) := by decide +kernel
theorem dX0_join_17 : decode cX0_join 17 = .ok (.ifCond .ne 30, 3) := by decide +kernel
theorem dX0_join_20 : decode cX0_join 20 = .ok (.aload_n 0, 1) := by decide +kernel
theorem dX0_join_21 : decode cX0_join 21 = .ok (.getfield 18, 3) := by decide +kernel
theorem dX0_join_24 : decode cX0_join 24 = .ok (.iload_n 1, 1) := by decide +kernel
theorem dX0_join_25 : decode cX0_join 25 = .ok (.iaload, 1) := by decide +kernel
theorem dX0_join_26 : decode cX0_join 26 = .ok (.iconst 1, 1) := by decide +kernel
theorem dX0_join_27 : decode cX0_join 27 = .ok (.if_icmp .eq 13, 3) := by decide +kernel
theorem dX0_join_30 : decode cX0_join 30 = .ok (.aload_n 0, 1) := by decide +kernel
theorem dX0_join_31 : decode cX0_join 31 = .ok (.getfield 18, 3) := by decide +kernel
theorem dX0_join_34 : decode cX0_join 34 = .ok (.iload_n 1, 1) := by decide +kernel
theorem dX0_join_35 : decode cX0_join 35 = .ok (.iaload, 1) := by decide +kernel
theorem dX0_join_36 : decode cX0_join 36 = .ok (.iconst 2, 1) := by decide +kernel
theorem dX0_join_37 : decode cX0_join 37 = .ok (.if_icmp .ne 10, 3) := by decide +kernel
theorem dX0_join_40 : decode cX0_join 40 = .ok (.aload_n 0, 1) := by decide +kernel
theorem dX0_join_41 : decode cX0_join 41 = .ok (.getfield 18, 3) := by decide +kernel
theorem dX0_join_44 : decode cX0_join 44 = .ok (.iload_n 1, 1) := by decide +kernel
theorem dX0_join_45 : decode cX0_join 45 = .ok (.iconst 0, 1) := by decide +kernel
theorem dX0_join_46 : decode cX0_join 46 = .ok (.iastore, 1) := by decide +kernel
theorem dX0_join_47 : decode cX0_join 47 = .ok (.return_, 1) := by decide +kernel
theorem dX0_denyLate_0 : decode cX0_denyLate 0 = .ok (.iconst 0, 1) := by decide +kernel
theorem dX0_denyLate_1 : decode cX0_denyLate 1 = .ok (.istore_n 2, 1) := by decide +kernel
theorem dX0_denyLate_2 : decode cX0_denyLate 2 = .ok (.iload_n 2, 1) := by decide +kernel
theorem dX0_denyLate_3 : decode cX0_denyLate 3 = .ok (.aload_n 0, 1) := by decide +kernel
theorem dX0_denyLate_4 : decode cX0_denyLate 4 = .ok (.getfield 28, 3) := by decide +kernel
theorem dX0_denyLate_7 : decode cX0_denyLate 7 = .ok (.if_icmp .ge 36, 3) := by decide +kernel
theorem dX0_denyLate_10 : decode cX0_denyLate 10 = .ok (.aload_n 0, 1) := by decide +kernel
theorem dX0_denyLate_11 : decode cX0_denyLate 11 = .ok (.getfield 18, 3) := by decide +kernel
theorem dX0_denyLate_14 : decode cX0_denyLate 14 = .ok (.iload_n 2, 1) := by decide +kernel
theorem dX0_denyLate_15 : decode cX0_denyLate 15 = .ok (.iaload, 1) := by decide +kernel
theorem dX0_denyLate_16 : decode cX0_denyLate 16 = .ok (.iconst 1, 1) := by decide +kernel
theorem dX0_denyLate_17 : decode cX0_denyLate 17 = .ok (.if_icmp .ne 20, 3) := by decide +kernel
theorem dX0_denyLate_20 : decode cX0_denyLate 20 = .ok (.aload_n 0, 1) := by decide +kernel
theorem dX0_denyLate_21 : decode cX0_denyLate 21 = .ok (.getfield 21, 3) := by decide +kernel
theorem dX0_denyLate_24 : decode cX0_denyLate 24 = .ok (.iload_n 2, 1) := by decide +kernel
theorem dX0_denyLate_25 : decode cX0_denyLate 25 = .ok (.iaload, 1) := by decide +kernel
theorem dX0_denyLate_26 : decode cX0_denyLate 26 = .ok (.iload_n 1, 1) := by decide +kernel
theorem dX0_denyLate_27 : decode cX0_denyLate 27 = .ok (.if_icmp .ge 10, 3) := by decide +kernel
theorem dX0_denyLate_30 : decode cX0_denyLate 30 = .ok (.aload_n 0, 1) := by decide +kernel
theorem dX0_denyLate_31 : decode cX0_denyLate 31 = .ok (.getfield 18, 3) := by decide +kernel
theorem dX0_denyLate_34 : decode cX0_denyLate 34 = .ok (.iload_n 2, 1) := by decide +kernel
theorem dX0_denyLate_35 : decode cX0_denyLate 35 = .ok (.iconst 2, 1) := by decide +kernel
theorem dX0_denyLate_36 : decode cX0_denyLate 36 = .ok (.iastore, 1) := by decide +kernel
theorem dX0_denyLate_37 : decode cX0_denyLate 37 = .ok (.iinc 2 1, 3) := by decide +kernel
theorem dX0_denyLate_40 : decode cX0_denyLate 40 = .ok (.goto (-38), 3) := by decide +kernel
theorem dX0_denyLate_43 : decode cX0_denyLate 43 = .ok (.return_, 1) := by decide +kernel
theorem dX0_tally_0 : decode cX0_tally 0 = .ok (.iconst 0, 1) := by decide +kernel
theorem dX0_tally_1 : decode cX0_tally 1 = .ok (.istore_n 2, 1) := by decide +kernel
theorem dX0_tally_2 : decode cX0_tally 2 = .ok (.iconst 0, 1) := by decide +kernel
theorem dX0_tally_3 : decode cX0_tally 3 = .ok (.istore_n 3, 1) := by decide +kernel
theorem dX0_tally_4 : decode cX0_tally 4 = .ok (.iload_n 3, 1) := by decide +kernel
theorem dX0_tally_5 : decode cX0_tally 5 = .ok (.aload_n 0, 1) := by decide +kernel
theorem dX0_tally_6 : decode cX0_tally 6 = .ok (.getfield 28, 3) := by decide +kernel
theorem dX0_tally_9 : decode cX0_tally 9 = .ok (.if_icmp .ge 22, 3) := by decide +kernel
theorem dX0_tally_12 : decode cX0_tally 12 = .ok (.aload_n 0, 1) := by decide +kernel
theorem dX0_tally_13 : decode cX0_tally 13 = .ok (.getfield 18, 3) := by decide +kernel
theorem dX0_tally_16 : decode cX0_tally 16 = .ok (.iload_n 3, 1) := by decide +kernel
theorem dX0_tally_17 : decode cX0_tally 17 = .ok (.iaload, 1) := by decide +kernel
theorem dX0_tally_18 : decode cX0_tally 18 = .ok (.iload_n 1, 1) := by decide +kernel
theorem dX0_tally_19 : decode cX0_tally 19 = .ok (.if_icmp .ne 6, 3) := by decide +kernel
theorem dX0_tally_22 : decode cX0_tally 22 = .ok (.iinc 2 1, 3) := by decide +kernel
theorem dX0_tally_25 : decode cX0_tally 25 = .ok (.iinc 3 1, 3) := by decide +kernel
theorem dX0_tally_28 : decode cX0_tally 28 = .ok (.goto (-24), 3) := by decide +kernel
theorem dX0_tally_31 : decode cX0_tally 31 = .ok (.iload_n 2, 1) := by decide +kernel
theorem dX0_tally_32 : decode cX0_tally 32 = .ok (.ireturn, 1) := by decide +kernel
theorem dX1_init_0 : decode cX1_init 0 = .ok (.aload_n 0, 1) := by decide +kernel
theorem dX1_init_1 : decode cX1_init 1 = .ok (.invokespecial 3, 3) := by decide +kernel
theorem dX1_init_4 : decode cX1_init 4 = .ok (.aload_n 0, 1) := by decide +kernel
theorem dX1_init_5 : decode cX1_init 5 = .ok (.bipush 100, 2) := by decide +kernel
theorem dX1_init_7 : decode cX1_init 7 = .ok (.newarray .int, 2) := by decide +kernel
theorem dX1_init_9 : decode cX1_init 9 = .ok (.putfield 9, 3) := by decide +kernel
theorem dX1_init_12 : decode cX1_init 12 = .ok (.aload_n 0, 1) := by decide +kernel
theorem dX1_init_13 : decode cX1_init 13 = .ok (.bipush 100, 2) := by decide +kernel
theorem dX1_init_15 : decode cX1_init 15 = .ok (.newarray .int, 2) := by decide +kernel
theorem dX1_init_17 : decode cX1_init 17 = .ok (.putfield 15, 3) := by decide +kernel
theorem dX1_init_20 : decode cX1_init 20 = .ok (.aload_n 0, 1) := by decide +kernel
theorem dX1_init_21 : decode cX1_init 21 = .ok (.bipush 100, 2) := by decide +kernel
theorem dX1_init_23 : decode cX1_init 23 = .ok (.newarray .int, 2) := by decide +kernel
theorem dX1_init_25 : decode cX1_init 25 = .ok (.putfield 18, 3) := by decide +kernel
theorem dX1_init_28 : decode cX1_init 28 = .ok (.aload_n 0, 1) := by decide +kernel
theorem dX1_init_29 : decode cX1_init 29 = .ok (.bipush 100, 2) := by decide +kernel
theorem dX1_init_31 : decode cX1_init 31 = .ok (.newarray .int, 2) := by decide +kernel
theorem dX1_init_33 : decode cX1_init 33 = .ok (.putfield 21, 3) := by decide +kernel
theorem dX1_init_36 : decode cX1_init 36 = .ok (.return_, 1) := by decide +kernel
theorem dX1_has_0 : decode cX1_has 0 = .ok (.iload_n 1, 1) := by decide +kernel
theorem dX1_has_1 : decode cX1_has 1 = .ok (.ifCond .lt 15, 3) := by decide +kernel
theorem dX1_has_4 : decode cX1_has 4 = .ok (.iload_n 1, 1) := by decide +kernel
theorem dX1_has_5 : decode cX1_has 5 = .ok (.aload_n 0, 1) := by decide +kernel
theorem dX1_has_6 : decode cX1_has 6 = .ok (.getfield 24, 3) := by decide +kernel
theorem dX1_has_9 : decode cX1_has 9 = .ok (.if_icmp .ge 7, 3) := by decide +kernel
theorem dX1_has_12 : decode cX1_has 12 = .ok (.iconst 1, 1) := by decide +kernel
theorem dX1_has_13 : decode cX1_has 13 = .ok (.goto 4, 3) := by decide +kernel
theorem dX1_has_16 : decode cX1_has 16 = .ok (.iconst 0, 1) := by decide +kernel
theorem dX1_has_17 : decode cX1_has 17 = .ok (.ireturn, 1) := by decide +kernel
theorem dX1_hasPlacesFor_0 : decode cX1_hasPlacesFor 0 = .ok (.iload_n 1, 1) := by decide +kernel
theorem dX1_hasPlacesFor_1 : decode cX1_hasPlacesFor 1 = .ok (.bipush 100, 2) := by decide +kernel
theorem dX1_hasPlacesFor_3 : decode cX1_hasPlacesFor 3 = .ok (.aload_n 0, 1) := by decide +kernel
theorem dX1_hasPlacesFor_4 : decode cX1_hasPlacesFor 4 = .ok (.getfield 24, 3) := by decide +kernel
theorem dX1_hasPlacesFor_7 : decode cX1_hasPlacesFor 7 = .ok (.isub, 1) := by decide +kernel
theorem dX1_hasPlacesFor_8 : decode cX1_hasPlacesFor 8 = .ok (.if_icmp .gt 7, 3) := by decide +kernel
theorem dX1_hasPlacesFor_11 : decode cX1_hasPlacesFor 11 = .ok (.iconst 1, 1) := by decide +kernel
theorem dX1_hasPlacesFor_12 : decode cX1_hasPlacesFor 12 = .ok (.goto 4, 3) := by decide +kernel
theorem dX1_hasPlacesFor_15 : decode cX1_hasPlacesFor 15 = .ok (.iconst 0, 1) := by decide +kernel
theorem dX1_hasPlacesFor_16 : decode cX1_hasPlacesFor 16 = .ok (.ireturn, 1) := by decide +kernel
set_option maxRecDepth 20000 in
theorem ggX1_add_X1_hasPlacesFor : GoodIn wsX1_add wsX1_hasPlacesFor := goodIn_r _ [10, 2, 11, 12, 13, 14, 15] (by decide +kernel) (by decide +kernel)
set_option maxRecDepth 20000 in
theorem gX1_add_X1_hasPlacesFor : GoodIn wsX1_add (wsV RX1 28 RX1 yX1_hasPlacesFor wsX1_hasPlacesFor) := goodIn_app (goodIn_of _ (by decide +kernel)) ggX1_add_X1_hasPlacesFor
theorem dX1_add_0 : decode cX1_add 0 = .ok (.aload_n 0, 1) := by decide +kernel
theorem dX1_add_1 : decode cX1_add 1 = .ok (.iconst 1, 1) := by decide +kernel
theorem dX1_add_2 : decode cX1_add 2 = .ok (.invokevirtual 28, 3) := by decide +kernel
theorem dX1_add_5 : decode cX1_add 5 = .ok (.ifCond .eq 53, 3) := by decide +kernel
theorem dX1_add_8 : decode cX1_add 8 = .ok (.aload_n 0, 1) := by decide +kernel
theorem dX1_add_9 : decode cX1_add 9 = .ok (.getfield 9, 3) := by decide +kernel
theorem dX1_add_12 : decode cX1_add 12 = .ok (.aload_n 0, 1) := by decide +kernel
theorem dX1_add_13 : decode cX1_add 13 = .ok (.getfield 24, 3) := by decide +kernel
theorem dX1_add_16 : decode cX1_add 16 = .ok (.iload_n 1, 1) := by decide +kernel
theorem dX1_add_17 : decode cX1_add 17 = .ok (.iastore, 1) := by decide +kernel
theorem dX1_add_18 : decode cX1_add 18 = .ok (.aload_n 0, 1) := by decide +kernel
theorem dX1_add_19 : decode cX1_add 19 = .ok (.getfield 15, 3) := by decide +kernel
theorem dX1_add_22 : decode cX1_add 22 = .ok (.aload_n 0, 1) := by decide +kernel
theorem dX1_add_23 : decode cX1_add 23 = .ok (.getfield 24, 3) := by decide +kernel
theorem dX1_add_26 : decode cX1_add 26 = .ok (.iload_n 2, 1) := by decide +kernel
theorem dX1_add_27 : decode cX1_add 27 = .ok (.iastore, 1) := by decide +kernel
theorem dX1_add_28 : decode cX1_add 28 = .ok (.aload_n 0, 1) := by decide +kernel
theorem dX1_add_29 : decode cX1_add 29 = .ok (.getfield 18, 3) := by decide +kernel
theorem dX1_add_32 : decode cX1_add 32 = .ok (.aload_n 0, 1) := by decide +kernel
theorem dX1_add_33 : decode cX1_add 33 = .ok (.getfield 24, 3) := by decide +kernel
theorem dX1_add_36 : decode cX1_add 36 = .ok (.iconst 0, 1) := by decide +kernel
theorem dX1_add_37 : decode cX1_add 37 = .ok (.iastore, 1) := by decide +kernel
theorem dX1_add_38 : decode cX1_add 38 = .ok (.aload_n 0, 1) := by decide +kernel
theorem dX1_add_39 : decode cX1_add 39 = .ok (.getfield 21, 3) := by decide +kernel
theorem dX1_add_42 : decode cX1_add 42 = .ok (.aload_n 0, 1) := by decide +kernel
theorem dX1_add_43 : decode cX1_add 43 = .ok (.getfield 24, 3) := by decide +kernel
theorem dX1_add_46 : decode cX1_add 46 = .ok (.iload_n 3, 1) := by decide +kernel
theorem dX1_add_47 : decode cX1_add 47 = .ok (.iastore, 1) := by decide +kernel
theorem dX1_add_48 : decode cX1_add 48 = .ok (.aload_n 0, 1) := by decide +kernel
theorem dX1_add_49 : decode cX1_add 49 = .ok (.dup, 1) := by decide +kernel
theorem dX1_add_50 : decode cX1_add 50 = .ok (.getfield 24, 3) := by decide +kernel
theorem dX1_add_53 : decode cX1_add 53 = .ok (.iconst 1, 1) := by decide +kernel
theorem dX1_add_54 : decode cX1_add 54 = .ok (.iadd, 1) := by decide +kernel
theorem dX1_add_55 : decode cX1_add 55 = .ok (.putfield 24, 3) := by decide +kernel
theorem dX1_add_58 : decode cX1_add 58 = .ok (.return_, 1) := by decide +kernel
theorem dX1_voidLate_0 : decode cX1_voidLate 0 = .ok (.iconst 0, 1) := by decide +kernel
theorem dX1_voidLate_1 : decode cX1_voidLate 1 = .ok (.istore_n 2, 1) := by decide +kernel
theorem dX1_voidLate_2 : decode cX1_voidLate 2 = .ok (.iload_n 2, 1) := by decide +kernel
theorem dX1_voidLate_3 : decode cX1_voidLate 3 = .ok (.aload_n 0, 1) := by decide +kernel
theorem dX1_voidLate_4 : decode cX1_voidLate 4 = .ok (.getfield 24, 3) := by decide +kernel
theorem dX1_voidLate_7 : decode cX1_voidLate 7 = .ok (.if_icmp .ge 38, 3) := by decide +kernel
theorem dX1_voidLate_10 : decode cX1_voidLate 10 = .ok (.aload_n 0, 1) := by decide +kernel
theorem dX1_voidLate_11 : decode cX1_voidLate 11 = .ok (.getfield 18, 3) := by decide +kernel
theorem dX1_voidLate_14 : decode cX1_voidLate 14 = .ok (.iload_n 2, 1) := by decide +kernel
theorem dX1_voidLate_15 : decode cX1_voidLate 15 = .ok (.iaload, 1) := by decide +kernel
theorem dX1_voidLate_16 : decode cX1_voidLate 16 = .ok (.ifCond .ne 23, 3) := by decide +kernel
theorem dX1_voidLate_19 : decode cX1_voidLate 19 = .ok (.iload_n 1, 1) := by decide +kernel
theorem dX1_voidLate_20 : decode cX1_voidLate 20 = .ok (.aload_n 0, 1) := by decide +kernel
theorem dX1_voidLate_21 : decode cX1_voidLate 21 = .ok (.getfield 21, 3) := by decide +kernel
theorem dX1_voidLate_24 : decode cX1_voidLate 24 = .ok (.iload_n 2, 1) := by decide +kernel
theorem dX1_voidLate_25 : decode cX1_voidLate 25 = .ok (.iaload, 1) := by decide +kernel
theorem dX1_voidLate_26 : decode cX1_voidLate 26 = .ok (.isub, 1) := by decide +kernel
theorem dX1_voidLate_27 : decode cX1_voidLate 27 = .ok (.bipush 30, 2) := by decide +kernel
theorem dX1_voidLate_29 : decode cX1_voidLate 29 = .ok (.if_icmp .le 10, 3) := by decide +kernel
theorem dX1_voidLate_32 : decode cX1_voidLate 32 = .ok (.aload_n 0, 1) := by decide +kernel
theorem dX1_voidLate_33 : decode cX1_voidLate 33 = .ok (.getfield 18, 3) := by decide +kernel
theorem dX1_voidLate_36 : decode cX1_voidLate 36 = .ok (.iload_n 2, 1) := by decide +kernel
theorem dX1_voidLate_37 : decode cX1_voidLate 37 = .ok (.iconst 2, 1) := by decide +kernel
theorem dX1_voidLate_38 : decode cX1_voidLate 38 = .ok (.iastore, 1) := by decide +kernel
theorem dX1_voidLate_39 : decode cX1_voidLate 39 = .ok (.iinc 2 1, 3) := by decide +kernel
theorem dX1_voidLate_42 : decode cX1_voidLate 42 = .ok (.goto (-40), 3) := by decide +kernel
theorem dX1_voidLate_45 : decode cX1_voidLate 45 = .ok (.return_, 1) := by decide +kernel
theorem dX1_hasOpen_0 : decode cX1_hasOpen 0 = .ok (.iconst 0, 1) := by decide +kernel
theorem dX1_hasOpen_1 : decode cX1_hasOpen 1 = .ok (.istore_n 1, 1) := by decide +kernel
theorem dX1_hasOpen_2 : decode cX1_hasOpen 2 = .ok (.iload_n 1, 1) := by decide +kernel
theorem dX1_hasOpen_3 : decode cX1_hasOpen 3 = .ok (.aload_n 0, 1) := by decide +kernel
theorem dX1_hasOpen_4 : decode cX1_hasOpen 4 = .ok (.getfield 24, 3) := by decide +kernel
theorem dX1_hasOpen_7 : decode cX1_hasOpen 7 = .ok (.if_icmp .ge 20, 3) := by decide +kernel
theorem dX1_hasOpen_10 : decode cX1_hasOpen 10 = .ok (.aload_n 0, 1) := by decide +kernel
theorem dX1_hasOpen_11 : decode cX1_hasOpen 11 = .ok (.getfield 18, 3) := by decide +kernel
theorem dX1_hasOpen_14 : decode cX1_hasOpen 14 = .ok (.iload_n 1, 1) := by decide +kernel
theorem dX1_hasOpen_15 : decode cX1_hasOpen 15 = .ok (.iaload, 1) := by decide +kernel
theorem dX1_hasOpen_16 : decode cX1_hasOpen 16 = .ok (.ifCond .ne 5, 3) := by decide +kernel
theorem dX1_hasOpen_19 : decode cX1_hasOpen 19 = .ok (.iconst 1, 1) := by decide +kernel
theorem dX1_hasOpen_20 : decode cX1_hasOpen 20 = .ok (.ireturn, 1) := by decide +kernel
theorem dX1_hasOpen_21 : decode cX1_hasOpen 21 = .ok (.iinc 1 1, 3) := by decide +kernel
theorem dX1_hasOpen_24 : decode cX1_hasOpen 24 = .ok (.goto (-22), 3) := by decide +kernel
theorem dX1_hasOpen_27 : decode cX1_hasOpen 27 = .ok (.iconst 0, 1) := by decide +kernel
theorem dX1_hasOpen_28 : decode cX1_hasOpen 28 = .ok (.ireturn, 1) := by decide +kernel
theorem dX1_hasVoidFor_0 : decode cX1_hasVoidFor 0 = .ok (.iconst 0, 1) := by decide +kernel
theorem dX1_hasVoidFor_1 : decode cX1_hasVoidFor 1 = .ok (.istore_n 2, 1) := by decide +kernel
theorem dX1_hasVoidFor_2 : decode cX1_hasVoidFor 2 = .ok (.iload_n 2, 1) := by decide +kernel
theorem dX1_hasVoidFor_3 : decode cX1_hasVoidFor 3 = .ok (.aload_n 0, 1) := by decide +kernel
theorem dX1_hasVoidFor_4 : decode cX1_hasVoidFor 4 = .ok (.getfield 24, 3) := by decide +kernel
theorem dX1_hasVoidFor_7 : decode cX1_hasVoidFor 7 = .ok (.if_icmp .ge 31, 3) := by decide +kernel
theorem dX1_hasVoidFor_10 : decode cX1_hasVoidFor 10 = .ok (.aload_n 0, 1) := by decide +kernel
theorem dX1_hasVoidFor_11 : decode cX1_hasVoidFor 11 = .ok (.getfield 9, 3) := by decide +kernel
theorem dX1_hasVoidFor_14 : decode cX1_hasVoidFor 14 = .ok (.iload_n 2, 1) := by decide +kernel
theorem dX1_hasVoidFor_15 : decode cX1_hasVoidFor 15 = .ok (.iaload, 1) := by decide +kernel
theorem dX1_hasVoidFor_16 : decode cX1_hasVoidFor 16 = .ok (.iload_n 1, 1) := by decide +kernel
theorem dX1_hasVoidFor_17 : decode cX1_hasVoidFor 17 = .ok (.if_icmp .ne 15, 3) := by decide +kernel
theorem dX1_hasVoidFor_20 : decode cX1_hasVoidFor 20 = .ok (.aload_n 0, 1) := by decide +kernel
theorem dX1_hasVoidFor_21 : decode cX1_hasVoidFor 21 = .ok (.getfield 18, 3) := by decide +kernel
theorem dX1_hasVoidFor_24 : decode cX1_hasVoidFor 24 = .ok (.iload_n 2, 1) := by decide +kernel
theorem dX1_hasVoidFor_25 : decode cX1_hasVoidFor 25 = .ok (.iaload, 1) := by decide +kernel
theorem dX1_hasVoidFor_26 : decode cX1_hasVoidFor 26 = .ok (.iconst 2, 1) := by decide +kernel
theorem dX1_hasVoidFor_27 : decode cX1_hasVoidFor 27 = .ok (.if_icmp .ne 5, 3) := by decide +kernel
theorem dX1_hasVoidFor_30 : decode cX1_hasVoidFor 30 = .ok (.iconst 1, 1) := by decide +kernel
theorem dX1_hasVoidFor_31 : decode cX1_hasVoidFor 31 = .ok (.ireturn, 1) := by decide +kernel
theorem dX1_hasVoidFor_32 : decode cX1_hasVoidFor 32 = .ok (.iinc 2 1, 3) := by decide +kernel
theorem dX1_hasVoidFor_35 : decode cX1_hasVoidFor 35 = .ok (.goto (-33), 3) := by decide +kernel
theorem dX1_hasVoidFor_38 : decode cX1_hasVoidFor 38 = .ok (.iconst 0, 1) := by decide +kernel
theorem dX1_hasVoidFor_39 : decode cX1_hasVoidFor 39 = .ok (.ireturn, 1) := by decide +kernel
theorem dX1_sumFor_0 : decode cX1_sumFor 0 = .ok (.iconst 0, 1) := by decide +kernel
theorem dX1_sumFor_1 : decode cX1_sumFor 1 = .ok (.istore_n 2, 1) := by decide +kernel
theorem dX1_sumFor_2 : decode cX1_sumFor 2 = .ok (.iconst 0, 1) := by decide +kernel
theorem dX1_sumFor_3 : decode cX1_sumFor 3 = .ok (.istore_n 3, 1) := by decide +kernel
theorem dX1_sumFor_4 : decode cX1_sumFor 4 = .ok (.iload_n 3, 1) := by decide +kernel
theorem dX1_sumFor_5 : decode cX1_sumFor 5 = .ok (.aload_n 0, 1) := by decide +kernel
theorem dX1_sumFor_6 : decode cX1_sumFor 6 = .ok (.getfield 24, 3) := by decide +kernel
theorem dX1_sumFor_9 : decode cX1_sumFor 9 = .ok (.if_icmp .ge 38, 3) := by decide +kernel
theorem dX1_sumFor_12 : decode cX1_sumFor 12 = .ok (.aload_n 0, 1) := by decide +kernel
theorem dX1_sumFor_13 : decode cX1_sumFor 13 = .ok (.getfield 9, 3) := by decide +kernel
theorem dX1_sumFor_16 : decode cX1_sumFor 16 = .ok (.iload_n 3, 1) := by decide +kernel
theorem dX1_sumFor_17 : decode cX1_sumFor 17 = .ok (.iaload, 1) := by decide +kernel
theorem dX1_sumFor_18 : decode cX1_sumFor 18 = .ok (.iload_n 1, 1) := by decide +kernel
theorem dX1_sumFor_19 : decode cX1_sumFor 19 = .ok (.if_icmp .ne 22, 3) := by decide +kernel
theorem dX1_sumFor_22 : decode cX1_sumFor 22 = .ok (.aload_n 0, 1) := by decide +kernel
theorem dX1_sumFor_23 : decode cX1_sumFor 23 = .ok (.getfield 18, 3) := by decide +kernel
theorem dX1_sumFor_26 : decode cX1_sumFor 26 = .ok (.iload_n 3, 1) := by decide +kernel
theorem dX1_sumFor_27 : decode cX1_sumFor 27 = .ok (.iaload, 1) := by decide +kernel
theorem dX1_sumFor_28 : decode cX1_sumFor 28 = .ok (.iconst 2, 1) := by decide +kernel
theorem dX1_sumFor_29 : decode cX1_sumFor 29 = .ok (.if_icmp .eq 12, 3) := by decide +kernel
theorem dX1_sumFor_32 : decode cX1_sumFor 32 = .ok (.iload_n 2, 1) := by decide +kernel
theorem dX1_sumFor_33 : decode cX1_sumFor 33 = .ok (.aload_n 0, 1) := by decide +kernel
theorem dX1_sumFor_34 : decode cX1_sumFor 34 = .ok (.getfield 15, 3) := by decide +kernel
theorem dX1_sumFor_37 : decode cX1_sumFor 37 = .ok (.iload_n 3, 1) := by decide +kernel
theorem dX1_sumFor_38 : decode cX1_sumFor 38 = .ok (.iaload, 1) := by decide +kernel
theorem dX1_sumFor_39 : decode cX1_sumFor 39 = .ok (.iadd, 1) := by decide +kernel
theorem dX1_sumFor_40 : decode cX1_sumFor 40 = .ok (.istore_n 2, 1) := by decide +kernel
theorem dX1_sumFor_41 : decode cX1_sumFor 41 = .ok (.iinc 3 1, 3) := by decide +kernel
theorem dX1_sumFor_44 : decode cX1_sumFor 44 = .ok (.goto (-40), 3) := by decide +kernel
theorem dX1_sumFor_47 : decode cX1_sumFor 47 = .ok (.iload_n 2, 1) := by decide +kernel
theorem dX1_sumFor_48 : decode cX1_sumFor 48 = .ok (.ireturn, 1) := by decide +kernel
theorem dX1_sumOfAll_0 : decode cX1_sumOfAll 0 = .ok (.iconst 0, 1) := by decide +kernel
theorem dX1_sumOfAll_1 : decode cX1_sumOfAll 1 = .ok (.istore_n 1, 1) := by decide +kernel
theorem dX1_sumOfAll_2 : decode cX1_sumOfAll 2 = .ok (.iconst 0, 1) := by decide +kernel
theorem dX1_sumOfAll_3 : decode cX1_sumOfAll 3 = .ok (.istore_n 2, 1) := by decide +kernel
theorem dX1_sumOfAll_4 : decode cX1_sumOfAll 4 = .ok (.iload_n 2, 1) := by decide +kernel
theorem dX1_sumOfAll_5 : decode cX1_sumOfAll 5 = .ok (.aload_n 0, 1) := by decide +kernel
theorem dX1_sumOfAll_6 : decode cX1_sumOfAll 6 = .ok (.getfield 24, 3) := by decide +kernel
theorem dX1_sumOfAll_9 : decode cX1_sumOfAll 9 = .ok (.if_icmp .ge 28, 3) := by decide +kernel
theorem dX1_sumOfAll_12 : decode cX1_sumOfAll 12 = .ok (.aload_n 0, 1) := by decide +kernel
theorem dX1_sumOfAll_13 : decode cX1_sumOfAll 13 = .ok (.getfield 18, 3) := by decide +kernel
theorem dX1_sumOfAll_16 : decode cX1_sumOfAll 16 = .ok (.iload_n 2, 1) := by decide +kernel
theorem dX1_sumOfAll_17 : decode cX1_sumOfAll 17 = .ok (.iaload, 1) := by decide +kernel
theorem dX1_sumOfAll_18 : decode cX1_sumOfAll 18 = .ok (.iconst 2, 1) := by decide +kernel
theorem dX1_sumOfAll_19 : decode cX1_sumOfAll 19 = .ok (.if_icmp .eq 12, 3) := by decide +kernel
theorem dX1_sumOfAll_22 : decode cX1_sumOfAll 22 = .ok (.iload_n 1, 1) := by decide +kernel
theorem dX1_sumOfAll_23 : decode cX1_sumOfAll 23 = .ok (.aload_n 0, 1) := by decide +kernel
theorem dX1_sumOfAll_24 : decode cX1_sumOfAll 24 = .ok (.getfield 15, 3) := by decide +kernel
theorem dX1_sumOfAll_27 : decode cX1_sumOfAll 27 = .ok (.iload_n 2, 1) := by decide +kernel
theorem dX1_sumOfAll_28 : decode cX1_sumOfAll 28 = .ok (.iaload, 1) := by decide +kernel
theorem dX1_sumOfAll_29 : decode cX1_sumOfAll 29 = .ok (.iadd, 1) := by decide +kernel
theorem dX1_sumOfAll_30 : decode cX1_sumOfAll 30 = .ok (.istore_n 1, 1) := by decide +kernel
theorem dX1_sumOfAll_31 : decode cX1_sumOfAll 31 = .ok (.iinc 2 1, 3) := by decide +kernel
theorem dX1_sumOfAll_34 : decode cX1_sumOfAll 34 = .ok (.goto (-30), 3) := by decide +kernel
theorem dX1_sumOfAll_37 : decode cX1_sumOfAll 37 = .ok (.iload_n 1, 1) := by decide +kernel
theorem dX1_sumOfAll_38 : decode cX1_sumOfAll 38 = .ok (.ireturn, 1) := by decide +kernel
theorem dX2_init_0 : decode cX2_init 0 = .ok (.aload_n 0, 1) := by decide +kernel
theorem dX2_init_1 : decode cX2_init 1 = .ok (.invokespecial 3, 3) := by decide +kernel
theorem dX2_init_4 : decode cX2_init 4 = .ok (.aload_n 0, 1) := by decide +kernel
theorem dX2_init_5 : decode cX2_init 5 = .ok (.bipush 24, 2) := by decide +kernel
theorem dX2_init_7 : decode cX2_init 7 = .ok (.newarray .int, 2) := by decide +kernel
theorem dX2_init_9 : decode cX2_init 9 = .ok (.putfield 9, 3) := by decide +kernel
theorem dX2_init_12 : decode cX2_init 12 = .ok (.aload_n 0, 1) := by decide +kernel
theorem dX2_init_13 : decode cX2_init 13 = .ok (.bipush 24, 2) := by decide +kernel
theorem dX2_init_15 : decode cX2_init 15 = .ok (.newarray .int, 2) := by decide +kernel
theorem dX2_init_17 : decode cX2_init 17 = .ok (.putfield 15, 3) := by decide +kernel
theorem dX2_init_20 : decode cX2_init 20 = .ok (.aload_n 0, 1) := by decide +kernel
theorem dX2_init_21 : decode cX2_init 21 = .ok (.bipush 24, 2) := by decide +kernel
theorem dX2_init_23 : decode cX2_init 23 = .ok (.newarray .int, 2) := by decide +kernel
theorem dX2_init_25 : decode cX2_init 25 = .ok (.putfield 18, 3) := by decide +kernel
theorem dX2_init_28 : decode cX2_init 28 = .ok (.aload_n 0, 1) := by decide +kernel
theorem dX2_init_29 : decode cX2_init 29 = .ok (.bipush 24, 2) := by decide +kernel
theorem dX2_init_31 : decode cX2_init 31 = .ok (.newarray .int, 2) := by decide +kernel
theorem dX2_init_33 : decode cX2_init 33 = .ok (.putfield 21, 3) := by decide +kernel
theorem dX2_init_36 : decode cX2_init 36 = .ok (.aload_n 0, 1) := by decide +kernel
theorem dX2_init_37 : decode cX2_init 37 = .ok (.bipush 24, 2) := by decide +kernel
theorem dX2_init_39 : decode cX2_init 39 = .ok (.newarray .boolean, 2) := by decide +kernel
theorem dX2_init_41 : decode cX2_init 41 = .ok (.putfield 24, 3) := by decide +kernel
theorem dX2_init_44 : decode cX2_init 44 = .ok (.return_, 1) := by decide +kernel
theorem dX2_clear_0 : decode cX2_clear 0 = .ok (.aload_n 0, 1) := by decide +kernel
theorem dX2_clear_1 : decode cX2_clear 1 = .ok (.iconst 0, 1) := by decide +kernel
theorem dX2_clear_2 : decode cX2_clear 2 = .ok (.putfield 28, 3) := by decide +kernel
theorem dX2_clear_5 : decode cX2_clear 5 = .ok (.return_, 1) := by decide +kernel
theorem dX2_add_0 : decode cX2_add 0 = .ok (.aload_n 0, 1) := by decide +kernel
theorem dX2_add_1 : decode cX2_add 1 = .ok (.getfield 28, 3) := by decide +kernel
theorem dX2_add_4 : decode cX2_add 4 = .ok (.bipush 24, 2) := by decide +kernel
theorem dX2_add_6 : decode cX2_add 6 = .ok (.if_icmp .ge 43, 3) := by decide +kernel
theorem dX2_add_9 : decode cX2_add 9 = .ok (.aload_n 0, 1) := by decide +kernel
theorem dX2_add_10 : decode cX2_add 10 = .ok (.getfield 9, 3) := by decide +kernel
theorem dX2_add_13 : decode cX2_add 13 = .ok (.aload_n 0, 1) := by decide +kernel
theorem dX2_add_14 : decode cX2_add 14 = .ok (.getfield 28, 3) := by decide +kernel
theorem dX2_add_17 : decode cX2_add 17 = .ok (.iload_n 1, 1) := by decide +kernel
theorem dX2_add_18 : decode cX2_add 18 = .ok (.iastore, 1) := by decide +kernel
theorem dX2_add_19 : decode cX2_add 19 = .ok (.aload_n 0, 1) := by decide +kernel
theorem dX2_add_20 : decode cX2_add 20 = .ok (.getfield 15, 3) := by decide +kernel
theorem dX2_add_23 : decode cX2_add 23 = .ok (.aload_n 0, 1) := by decide +kernel
theorem dX2_add_24 : decode cX2_add 24 = .ok (.getfield 28, 3) := by decide +kernel
theorem dX2_add_27 : decode cX2_add 27 = .ok (.iload_n 2, 1) := by decide +kernel
theorem dX2_add_28 : decode cX2_add 28 = .ok (.iastore, 1) := by decide +kernel
theorem dX2_add_29 : decode cX2_add 29 = .ok (.aload_n 0, 1) := by decide +kernel
theorem dX2_add_30 : decode cX2_add 30 = .ok (.getfield 18, 3) := by decide +kernel
theorem dX2_add_33 : decode cX2_add 33 = .ok (.aload_n 0, 1) := by decide +kernel
theorem dX2_add_34 : decode cX2_add 34 = .ok (.getfield 28, 3) := by decide +kernel
theorem dX2_add_37 : decode cX2_add 37 = .ok (.iload_n 3, 1) := by decide +kernel
theorem dX2_add_38 : decode cX2_add 38 = .ok (.iastore, 1) := by decide +kernel
theorem dX2_add_39 : decode cX2_add 39 = .ok (.aload_n 0, 1) := by decide +kernel
theorem dX2_add_40 : decode cX2_add 40 = .ok (.dup, 1) := by decide +kernel
theorem dX2_add_41 : decode cX2_add 41 = .ok (.getfield 28, 3) := by decide +kernel
theorem dX2_add_44 : decode cX2_add 44 = .ok (.iconst 1, 1) := by decide +kernel
theorem dX2_add_45 : decode cX2_add 45 = .ok (.iadd, 1) := by decide +kernel
theorem dX2_add_46 : decode cX2_add 46 = .ok (.putfield 28, 3) := by decide +kernel
theorem dX2_add_49 : decode cX2_add 49 = .ok (.return_, 1) := by decide +kernel
set_option maxRecDepth 20000 in
theorem ggX2_shareOut_X2_sortByRoomPerPoint : GoodIn wsX2_shareOut wsX2_sortByRoomPerPoint := goodIn_r _ [7, 1, 8, 9, 10, 6, 11, 12, 13, 14, 15, 16, 17, 18, 19, 20, 21, 22, 62, 63, 64, 65, 66, 67, 68, 69] (by decide +kernel) (by decide +kernel)
set_option maxRecDepth 20000 in
theorem gX2_shareOut_X2_sortByRoomPerPoint : GoodIn wsX2_shareOut (wsV RX2 32 RX2 yX2_sortByRoomPerPoint wsX2_sortByRoomPerPoint) := goodIn_app (goodIn_of _ (by decide +kernel)) ggX2_shareOut_X2_sortByRoomPerPoint
set_option maxRecDepth 20000 in
theorem ggX2_shareOut_X2_shareOnce : GoodIn wsX2_shareOut wsX2_shareOnce := goodIn_r _ [26, 27, 28, 1, 29, 13, 30, 31, 32, 6, 33, 34, 35, 36, 37, 12, 38, 39, 40, 41, 2, 42, 43, 44, 45, 46, 47, 48, 49, 18, 50, 51, 52, 53, 62, 63, 64, 65, 66, 67, 68, 69] (by decide +kernel) (by decide +kernel)
set_option maxRecDepth 20000 in
theorem gX2_shareOut_X2_shareOnce : GoodIn wsX2_shareOut (wsV RX2 35 RX2 yX2_shareOnce wsX2_shareOnce) := goodIn_app (goodIn_of _ (by decide +kernel)) ggX2_shareOut_X2_shareOnce
set_option maxRecDepth 20000 in
theorem ggX2_shareOut_X2_placeOfSmallest : GoodIn wsX2_shareOut wsX2_placeOfSmallest := goodIn_r _ [57, 1, 2, 18, 62, 63, 64, 65, 66, 67, 68, 69] (by decide +kernel) (by decide +kernel)
set_option maxRecDepth 20000 in
theorem gX2_shareOut_X2_placeOfSmallest : GoodIn wsX2_shareOut (wsV RX2 39 RX2 yX2_placeOfSmallest wsX2_placeOfSmallest) := goodIn_app (goodIn_of _ (by decide +kernel)) ggX2_shareOut_X2_placeOfSmallest
set_option maxRecDepth 20000 in
theorem ggX2_shareOut_X2_takeOut : GoodIn wsX2_shareOut wsX2_takeOut := goodIn_r _ [61, 1, 19, 20, 21, 6, 22, 18, 13, 12, 62, 63, 64, 65, 66, 67, 68, 69] (by decide +kernel) (by decide +kernel)
set_option maxRecDepth 20000 in
theorem gX2_shareOut_X2_takeOut : GoodIn wsX2_shareOut (wsV RX2 43 RX2 yX2_takeOut wsX2_takeOut) := goodIn_app (goodIn_of _ (by decide +kernel)) ggX2_shareOut_X2_takeOut
theorem dX2_shareOut_0 : decode cX2_shareOut 0 = .ok (.iload_n 3, 1) := by decide +kernel
theorem dX2_shareOut_1 : decode cX2_shareOut 1 = .ok (.ifCond .eq 7, 3) := by decide +kernel
theorem dX2_shareOut_4 : decode cX2_shareOut 4 = .ok (.aload_n 0, 1) := by decide +kernel
theorem dX2_shareOut_5 : decode cX2_shareOut 5 = .ok (.invokevirtual 32, 3) := by decide +kernel
theorem dX2_shareOut_8 : decode cX2_shareOut 8 = .ok (.aload_n 0, 1) := by decide +kernel
theorem dX2_shareOut_9 : decode cX2_shareOut 9 = .ok (.getfield 28, 3) := by decide +kernel
theorem dX2_shareOut_12 : decode cX2_shareOut 12 = .ok (.istore 4, 2) := by decide +kernel
theorem dX2_shareOut_14 : decode cX2_shareOut 14 = .ok (.iload 4, 2) := by decide +kernel
theorem dX2_shareOut_16 : decode cX2_shareOut 16 = .ok (.ifCond .le 45, 3) := by decide +kernel
theorem dX2_shareOut_19 : decode cX2_shareOut 19 = .ok (.aload_n 0, 1) := by decide +kernel
theorem dX2_shareOut_20 : decode cX2_shareOut 20 = .ok (.iload_n 1, 1) := by decide +kernel
theorem dX2_shareOut_21 : decode cX2_shareOut 21 = .ok (.iload_n 3, 1) := by decide +kernel
theorem dX2_shareOut_22 : decode cX2_shareOut 22 = .ok (.invokevirtual 35, 3) := by decide +kernel
theorem dX2_shareOut_25 : decode cX2_shareOut 25 = .ok (.aload_n 0, 1) := by decide +kernel
theorem dX2_shareOut_26 : decode cX2_shareOut 26 = .ok (.invokevirtual 39, 3) := by decide +kernel
theorem dX2_shareOut_29 : decode cX2_shareOut 29 = .ok (.istore 5, 2) := by decide +kernel
theorem dX2_shareOut_31 : decode cX2_shareOut 31 = .ok (.iload 5, 2) := by decide +kernel
theorem dX2_shareOut_33 : decode cX2_shareOut 33 = .ok (.iconst (-1), 1) := by decide +kernel
theorem dX2_shareOut_34 : decode cX2_shareOut 34 = .ok (.if_icmp .eq 14, 3) := by decide +kernel
theorem dX2_shareOut_37 : decode cX2_shareOut 37 = .ok (.aload_n 0, 1) := by decide +kernel
theorem dX2_shareOut_38 : decode cX2_shareOut 38 = .ok (.getfield 21, 3) := by decide +kernel
theorem dX2_shareOut_41 : decode cX2_shareOut 41 = .ok (.iload 5, 2) := by decide +kernel
theorem dX2_shareOut_43 : decode cX2_shareOut 43 = .ok (.iaload, 1) := by decide +kernel
theorem dX2_shareOut_44 : decode cX2_shareOut 44 = .ok (.iload_n 2, 1) := by decide +kernel
theorem dX2_shareOut_45 : decode cX2_shareOut 45 = .ok (.if_icmp .lt 4, 3) := by decide +kernel
theorem dX2_shareOut_48 : decode cX2_shareOut 48 = .ok (.return_, 1) := by decide +kernel
theorem dX2_shareOut_49 : decode cX2_shareOut 49 = .ok (.aload_n 0, 1) := by decide +kernel
theorem dX2_shareOut_50 : decode cX2_shareOut 50 = .ok (.iload 5, 2) := by decide +kernel
theorem dX2_shareOut_52 : decode cX2_shareOut 52 = .ok (.invokevirtual 43, 3) := by decide +kernel
theorem dX2_shareOut_55 : decode cX2_shareOut 55 = .ok (.iinc 4 (-1), 3) := by decide +kernel
theorem dX2_shareOut_58 : decode cX2_shareOut 58 = .ok (.goto (-44), 3) := by decide +kernel
theorem dX2_shareOut_61 : decode cX2_shareOut 61 = .ok (.return_, 1) := by decide +kernel
theorem dX2_shareGivenTo_0 : decode cX2_shareGivenTo 0 = .ok (.iconst 0, 1) := by decide +kernel
theorem dX2_shareGivenTo_1 : decode cX2_shareGivenTo 1 = .ok (.istore_n 2, 1) := by decide +kernel
theorem dX2_shareGivenTo_2 : decode cX2_shareGivenTo 2 = .ok (.iload_n 2, 1) := by decide +kernel
theorem dX2_shareGivenTo_3 : decode cX2_shareGivenTo 3 = .ok (.aload_n 0, 1) := by decide +kernel
theorem dX2_shareGivenTo_4 : decode cX2_shareGivenTo 4 = .ok (.getfield 28, 3) := by decide +kernel
theorem dX2_shareGivenTo_7 : decode cX2_shareGivenTo 7 = .ok (.if_icmp .ge 26, 3) := by decide +kernel
theorem dX2_shareGivenTo_10 : decode cX2_shareGivenTo 10 = .ok (.aload_n 0, 1) := by decide +kernel
theorem dX2_shareGivenTo_11 : decode cX2_shareGivenTo 11 = .ok (.getfield 9, 3) := by decide +kernel
theorem dX2_shareGivenTo_14 : decode cX2_shareGivenTo 14 = .ok (.iload_n 2, 1) := by decide +kernel
theorem dX2_shareGivenTo_15 : decode cX2_shareGivenTo 15 = .ok (.iaload, 1) := by decide +kernel
theorem dX2_shareGivenTo_16 : decode cX2_shareGivenTo 16 = .ok (.iload_n 1, 1) := by decide +kernel
theorem dX2_shareGivenTo_17 : decode cX2_shareGivenTo 17 = .ok (.if_icmp .ne 10, 3) := by decide +kernel
theorem dX2_shareGivenTo_20 : decode cX2_shareGivenTo 20 = .ok (.aload_n 0, 1) := by decide +kernel
theorem dX2_shareGivenTo_21 : decode cX2_shareGivenTo 21 = .ok (.getfield 21, 3) := by decide +kernel
theorem dX2_shareGivenTo_24 : decode cX2_shareGivenTo 24 = .ok (.iload_n 2, 1) := by decide +kernel
theorem dX2_shareGivenTo_25 : decode cX2_shareGivenTo 25 = .ok (.iaload, 1) := by decide +kernel
theorem dX2_shareGivenTo_26 : decode cX2_shareGivenTo 26 = .ok (.ireturn, 1) := by decide +kernel
theorem dX2_shareGivenTo_27 : decode cX2_shareGivenTo 27 = .ok (.iinc 2 1, 3) := by decide +kernel
theorem dX2_shareGivenTo_30 : decode cX2_shareGivenTo 30 = .ok (.goto (-28), 3) := by decide +kernel
theorem dX2_shareGivenTo_33 : decode cX2_shareGivenTo 33 = .ok (.iconst 0, 1) := by decide +kernel
theorem dX2_shareGivenTo_34 : decode cX2_shareGivenTo 34 = .ok (.ireturn, 1) := by decide +kernel
theorem dX2_gainers_0 : decode cX2_gainers 0 = .ok (.iconst 0, 1) := by decide +kernel
theorem dX2_gainers_1 : decode cX2_gainers 1 = .ok (.istore_n 1, 1) := by decide +kernel
theorem dX2_gainers_2 : decode cX2_gainers 2 = .ok (.iconst 0, 1) := by decide +kernel
theorem dX2_gainers_3 : decode cX2_gainers 3 = .ok (.istore_n 2, 1) := by decide +kernel
theorem dX2_gainers_4 : decode cX2_gainers 4 = .ok (.iload_n 2, 1) := by decide +kernel
theorem dX2_gainers_5 : decode cX2_gainers 5 = .ok (.aload_n 0, 1) := by decide +kernel
theorem dX2_gainers_6 : decode cX2_gainers 6 = .ok (.getfield 28, 3) := by decide +kernel
theorem dX2_gainers_9 : decode cX2_gainers 9 = .ok (.if_icmp .ge 21, 3) := by decide +kernel
theorem dX2_gainers_12 : decode cX2_gainers 12 = .ok (.aload_n 0, 1) := by decide +kernel
theorem dX2_gainers_13 : decode cX2_gainers 13 = .ok (.getfield 21, 3) := by decide +kernel
theorem dX2_gainers_16 : decode cX2_gainers 16 = .ok (.iload_n 2, 1) := by decide +kernel
theorem dX2_gainers_17 : decode cX2_gainers 17 = .ok (.iaload, 1) := by decide +kernel
theorem dX2_gainers_18 : decode cX2_gainers 18 = .ok (.ifCond .le 6, 3) := by decide +kernel
theorem dX2_gainers_21 : decode cX2_gainers 21 = .ok (.iinc 1 1, 3) := by decide +kernel
theorem dX2_gainers_24 : decode cX2_gainers 24 = .ok (.iinc 2 1, 3) := by decide +kernel
theorem dX2_gainers_27 : decode cX2_gainers 27 = .ok (.goto (-23), 3) := by decide +kernel
theorem dX2_gainers_30 : decode cX2_gainers 30 = .ok (.iload_n 1, 1) := by decide +kernel
theorem dX2_gainers_31 : decode cX2_gainers 31 = .ok (.ireturn, 1) := by decide +kernel
set_option maxRecDepth 20000 in
theorem ggX2_shareOnce_X2_fillFromFront : GoodIn wsX2_shareOnce wsX2_fillFromFront := goodIn_r _ [10, 3, 1, 2, 11, 12, 13, 9, 14, 5, 15, 16, 17, 18, 19, 4, 20, 34, 35, 36, 37, 38, 39, 40, 41] (by decide +kernel) (by decide +kernel)
set_option maxRecDepth 20000 in
theorem gX2_shareOnce_X2_fillFromFront : GoodIn wsX2_shareOnce (wsV RX2 54 RX2 yX2_fillFromFront wsX2_fillFromFront) := goodIn_app (goodIn_of _ (by decide +kernel)) ggX2_shareOnce_X2_fillFromFront
set_option maxRecDepth 20000 in
theorem ggX2_shareOnce_X2_fillInLooks : GoodIn wsX2_shareOnce wsX2_fillInLooks := goodIn_r _ [24, 3, 1, 2, 4, 11, 12, 13, 9, 14, 5, 15, 16, 17, 18, 19, 20, 34, 35, 36, 37, 38, 39, 40, 41] (by decide +kernel) (by decide +kernel)
set_option maxRecDepth 20000 in
theorem gX2_shareOnce_X2_fillInLooks : GoodIn wsX2_shareOnce (wsV RX2 57 RX2 yX2_fillInLooks wsX2_fillInLooks) := goodIn_app (goodIn_of _ (by decide +kernel)) ggX2_shareOnce_X2_fillInLooks
set_option maxRecDepth 20000 in
theorem ggX2_shareOnce_X2_shareRestByPoints : GoodIn wsX2_shareOnce wsX2_shareRestByPoints := goodIn_r _ [28, 2, 1, 3, 4, 20, 5, 29, 30, 31, 32, 9, 33, 34, 35, 36, 37, 38, 39, 40, 41] (by decide +kernel) (by decide +kernel)
set_option maxRecDepth 20000 in
theorem gX2_shareOnce_X2_shareRestByPoints : GoodIn wsX2_shareOnce (wsV RX2 60 RX2 yX2_shareRestByPoints wsX2_shareRestByPoints) := goodIn_app (goodIn_of _ (by decide +kernel)) ggX2_shareOnce_X2_shareRestByPoints
theorem dX2_shareOnce_0 : decode cX2_shareOnce 0 = .ok (.aload_n 0, 1) := by decide +kernel
theorem dX2_shareOnce_1 : decode cX2_shareOnce 1 = .ok (.iload_n 1, 1) := by decide +kernel
theorem dX2_shareOnce_2 : decode cX2_shareOnce 2 = .ok (.i2l, 1) := by decide +kernel
theorem dX2_shareOnce_3 : decode cX2_shareOnce 3 = .ok (.putfield 47, 3) := by decide +kernel
theorem dX2_shareOnce_6 : decode cX2_shareOnce 6 = .ok (.aload_n 0, 1) := by decide +kernel
theorem dX2_shareOnce_7 : decode cX2_shareOnce 7 = .ok (.lconst 0, 1) := by decide +kernel
theorem dX2_shareOnce_8 : decode cX2_shareOnce 8 = .ok (.putfield 51, 3) := by decide +kernel
theorem dX2_shareOnce_11 : decode cX2_shareOnce 11 = .ok (.iconst 0, 1) := by decide +kernel
theorem dX2_shareOnce_12 : decode cX2_shareOnce 12 = .ok (.istore_n 3, 1) := by decide +kernel
theorem dX2_shareOnce_13 : decode cX2_shareOnce 13 = .ok (.iload_n 3, 1) := by decide +kernel
theorem dX2_shareOnce_14 : decode cX2_shareOnce 14 = .ok (.aload_n 0, 1) := by decide +kernel
theorem dX2_shareOnce_15 : decode cX2_shareOnce 15 = .ok (.getfield 28, 3) := by decide +kernel
theorem dX2_shareOnce_18 : decode cX2_shareOnce 18 = .ok (.if_icmp .ge 32, 3) := by decide +kernel
theorem dX2_shareOnce_21 : decode cX2_shareOnce 21 = .ok (.aload_n 0, 1) := by decide +kernel
theorem dX2_shareOnce_22 : decode cX2_shareOnce 22 = .ok (.getfield 24, 3) := by decide +kernel
theorem dX2_shareOnce_25 : decode cX2_shareOnce 25 = .ok (.iload_n 3, 1) := by decide +kernel
theorem dX2_shareOnce_26 : decode cX2_shareOnce 26 = .ok (.iconst 0, 1) := by decide +kernel
theorem dX2_shareOnce_27 : decode cX2_shareOnce 27 = .ok (.bastore, 1) := by decide +kernel
theorem dX2_shareOnce_28 : decode cX2_shareOnce 28 = .ok (.aload_n 0, 1) := by decide +kernel
theorem dX2_shareOnce_29 : decode cX2_shareOnce 29 = .ok (.dup, 1) := by decide +kernel
theorem dX2_shareOnce_30 : decode cX2_shareOnce 30 = .ok (.getfield 51, 3) := by decide +kernel
theorem dX2_shareOnce_33 : decode cX2_shareOnce 33 = .ok (.aload_n 0, 1) := by decide +kernel
theorem dX2_shareOnce_34 : decode cX2_shareOnce 34 = .ok (.getfield 15, 3) := by decide +kernel
theorem dX2_shareOnce_37 : decode cX2_shareOnce 37 = .ok (.iload_n 3, 1) := by decide +kernel
theorem dX2_shareOnce_38 : decode cX2_shareOnce 38 = .ok (.iaload, 1) := by decide +kernel
theorem dX2_shareOnce_39 : decode cX2_shareOnce 39 = .ok (.i2l, 1) := by decide +kernel
theorem dX2_shareOnce_40 : decode cX2_shareOnce 40 = .ok (.ladd, 1) := by decide +kernel
theorem dX2_shareOnce_41 : decode cX2_shareOnce 41 = .ok (.putfield 51, 3) := by decide +kernel
theorem dX2_shareOnce_44 : decode cX2_shareOnce 44 = .ok (.iinc 3 1, 3) := by decide +kernel
theorem dX2_shareOnce_47 : decode cX2_shareOnce 47 = .ok (.goto (-34), 3) := by decide +kernel
theorem dX2_shareOnce_50 : decode cX2_shareOnce 50 = .ok (.iload_n 2, 1) := by decide +kernel
theorem dX2_shareOnce_51 : decode cX2_shareOnce 51 = .ok (.ifCond .eq 10, 3) := by decide +kernel
theorem dX2_shareOnce_54 : decode cX2_shareOnce 54 = .ok (.aload_n 0, 1) := by decide +kernel
theorem dX2_shareOnce_55 : decode cX2_shareOnce 55 = .ok (.invokevirtual 54, 3) := by decide +kernel
theorem dX2_shareOnce_58 : decode cX2_shareOnce 58 = .ok (.goto 7, 3) := by decide +kernel
theorem dX2_shareOnce_61 : decode cX2_shareOnce 61 = .ok (.aload_n 0, 1) := by decide +kernel
theorem dX2_shareOnce_62 : decode cX2_shareOnce 62 = .ok (.invokevirtual 57, 3) := by decide +kernel
theorem dX2_shareOnce_65 : decode cX2_shareOnce 65 = .ok (.aload_n 0, 1) := by decide +kernel
theorem dX2_shareOnce_66 : decode cX2_shareOnce 66 = .ok (.invokevirtual 60, 3) := by decide +kernel
theorem dX2_shareOnce_69 : decode cX2_shareOnce 69 = .ok (.return_, 1) := by decide +kernel
set_option maxRecDepth 20000 in
theorem ggX2_fillInLooks_X2_reachesRoom : GoodIn wsX2_fillInLooks wsX2_reachesRoom := goodIn_r _ [9, 10, 11, 17, 18, 19, 20, 21, 22, 23, 24] (by decide +kernel) (by decide +kernel)
set_option maxRecDepth 20000 in
theorem gX2_fillInLooks_X2_reachesRoom : GoodIn wsX2_fillInLooks (wsV RX2 63 RX2 yX2_reachesRoom wsX2_reachesRoom) := goodIn_app (goodIn_of _ (by decide +kernel)) ggX2_fillInLooks_X2_reachesRoom
set_option maxRecDepth 20000 in
theorem ggX2_fillInLooks_X2_fill : GoodIn wsX2_fillInLooks wsX2_fill := goodIn_r _ [15, 4, 16, 11, 2, 3, 10, 17, 18, 19, 20, 21, 22, 23, 24] (by decide +kernel) (by decide +kernel)
set_option maxRecDepth 20000 in
theorem gX2_fillInLooks_X2_fill : GoodIn wsX2_fillInLooks (wsV RX2 67 RX2 yX2_fill wsX2_fill) := goodIn_app (goodIn_of _ (by decide +kernel)) ggX2_fillInLooks_X2_fill
theorem dX2_fillInLooks_0 : decode cX2_fillInLooks 0 = .ok (.iconst 1, 1) := by decide +kernel
theorem dX2_fillInLooks_1 : decode cX2_fillInLooks 1 = .ok (.istore_n 1, 1) := by decide +kernel
theorem dX2_fillInLooks_2 : decode cX2_fillInLooks 2 = .ok (.iconst 0, 1) := by decide +kernel
theorem dX2_fillInLooks_3 : decode cX2_fillInLooks 3 = .ok (.istore_n 2, 1) := by decide +kernel
theorem dX2_fillInLooks_4 : decode cX2_fillInLooks 4 = .ok (.iload_n 1, 1) := by decide +kernel
theorem dX2_fillInLooks_5 : decode cX2_fillInLooks 5 = .ok (.ifCond .eq 78, 3) := by decide +kernel
theorem dX2_fillInLooks_8 : decode cX2_fillInLooks 8 = .ok (.iload_n 2, 1) := by decide +kernel
theorem dX2_fillInLooks_9 : decode cX2_fillInLooks 9 = .ok (.aload_n 0, 1) := by decide +kernel
theorem dX2_fillInLooks_10 : decode cX2_fillInLooks 10 = .ok (.getfield 28, 3) := by decide +kernel
theorem dX2_fillInLooks_13 : decode cX2_fillInLooks 13 = .ok (.if_icmp .gt 70, 3) := by decide +kernel
theorem dX2_fillInLooks_16 : decode cX2_fillInLooks 16 = .ok (.aload_n 0, 1) := by decide +kernel
theorem dX2_fillInLooks_17 : decode cX2_fillInLooks 17 = .ok (.getfield 47, 3) := by decide +kernel
theorem dX2_fillInLooks_20 : decode cX2_fillInLooks 20 = .ok (.lstore_n 3, 1) := by decide +kernel
theorem dX2_fillInLooks_21 : decode cX2_fillInLooks 21 = .ok (.aload_n 0, 1) := by decide +kernel
theorem dX2_fillInLooks_22 : decode cX2_fillInLooks 22 = .ok (.getfield 51, 3) := by decide +kernel
theorem dX2_fillInLooks_25 : decode cX2_fillInLooks 25 = .ok (.lstore 5, 2) := by decide +kernel
theorem dX2_fillInLooks_27 : decode cX2_fillInLooks 27 = .ok (.iconst 0, 1) := by decide +kernel
theorem dX2_fillInLooks_28 : decode cX2_fillInLooks 28 = .ok (.istore_n 1, 1) := by decide +kernel
theorem dX2_fillInLooks_29 : decode cX2_fillInLooks 29 = .ok (.iconst 0, 1) := by decide +kernel
theorem dX2_fillInLooks_30 : decode cX2_fillInLooks 30 = .ok (.istore 7, 2) := by decide +kernel
theorem dX2_fillInLooks_32 : decode cX2_fillInLooks 32 = .ok (.iload 7, 2) := by decide +kernel
theorem dX2_fillInLooks_34 : decode cX2_fillInLooks 34 = .ok (.aload_n 0, 1) := by decide +kernel
theorem dX2_fillInLooks_35 : decode cX2_fillInLooks 35 = .ok (.getfield 28, 3) := by decide +kernel
theorem dX2_fillInLooks_38 : decode cX2_fillInLooks 38 = .ok (.if_icmp .ge 39, 3) := by decide +kernel
theorem dX2_fillInLooks_41 : decode cX2_fillInLooks 41 = .ok (.aload_n 0, 1) := by decide +kernel
theorem dX2_fillInLooks_42 : decode cX2_fillInLooks 42 = .ok (.getfield 24, 3) := by decide +kernel
theorem dX2_fillInLooks_45 : decode cX2_fillInLooks 45 = .ok (.iload 7, 2) := by decide +kernel
theorem dX2_fillInLooks_47 : decode cX2_fillInLooks 47 = .ok (.baload, 1) := by decide +kernel
theorem dX2_fillInLooks_48 : decode cX2_fillInLooks 48 = .ok (.ifCond .ne 23, 3) := by decide +kernel
theorem dX2_fillInLooks_51 : decode cX2_fillInLooks 51 = .ok (.aload_n 0, 1) := by decide +kernel
theorem dX2_fillInLooks_52 : decode cX2_fillInLooks 52 = .ok (.iload 7, 2) := by decide +kernel
theorem dX2_fillInLooks_54 : decode cX2_fillInLooks 54 = .ok (.lload_n 3, 1) := by decide +kernel
theorem dX2_fillInLooks_55 : decode cX2_fillInLooks 55 = .ok (.lload 5, 2) := by decide +kernel
theorem dX2_fillInLooks_57 : decode cX2_fillInLooks 57 = .ok (.invokevirtual 63, 3) := by decide +kernel
theorem dX2_fillInLooks_60 : decode cX2_fillInLooks 60 = .ok (.ifCond .eq 11, 3) := by decide +kernel
theorem dX2_fillInLooks_63 : decode cX2_fillInLooks 63 = .ok (.aload_n 0, 1) := by decide +kernel
theorem dX2_fillInLooks_64 : decode cX2_fillInLooks 64 = .ok (.iload 7, 2) := by decide +kernel
theorem dX2_fillInLooks_66 : decode cX2_fillInLooks 66 = .ok (.invokevirtual 67, 3) := by decide +kernel
theorem dX2_fillInLooks_69 : decode cX2_fillInLooks 69 = .ok (.iconst 1, 1) := by decide +kernel
theorem dX2_fillInLooks_70 : decode cX2_fillInLooks 70 = .ok (.istore_n 1, 1) := by decide +kernel
theorem dX2_fillInLooks_71 : decode cX2_fillInLooks 71 = .ok (.iinc 7 1, 3) := by decide +kernel
theorem dX2_fillInLooks_74 : decode cX2_fillInLooks 74 = .ok (.goto (-42), 3) := by decide +kernel
theorem dX2_fillInLooks_77 : decode cX2_fillInLooks 77 = .ok (.iinc 2 1, 3) := by decide +kernel
theorem dX2_fillInLooks_80 : decode cX2_fillInLooks 80 = .ok (.goto (-76), 3) := by decide +kernel
theorem dX2_fillInLooks_83 : decode cX2_fillInLooks 83 = .ok (.return_, 1) := by decide +kernel
set_option maxRecDepth 20000 in
theorem ggX2_fillFromFront_X2_reachesRoom : GoodIn wsX2_fillFromFront wsX2_reachesRoom := goodIn_r _ [8, 9, 10, 17, 18, 19, 20, 21, 22, 23, 24] (by decide +kernel) (by decide +kernel)
set_option maxRecDepth 20000 in
theorem gX2_fillFromFront_X2_reachesRoom : GoodIn wsX2_fillFromFront (wsV RX2 63 RX2 yX2_reachesRoom wsX2_reachesRoom) := goodIn_app (goodIn_of _ (by decide +kernel)) ggX2_fillFromFront_X2_reachesRoom
set_option maxRecDepth 20000 in
theorem ggX2_fillFromFront_X2_fill : GoodIn wsX2_fillFromFront wsX2_fill := goodIn_r _ [14, 15, 16, 10, 2, 3, 9, 17, 18, 19, 20, 21, 22, 23, 24] (by decide +kernel) (by decide +kernel)
set_option maxRecDepth 20000 in
theorem gX2_fillFromFront_X2_fill : GoodIn wsX2_fillFromFront (wsV RX2 67 RX2 yX2_fill wsX2_fill) := goodIn_app (goodIn_of _ (by decide +kernel)) ggX2_fillFromFront_X2_fill
theorem dX2_fillFromFront_0 : decode cX2_fillFromFront 0 = .ok (.iconst 0, 1) := by decide +kernel
theorem dX2_fillFromFront_1 : decode cX2_fillFromFront 1 = .ok (.istore_n 1, 1) := by decide +kernel
theorem dX2_fillFromFront_2 : decode cX2_fillFromFront 2 = .ok (.iload_n 1, 1) := by decide +kernel
theorem dX2_fillFromFront_3 : decode cX2_fillFromFront 3 = .ok (.aload_n 0, 1) := by decide +kernel
theorem dX2_fillFromFront_4 : decode cX2_fillFromFront 4 = .ok (.getfield 28, 3) := by decide +kernel
theorem dX2_fillFromFront_7 : decode cX2_fillFromFront 7 = .ok (.if_icmp .ge 30, 3) := by decide +kernel
theorem dX2_fillFromFront_10 : decode cX2_fillFromFront 10 = .ok (.aload_n 0, 1) := by decide +kernel
theorem dX2_fillFromFront_11 : decode cX2_fillFromFront 11 = .ok (.iload_n 1, 1) := by decide +kernel
theorem dX2_fillFromFront_12 : decode cX2_fillFromFront 12 = .ok (.aload_n 0, 1) := by decide +kernel
theorem dX2_fillFromFront_13 : decode cX2_fillFromFront 13 = .ok (.getfield 47, 3) := by decide +kernel
theorem dX2_fillFromFront_16 : decode cX2_fillFromFront 16 = .ok (.aload_n 0, 1) := by decide +kernel
theorem dX2_fillFromFront_17 : decode cX2_fillFromFront 17 = .ok (.getfield 51, 3) := by decide +kernel
theorem dX2_fillFromFront_20 : decode cX2_fillFromFront 20 = .ok (.invokevirtual 63, 3) := by decide +kernel
theorem dX2_fillFromFront_23 : decode cX2_fillFromFront 23 = .ok (.ifCond .eq 14, 3) := by decide +kernel
theorem dX2_fillFromFront_26 : decode cX2_fillFromFront 26 = .ok (.aload_n 0, 1) := by decide +kernel
theorem dX2_fillFromFront_27 : decode cX2_fillFromFront 27 = .ok (.iload_n 1, 1) := by decide +kernel
theorem dX2_fillFromFront_28 : decode cX2_fillFromFront 28 = .ok (.invokevirtual 67, 3) := by decide +kernel
theorem dX2_fillFromFront_31 : decode cX2_fillFromFront 31 = .ok (.iinc 1 1, 3) := by decide +kernel
theorem dX2_fillFromFront_34 : decode cX2_fillFromFront 34 = .ok (.goto (-32), 3) := by decide +kernel
theorem dX2_fillFromFront_37 : decode cX2_fillFromFront 37 = .ok (.return_, 1) := by decide +kernel
theorem dX2_reachesRoom_0 : decode cX2_reachesRoom 0 = .ok (.aload_n 0, 1) := by decide +kernel
theorem dX2_reachesRoom_1 : decode cX2_reachesRoom 1 = .ok (.getfield 15, 3) := by decide +kernel
theorem dX2_reachesRoom_4 : decode cX2_reachesRoom 4 = .ok (.iload_n 1, 1) := by decide +kernel
theorem dX2_reachesRoom_5 : decode cX2_reachesRoom 5 = .ok (.iaload, 1) := by decide +kernel
theorem dX2_reachesRoom_6 : decode cX2_reachesRoom 6 = .ok (.i2l, 1) := by decide +kernel
theorem dX2_reachesRoom_7 : decode cX2_reachesRoom 7 = .ok (.lload_n 2, 1) := by decide +kernel
theorem dX2_reachesRoom_8 : decode cX2_reachesRoom 8 = .ok (.lmul, 1) := by decide +kernel
theorem dX2_reachesRoom_9 : decode cX2_reachesRoom 9 = .ok (.aload_n 0, 1) := by decide +kernel
theorem dX2_reachesRoom_10 : decode cX2_reachesRoom 10 = .ok (.getfield 18, 3) := by decide +kernel
theorem dX2_reachesRoom_13 : decode cX2_reachesRoom 13 = .ok (.iload_n 1, 1) := by decide +kernel
theorem dX2_reachesRoom_14 : decode cX2_reachesRoom 14 = .ok (.iaload, 1) := by decide +kernel
theorem dX2_reachesRoom_15 : decode cX2_reachesRoom 15 = .ok (.i2l, 1) := by decide +kernel
theorem dX2_reachesRoom_16 : decode cX2_reachesRoom 16 = .ok (.lload 4, 2) := by decide +kernel
theorem dX2_reachesRoom_18 : decode cX2_reachesRoom 18 = .ok (.lmul, 1) := by decide +kernel
theorem dX2_reachesRoom_19 : decode cX2_reachesRoom 19 = .ok (.lcmp, 1) := by decide +kernel
theorem dX2_reachesRoom_20 : decode cX2_reachesRoom 20 = .ok (.ifCond .lt 7, 3) := by decide +kernel
theorem dX2_reachesRoom_23 : decode cX2_reachesRoom 23 = .ok (.iconst 1, 1) := by decide +kernel
theorem dX2_reachesRoom_24 : decode cX2_reachesRoom 24 = .ok (.goto 4, 3) := by decide +kernel
theorem dX2_reachesRoom_27 : decode cX2_reachesRoom 27 = .ok (.iconst 0, 1) := by decide +kernel
theorem dX2_reachesRoom_28 : decode cX2_reachesRoom 28 = .ok (.ireturn, 1) := by decide +kernel
theorem dX2_fill_0 : decode cX2_fill 0 = .ok (.aload_n 0, 1) := by decide +kernel
theorem dX2_fill_1 : decode cX2_fill 1 = .ok (.getfield 24, 3) := by decide +kernel
theorem dX2_fill_4 : decode cX2_fill 4 = .ok (.iload_n 1, 1) := by decide +kernel
theorem dX2_fill_5 : decode cX2_fill 5 = .ok (.iconst 1, 1) := by decide +kernel
theorem dX2_fill_6 : decode cX2_fill 6 = .ok (.bastore, 1) := by decide +kernel
theorem dX2_fill_7 : decode cX2_fill 7 = .ok (.aload_n 0, 1) := by decide +kernel
theorem dX2_fill_8 : decode cX2_fill 8 = .ok (.getfield 21, 3) := by decide +kernel
theorem dX2_fill_11 : decode cX2_fill 11 = .ok (.iload_n 1, 1) := by decide +kernel
theorem dX2_fill_12 : decode cX2_fill 12 = .ok (.aload_n 0, 1) := by decide +kernel
theorem dX2_fill_13 : decode cX2_fill 13 = .ok (.getfield 18, 3) := by decide +kernel
theorem dX2_fill_16 : decode cX2_fill 16 = .ok (.iload_n 1, 1) := by decide +kernel
theorem dX2_fill_17 : decode cX2_fill 17 = .ok (.iaload, 1) := by decide +kernel
theorem dX2_fill_18 : decode cX2_fill 18 = .ok (.iastore, 1) := by decide +kernel
theorem dX2_fill_19 : decode cX2_fill 19 = .ok (.aload_n 0, 1) := by decide +kernel
theorem dX2_fill_20 : decode cX2_fill 20 = .ok (.dup, 1) := by decide +kernel
theorem dX2_fill_21 : decode cX2_fill 21 = .ok (.getfield 47, 3) := by decide +kernel
theorem dX2_fill_24 : decode cX2_fill 24 = .ok (.aload_n 0, 1) := by decide +kernel
theorem dX2_fill_25 : decode cX2_fill 25 = .ok (.getfield 18, 3) := by decide +kernel
theorem dX2_fill_28 : decode cX2_fill 28 = .ok (.iload_n 1, 1) := by decide +kernel
theorem dX2_fill_29 : decode cX2_fill 29 = .ok (.iaload, 1) := by decide +kernel
theorem dX2_fill_30 : decode cX2_fill 30 = .ok (.i2l, 1) := by decide +kernel
theorem dX2_fill_31 : decode cX2_fill 31 = .ok (.lsub, 1) := by decide +kernel
theorem dX2_fill_32 : decode cX2_fill 32 = .ok (.putfield 47, 3) := by decide +kernel
theorem dX2_fill_35 : decode cX2_fill 35 = .ok (.aload_n 0, 1) := by decide +kernel
theorem dX2_fill_36 : decode cX2_fill 36 = .ok (.dup, 1) := by decide +kernel
theorem dX2_fill_37 : decode cX2_fill 37 = .ok (.getfield 51, 3) := by decide +kernel
theorem dX2_fill_40 : decode cX2_fill 40 = .ok (.aload_n 0, 1) := by decide +kernel
theorem dX2_fill_41 : decode cX2_fill 41 = .ok (.getfield 15, 3) := by decide +kernel
theorem dX2_fill_44 : decode cX2_fill 44 = .ok (.iload_n 1, 1) := by decide +kernel
theorem dX2_fill_45 : decode cX2_fill 45 = .ok (.iaload, 1) := by decide +kernel
theorem dX2_fill_46 : decode cX2_fill 46 = .ok (.i2l, 1) := by decide +kernel
theorem dX2_fill_47 : decode cX2_fill 47 = .ok (.lsub, 1) := by decide +kernel
theorem dX2_fill_48 : decode cX2_fill 48 = .ok (.putfield 51, 3) := by decide +kernel
theorem dX2_fill_51 : decode cX2_fill 51 = .ok (.return_, 1) := by decide +kernel
set_option maxRecDepth 20000 in
theorem ggX2_shareRestByPoints_X2_notFullBelow : GoodIn wsX2_shareRestByPoints wsX2_notFullBelow := goodIn_r _ [12, 3, 4, 7, 13, 14, 15, 16, 17, 18, 19, 20] (by decide +kernel) (by decide +kernel)
set_option maxRecDepth 20000 in
theorem gX2_shareRestByPoints_X2_notFullBelow : GoodIn wsX2_shareRestByPoints (wsV RX2 70 RX2 yX2_notFullBelow wsX2_notFullBelow) := goodIn_app (goodIn_of _ (by decide +kernel)) ggX2_shareRestByPoints_X2_notFullBelow
theorem dX2_shareRestByPoints_0 : decode cX2_shareRestByPoints 0 = .ok (.aload_n 0, 1) := by decide +kernel
theorem dX2_shareRestByPoints_1 : decode cX2_shareRestByPoints 1 = .ok (.getfield 51, 3) := by decide +kernel
theorem dX2_shareRestByPoints_4 : decode cX2_shareRestByPoints 4 = .ok (.lconst 1, 1) := by decide +kernel
theorem dX2_shareRestByPoints_5 : decode cX2_shareRestByPoints 5 = .ok (.lcmp, 1) := by decide +kernel
theorem dX2_shareRestByPoints_6 : decode cX2_shareRestByPoints 6 = .ok (.ifCond .ge 4, 3) := by decide +kernel
theorem dX2_shareRestByPoints_9 : decode cX2_shareRestByPoints 9 = .ok (.return_, 1) := by decide +kernel
theorem dX2_shareRestByPoints_10 : decode cX2_shareRestByPoints 10 = .ok (.aload_n 0, 1) := by decide +kernel
theorem dX2_shareRestByPoints_11 : decode cX2_shareRestByPoints 11 = .ok (.getfield 47, 3) := by decide +kernel
theorem dX2_shareRestByPoints_14 : decode cX2_shareRestByPoints 14 = .ok (.lstore_n 1, 1) := by decide +kernel
theorem dX2_shareRestByPoints_15 : decode cX2_shareRestByPoints 15 = .ok (.iconst 0, 1) := by decide +kernel
theorem dX2_shareRestByPoints_16 : decode cX2_shareRestByPoints 16 = .ok (.istore_n 3, 1) := by decide +kernel
theorem dX2_shareRestByPoints_17 : decode cX2_shareRestByPoints 17 = .ok (.iload_n 3, 1) := by decide +kernel
theorem dX2_shareRestByPoints_18 : decode cX2_shareRestByPoints 18 = .ok (.aload_n 0, 1) := by decide +kernel
theorem dX2_shareRestByPoints_19 : decode cX2_shareRestByPoints 19 = .ok (.getfield 28, 3) := by decide +kernel
theorem dX2_shareRestByPoints_22 : decode cX2_shareRestByPoints 22 = .ok (.if_icmp .ge 52, 3) := by decide +kernel
theorem dX2_shareRestByPoints_25 : decode cX2_shareRestByPoints 25 = .ok (.aload_n 0, 1) := by decide +kernel
theorem dX2_shareRestByPoints_26 : decode cX2_shareRestByPoints 26 = .ok (.getfield 24, 3) := by decide +kernel
theorem dX2_shareRestByPoints_29 : decode cX2_shareRestByPoints 29 = .ok (.iload_n 3, 1) := by decide +kernel
theorem dX2_shareRestByPoints_30 : decode cX2_shareRestByPoints 30 = .ok (.baload, 1) := by decide +kernel
theorem dX2_shareRestByPoints_31 : decode cX2_shareRestByPoints 31 = .ok (.ifCond .ne 37, 3) := by decide +kernel
theorem dX2_shareRestByPoints_34 : decode cX2_shareRestByPoints 34 = .ok (.aload_n 0, 1) := by decide +kernel
theorem dX2_shareRestByPoints_35 : decode cX2_shareRestByPoints 35 = .ok (.getfield 21, 3) := by decide +kernel
theorem dX2_shareRestByPoints_38 : decode cX2_shareRestByPoints 38 = .ok (.iload_n 3, 1) := by decide +kernel
theorem dX2_shareRestByPoints_39 : decode cX2_shareRestByPoints 39 = .ok (.aload_n 0, 1) := by decide +kernel
theorem dX2_shareRestByPoints_40 : decode cX2_shareRestByPoints 40 = .ok (.getfield 15, 3) := by decide +kernel
theorem dX2_shareRestByPoints_43 : decode cX2_shareRestByPoints 43 = .ok (.iload_n 3, 1) := by decide +kernel
theorem dX2_shareRestByPoints_44 : decode cX2_shareRestByPoints 44 = .ok (.iaload, 1) := by decide +kernel
theorem dX2_shareRestByPoints_45 : decode cX2_shareRestByPoints 45 = .ok (.i2l, 1) := by decide +kernel
theorem dX2_shareRestByPoints_46 : decode cX2_shareRestByPoints 46 = .ok (.aload_n 0, 1) := by decide +kernel
theorem dX2_shareRestByPoints_47 : decode cX2_shareRestByPoints 47 = .ok (.getfield 47, 3) := by decide +kernel
theorem dX2_shareRestByPoints_50 : decode cX2_shareRestByPoints 50 = .ok (.lmul, 1) := by decide +kernel
theorem dX2_shareRestByPoints_51 : decode cX2_shareRestByPoints 51 = .ok (.aload_n 0, 1) := by decide +kernel
theorem dX2_shareRestByPoints_52 : decode cX2_shareRestByPoints 52 = .ok (.getfield 51, 3) := by decide +kernel
theorem dX2_shareRestByPoints_55 : decode cX2_shareRestByPoints 55 = .ok (.ldiv, 1) := by decide +kernel
theorem dX2_shareRestByPoints_56 : decode cX2_shareRestByPoints 56 = .ok (.l2i, 1) := by decide +kernel
theorem dX2_shareRestByPoints_57 : decode cX2_shareRestByPoints 57 = .ok (.iastore, 1) := by decide +kernel
theorem dX2_shareRestByPoints_58 : decode cX2_shareRestByPoints 58 = .ok (.lload_n 1, 1) := by decide +kernel
theorem dX2_shareRestByPoints_59 : decode cX2_shareRestByPoints 59 = .ok (.aload_n 0, 1) := by decide +kernel
theorem dX2_shareRestByPoints_60 : decode cX2_shareRestByPoints 60 = .ok (.getfield 21, 3) := by decide +kernel
theorem dX2_shareRestByPoints_63 : decode cX2_shareRestByPoints 63 = .ok (.iload_n 3, 1) := by decide +kernel
theorem dX2_shareRestByPoints_64 : decode cX2_shareRestByPoints 64 = .ok (.iaload, 1) := by decide +kernel
theorem dX2_shareRestByPoints_65 : decode cX2_shareRestByPoints 65 = .ok (.i2l, 1) := by decide +kernel
theorem dX2_shareRestByPoints_66 : decode cX2_shareRestByPoints 66 = .ok (.lsub, 1) := by decide +kernel
theorem dX2_shareRestByPoints_67 : decode cX2_shareRestByPoints 67 = .ok (.lstore_n 1, 1) := by decide +kernel
theorem dX2_shareRestByPoints_68 : decode cX2_shareRestByPoints 68 = .ok (.iinc 3 1, 3) := by decide +kernel
theorem dX2_shareRestByPoints_71 : decode cX2_shareRestByPoints 71 = .ok (.goto (-54), 3) := by decide +kernel
theorem dX2_shareRestByPoints_74 : decode cX2_shareRestByPoints 74 = .ok (.iconst 0, 1) := by decide +kernel
theorem dX2_shareRestByPoints_75 : decode cX2_shareRestByPoints 75 = .ok (.istore_n 3, 1) := by decide +kernel
theorem dX2_shareRestByPoints_76 : decode cX2_shareRestByPoints 76 = .ok (.iload_n 3, 1) := by decide +kernel
theorem dX2_shareRestByPoints_77 : decode cX2_shareRestByPoints 77 = .ok (.aload_n 0, 1) := by decide +kernel
theorem dX2_shareRestByPoints_78 : decode cX2_shareRestByPoints 78 = .ok (.getfield 28, 3) := by decide +kernel
theorem dX2_shareRestByPoints_81 : decode cX2_shareRestByPoints 81 = .ok (.if_icmp .ge 44, 3) := by decide +kernel
theorem dX2_shareRestByPoints_84 : decode cX2_shareRestByPoints 84 = .ok (.aload_n 0, 1) := by decide +kernel
theorem dX2_shareRestByPoints_85 : decode cX2_shareRestByPoints 85 = .ok (.getfield 24, 3) := by decide +kernel
theorem dX2_shareRestByPoints_88 : decode cX2_shareRestByPoints 88 = .ok (.iload_n 3, 1) := by decide +kernel
theorem dX2_shareRestByPoints_89 : decode cX2_shareRestByPoints 89 = .ok (.baload, 1) := by decide +kernel
theorem dX2_shareRestByPoints_90 : decode cX2_shareRestByPoints 90 = .ok (.ifCond .ne 29, 3) := by decide +kernel
theorem dX2_shareRestByPoints_93 : decode cX2_shareRestByPoints 93 = .ok (.aload_n 0, 1) := by decide +kernel
theorem dX2_shareRestByPoints_94 : decode cX2_shareRestByPoints 94 = .ok (.aload_n 0, 1) := by decide +kernel
theorem dX2_shareRestByPoints_95 : decode cX2_shareRestByPoints 95 = .ok (.getfield 9, 3) := by decide +kernel
theorem dX2_shareRestByPoints_98 : decode cX2_shareRestByPoints 98 = .ok (.iload_n 3, 1) := by decide +kernel
theorem dX2_shareRestByPoints_99 : decode cX2_shareRestByPoints 99 = .ok (.iaload, 1) := by decide +kernel
theorem dX2_shareRestByPoints_100 : decode cX2_shareRestByPoints 100 = .ok (.invokevirtual 70, 3) := by decide +kernel
theorem dX2_shareRestByPoints_103 : decode cX2_shareRestByPoints 103 = .ok (.i2l, 1) := by decide +kernel
theorem dX2_shareRestByPoints_104 : decode cX2_shareRestByPoints 104 = .ok (.lload_n 1, 1) := by decide +kernel
theorem dX2_shareRestByPoints_105 : decode cX2_shareRestByPoints 105 = .ok (.lcmp, 1) := by decide +kernel
theorem dX2_shareRestByPoints_106 : decode cX2_shareRestByPoints 106 = .ok (.ifCond .ge 13, 3) := by decide +kernel
theorem dX2_shareRestByPoints_109 : decode cX2_shareRestByPoints 109 = .ok (.aload_n 0, 1) := by decide +kernel
theorem dX2_shareRestByPoints_110 : decode cX2_shareRestByPoints 110 = .ok (.getfield 21, 3) := by decide +kernel
theorem dX2_shareRestByPoints_113 : decode cX2_shareRestByPoints 113 = .ok (.iload_n 3, 1) := by decide +kernel
theorem dX2_shareRestByPoints_114 : decode cX2_shareRestByPoints 114 = .ok (.dup2, 1) := by decide +kernel
theorem dX2_shareRestByPoints_115 : decode cX2_shareRestByPoints 115 = .ok (.iaload, 1) := by decide +kernel
theorem dX2_shareRestByPoints_116 : decode cX2_shareRestByPoints 116 = .ok (.iconst 1, 1) := by decide +kernel
theorem dX2_shareRestByPoints_117 : decode cX2_shareRestByPoints 117 = .ok (.iadd, 1) := by decide +kernel
theorem dX2_shareRestByPoints_118 : decode cX2_shareRestByPoints 118 = .ok (.iastore, 1) := by decide +kernel
theorem dX2_shareRestByPoints_119 : decode cX2_shareRestByPoints 119 = .ok (.iinc 3 1, 3) := by decide +kernel
theorem dX2_shareRestByPoints_122 : decode cX2_shareRestByPoints 122 = .ok (.goto (-46), 3) := by decide +kernel
theorem dX2_shareRestByPoints_125 : decode cX2_shareRestByPoints 125 = .ok (.return_, 1) := by decide +kernel
theorem dX2_notFullBelow_0 : decode cX2_notFullBelow 0 = .ok (.iconst 0, 1) := by decide +kernel
theorem dX2_notFullBelow_1 : decode cX2_notFullBelow 1 = .ok (.istore_n 2, 1) := by decide +kernel
theorem dX2_notFullBelow_2 : decode cX2_notFullBelow 2 = .ok (.iconst 0, 1) := by decide +kernel
theorem dX2_notFullBelow_3 : decode cX2_notFullBelow 3 = .ok (.istore_n 3, 1) := by decide +kernel
theorem dX2_notFullBelow_4 : decode cX2_notFullBelow 4 = .ok (.iload_n 3, 1) := by decide +kernel
theorem dX2_notFullBelow_5 : decode cX2_notFullBelow 5 = .ok (.aload_n 0, 1) := by decide +kernel
theorem dX2_notFullBelow_6 : decode cX2_notFullBelow 6 = .ok (.getfield 28, 3) := by decide +kernel
theorem dX2_notFullBelow_9 : decode cX2_notFullBelow 9 = .ok (.if_icmp .ge 31, 3) := by decide +kernel
theorem dX2_notFullBelow_12 : decode cX2_notFullBelow 12 = .ok (.aload_n 0, 1) := by decide +kernel
theorem dX2_notFullBelow_13 : decode cX2_notFullBelow 13 = .ok (.getfield 24, 3) := by decide +kernel
theorem dX2_notFullBelow_16 : decode cX2_notFullBelow 16 = .ok (.iload_n 3, 1) := by decide +kernel
theorem dX2_notFullBelow_17 : decode cX2_notFullBelow 17 = .ok (.baload, 1) := by decide +kernel
theorem dX2_notFullBelow_18 : decode cX2_notFullBelow 18 = .ok (.ifCond .ne 16, 3) := by decide +kernel
theorem dX2_notFullBelow_21 : decode cX2_notFullBelow 21 = .ok (.aload_n 0, 1) := by decide +kernel
theorem dX2_notFullBelow_22 : decode cX2_notFullBelow 22 = .ok (.getfield 9, 3) := by decide +kernel
theorem dX2_notFullBelow_25 : decode cX2_notFullBelow 25 = .ok (.iload_n 3, 1) := by decide +kernel
theorem dX2_notFullBelow_26 : decode cX2_notFullBelow 26 = .ok (.iaload, 1) := by decide +kernel
theorem dX2_notFullBelow_27 : decode cX2_notFullBelow 27 = .ok (.iload_n 1, 1) := by decide +kernel
theorem dX2_notFullBelow_28 : decode cX2_notFullBelow 28 = .ok (.if_icmp .ge 6, 3) := by decide +kernel
theorem dX2_notFullBelow_31 : decode cX2_notFullBelow 31 = .ok (.iinc 2 1, 3) := by decide +kernel
theorem dX2_notFullBelow_34 : decode cX2_notFullBelow 34 = .ok (.iinc 3 1, 3) := by decide +kernel
theorem dX2_notFullBelow_37 : decode cX2_notFullBelow 37 = .ok (.goto (-33), 3) := by decide +kernel
theorem dX2_notFullBelow_40 : decode cX2_notFullBelow 40 = .ok (.iload_n 2, 1) := by decide +kernel
theorem dX2_notFullBelow_41 : decode cX2_notFullBelow 41 = .ok (.ireturn, 1) := by decide +kernel
theorem dX2_placeOfSmallest_0 : decode cX2_placeOfSmallest 0 = .ok (.iconst (-1), 1) := by decide +kernel
theorem dX2_placeOfSmallest_1 : decode cX2_placeOfSmallest 1 = .ok (.istore_n 1, 1) := by decide +kernel
theorem dX2_placeOfSmallest_2 : decode cX2_placeOfSmallest 2 = .ok (.iconst 0, 1) := by decide +kernel
theorem dX2_placeOfSmallest_3 : decode cX2_placeOfSmallest 3 = .ok (.istore_n 2, 1) := by decide +kernel
theorem dX2_placeOfSmallest_4 : decode cX2_placeOfSmallest 4 = .ok (.iload_n 2, 1) := by decide +kernel
theorem dX2_placeOfSmallest_5 : decode cX2_placeOfSmallest 5 = .ok (.aload_n 0, 1) := by decide +kernel
theorem dX2_placeOfSmallest_6 : decode cX2_placeOfSmallest 6 = .ok (.getfield 28, 3) := by decide +kernel
theorem dX2_placeOfSmallest_9 : decode cX2_placeOfSmallest 9 = .ok (.if_icmp .ge 61, 3) := by decide +kernel
theorem dX2_placeOfSmallest_12 : decode cX2_placeOfSmallest 12 = .ok (.iload_n 1, 1) := by decide +kernel
theorem dX2_placeOfSmallest_13 : decode cX2_placeOfSmallest 13 = .ok (.iconst (-1), 1) := by decide +kernel
theorem dX2_placeOfSmallest_14 : decode cX2_placeOfSmallest 14 = .ok (.if_icmp .eq 48, 3) := by decide +kernel
theorem dX2_placeOfSmallest_17 : decode cX2_placeOfSmallest 17 = .ok (.aload_n 0, 1) := by decide +kernel
theorem dX2_placeOfSmallest_18 : decode cX2_placeOfSmallest 18 = .ok (.getfield 21, 3) := by decide +kernel
theorem dX2_placeOfSmallest_21 : decode cX2_placeOfSmallest 21 = .ok (.iload_n 2, 1) := by decide +kernel
theorem dX2_placeOfSmallest_22 : decode cX2_placeOfSmallest 22 = .ok (.iaload, 1) := by decide +kernel
theorem dX2_placeOfSmallest_23 : decode cX2_placeOfSmallest 23 = .ok (.aload_n 0, 1) := by decide +kernel
theorem dX2_placeOfSmallest_24 : decode cX2_placeOfSmallest 24 = .ok (.getfield 21, 3) := by decide +kernel
theorem dX2_placeOfSmallest_27 : decode cX2_placeOfSmallest 27 = .ok (.iload_n 1, 1) := by decide +kernel
theorem dX2_placeOfSmallest_28 : decode cX2_placeOfSmallest 28 = .ok (.iaload, 1) := by decide +kernel
theorem dX2_placeOfSmallest_29 : decode cX2_placeOfSmallest 29 = .ok (.if_icmp .lt 33, 3) := by decide +kernel
theorem dX2_placeOfSmallest_32 : decode cX2_placeOfSmallest 32 = .ok (.aload_n 0, 1) := by decide +kernel
theorem dX2_placeOfSmallest_33 : decode cX2_placeOfSmallest 33 = .ok (.getfield 21, 3) := by decide +kernel
theorem dX2_placeOfSmallest_36 : decode cX2_placeOfSmallest 36 = .ok (.iload_n 2, 1) := by decide +kernel
theorem dX2_placeOfSmallest_37 : decode cX2_placeOfSmallest 37 = .ok (.iaload, 1) := by decide +kernel
theorem dX2_placeOfSmallest_38 : decode cX2_placeOfSmallest 38 = .ok (.aload_n 0, 1) := by decide +kernel
theorem dX2_placeOfSmallest_39 : decode cX2_placeOfSmallest 39 = .ok (.getfield 21, 3) := by decide +kernel
theorem dX2_placeOfSmallest_42 : decode cX2_placeOfSmallest 42 = .ok (.iload_n 1, 1) := by decide +kernel
theorem dX2_placeOfSmallest_43 : decode cX2_placeOfSmallest 43 = .ok (.iaload, 1) := by decide +kernel
theorem dX2_placeOfSmallest_44 : decode cX2_placeOfSmallest 44 = .ok (.if_icmp .ne 20, 3) := by decide +kernel
theorem dX2_placeOfSmallest_47 : decode cX2_placeOfSmallest 47 = .ok (.aload_n 0, 1) := by decide +kernel
theorem dX2_placeOfSmallest_48 : decode cX2_placeOfSmallest 48 = .ok (.getfield 9, 3) := by decide +kernel
theorem dX2_placeOfSmallest_51 : decode cX2_placeOfSmallest 51 = .ok (.iload_n 2, 1) := by decide +kernel
theorem dX2_placeOfSmallest_52 : decode cX2_placeOfSmallest 52 = .ok (.iaload, 1) := by decide +kernel
theorem dX2_placeOfSmallest_53 : decode cX2_placeOfSmallest 53 = .ok (.aload_n 0, 1) := by decide +kernel
theorem dX2_placeOfSmallest_54 : decode cX2_placeOfSmallest 54 = .ok (.getfield 9, 3) := by decide +kernel
theorem dX2_placeOfSmallest_57 : decode cX2_placeOfSmallest 57 = .ok (.iload_n 1, 1) := by decide +kernel
theorem dX2_placeOfSmallest_58 : decode cX2_placeOfSmallest 58 = .ok (.iaload, 1) := by decide +kernel
theorem dX2_placeOfSmallest_59 : decode cX2_placeOfSmallest 59 = .ok (.if_icmp .le 5, 3) := by decide +kernel
theorem dX2_placeOfSmallest_62 : decode cX2_placeOfSmallest 62 = .ok (.iload_n 2, 1) := by decide +kernel
theorem dX2_placeOfSmallest_63 : decode cX2_placeOfSmallest 63 = .ok (.istore_n 1, 1) := by decide +kernel
theorem dX2_placeOfSmallest_64 : decode cX2_placeOfSmallest 64 = .ok (.iinc 2 1, 3) := by decide +kernel
theorem dX2_placeOfSmallest_67 : decode cX2_placeOfSmallest 67 = .ok (.goto (-63), 3) := by decide +kernel
theorem dX2_placeOfSmallest_70 : decode cX2_placeOfSmallest 70 = .ok (.iload_n 1, 1) := by decide +kernel
theorem dX2_placeOfSmallest_71 : decode cX2_placeOfSmallest 71 = .ok (.ireturn, 1) := by decide +kernel
set_option maxRecDepth 20000 in
theorem ggX2_takeOut_X2_copyPlace : GoodIn wsX2_takeOut wsX2_copyPlace := goodIn_r _ [6, 7, 8, 9, 10, 11, 12, 13, 14, 15, 16, 17] (by decide +kernel) (by decide +kernel)
set_option maxRecDepth 20000 in
theorem gX2_takeOut_X2_copyPlace : GoodIn wsX2_takeOut (wsV RX2 74 RX2 yX2_copyPlace wsX2_copyPlace) := goodIn_app (goodIn_of _ (by decide +kernel)) ggX2_takeOut_X2_copyPlace
theorem dX2_takeOut_0 : decode cX2_takeOut 0 = .ok (.iload_n 1, 1) := by decide +kernel
theorem dX2_takeOut_1 : decode cX2_takeOut 1 = .ok (.istore_n 2, 1) := by decide +kernel
theorem dX2_takeOut_2 : decode cX2_takeOut 2 = .ok (.iload_n 2, 1) := by decide +kernel
theorem dX2_takeOut_3 : decode cX2_takeOut 3 = .ok (.iconst 1, 1) := by decide +kernel
theorem dX2_takeOut_4 : decode cX2_takeOut 4 = .ok (.iadd, 1) := by decide +kernel
theorem dX2_takeOut_5 : decode cX2_takeOut 5 = .ok (.aload_n 0, 1) := by decide +kernel
theorem dX2_takeOut_6 : decode cX2_takeOut 6 = .ok (.getfield 28, 3) := by decide +kernel
theorem dX2_takeOut_9 : decode cX2_takeOut 9 = .ok (.if_icmp .ge 17, 3) := by decide +kernel
theorem dX2_takeOut_12 : decode cX2_takeOut 12 = .ok (.aload_n 0, 1) := by decide +kernel
theorem dX2_takeOut_13 : decode cX2_takeOut 13 = .ok (.iload_n 2, 1) := by decide +kernel
theorem dX2_takeOut_14 : decode cX2_takeOut 14 = .ok (.iconst 1, 1) := by decide +kernel
theorem dX2_takeOut_15 : decode cX2_takeOut 15 = .ok (.iadd, 1) := by decide +kernel
theorem dX2_takeOut_16 : decode cX2_takeOut 16 = .ok (.iload_n 2, 1) := by decide +kernel
theorem dX2_takeOut_17 : decode cX2_takeOut 17 = .ok (.invokevirtual 74, 3) := by decide +kernel
theorem dX2_takeOut_20 : decode cX2_takeOut 20 = .ok (.iinc 2 1, 3) := by decide +kernel
theorem dX2_takeOut_23 : decode cX2_takeOut 23 = .ok (.goto (-21), 3) := by decide +kernel
theorem dX2_takeOut_26 : decode cX2_takeOut 26 = .ok (.aload_n 0, 1) := by decide +kernel
theorem dX2_takeOut_27 : decode cX2_takeOut 27 = .ok (.dup, 1) := by decide +kernel
theorem dX2_takeOut_28 : decode cX2_takeOut 28 = .ok (.getfield 28, 3) := by decide +kernel
theorem dX2_takeOut_31 : decode cX2_takeOut 31 = .ok (.iconst 1, 1) := by decide +kernel
theorem dX2_takeOut_32 : decode cX2_takeOut 32 = .ok (.isub, 1) := by decide +kernel
theorem dX2_takeOut_33 : decode cX2_takeOut 33 = .ok (.putfield 28, 3) := by decide +kernel
theorem dX2_takeOut_36 : decode cX2_takeOut 36 = .ok (.return_, 1) := by decide +kernel
theorem dX2_copyPlace_0 : decode cX2_copyPlace 0 = .ok (.aload_n 0, 1) := by decide +kernel
theorem dX2_copyPlace_1 : decode cX2_copyPlace 1 = .ok (.getfield 9, 3) := by decide +kernel
theorem dX2_copyPlace_4 : decode cX2_copyPlace 4 = .ok (.iload_n 2, 1) := by decide +kernel
theorem dX2_copyPlace_5 : decode cX2_copyPlace 5 = .ok (.aload_n 0, 1) := by decide +kernel
theorem dX2_copyPlace_6 : decode cX2_copyPlace 6 = .ok (.getfield 9, 3) := by decide +kernel
theorem dX2_copyPlace_9 : decode cX2_copyPlace 9 = .ok (.iload_n 1, 1) := by decide +kernel
theorem dX2_copyPlace_10 : decode cX2_copyPlace 10 = .ok (.iaload, 1) := by decide +kernel
theorem dX2_copyPlace_11 : decode cX2_copyPlace 11 = .ok (.iastore, 1) := by decide +kernel
theorem dX2_copyPlace_12 : decode cX2_copyPlace 12 = .ok (.aload_n 0, 1) := by decide +kernel
theorem dX2_copyPlace_13 : decode cX2_copyPlace 13 = .ok (.getfield 15, 3) := by decide +kernel
theorem dX2_copyPlace_16 : decode cX2_copyPlace 16 = .ok (.iload_n 2, 1) := by decide +kernel
theorem dX2_copyPlace_17 : decode cX2_copyPlace 17 = .ok (.aload_n 0, 1) := by decide +kernel
theorem dX2_copyPlace_18 : decode cX2_copyPlace 18 = .ok (.getfield 15, 3) := by decide +kernel
theorem dX2_copyPlace_21 : decode cX2_copyPlace 21 = .ok (.iload_n 1, 1) := by decide +kernel
theorem dX2_copyPlace_22 : decode cX2_copyPlace 22 = .ok (.iaload, 1) := by decide +kernel
theorem dX2_copyPlace_23 : decode cX2_copyPlace 23 = .ok (.iastore, 1) := by decide +kernel
theorem dX2_copyPlace_24 : decode cX2_copyPlace 24 = .ok (.aload_n 0, 1) := by decide +kernel
theorem dX2_copyPlace_25 : decode cX2_copyPlace 25 = .ok (.getfield 18, 3) := by decide +kernel
theorem dX2_copyPlace_28 : decode cX2_copyPlace 28 = .ok (.iload_n 2, 1) := by decide +kernel
theorem dX2_copyPlace_29 : decode cX2_copyPlace 29 = .ok (.aload_n 0, 1) := by decide +kernel
theorem dX2_copyPlace_30 : decode cX2_copyPlace 30 = .ok (.getfield 18, 3) := by decide +kernel
theorem dX2_copyPlace_33 : decode cX2_copyPlace 33 = .ok (.iload_n 1, 1) := by decide +kernel
theorem dX2_copyPlace_34 : decode cX2_copyPlace 34 = .ok (.iaload, 1) := by decide +kernel
theorem dX2_copyPlace_35 : decode cX2_copyPlace 35 = .ok (.iastore, 1) := by decide +kernel
theorem dX2_copyPlace_36 : decode cX2_copyPlace 36 = .ok (.return_, 1) := by decide +kernel
set_option maxRecDepth 20000 in
theorem ggX2_sortByRoomPerPoint_X2_hasLessRoomPerPoint : GoodIn wsX2_sortByRoomPerPoint wsX2_hasLessRoomPerPoint := goodIn_r _ [6, 7, 8, 18, 19, 20, 21, 22, 23, 24, 25] (by decide +kernel) (by decide +kernel)
set_option maxRecDepth 20000 in
theorem gX2_sortByRoomPerPoint_X2_hasLessRoomPerPoint : GoodIn wsX2_sortByRoomPerPoint (wsV RX2 78 RX2 yX2_hasLessRoomPerPoint wsX2_hasLessRoomPerPoint) := goodIn_app (goodIn_of _ (by decide +kernel)) ggX2_sortByRoomPerPoint_X2_hasLessRoomPerPoint
set_option maxRecDepth 20000 in
theorem ggX2_sortByRoomPerPoint_X2_swapPlaces : GoodIn wsX2_sortByRoomPerPoint wsX2_swapPlaces := goodIn_r _ [12, 13, 8, 7, 14, 15, 16, 5, 17, 18, 19, 20, 21, 22, 23, 24, 25] (by decide +kernel) (by decide +kernel)
set_option maxRecDepth 20000 in
theorem gX2_sortByRoomPerPoint_X2_swapPlaces : GoodIn wsX2_sortByRoomPerPoint (wsV RX2 82 RX2 yX2_swapPlaces wsX2_swapPlaces) := goodIn_app (goodIn_of _ (by decide +kernel)) ggX2_sortByRoomPerPoint_X2_swapPlaces
theorem dX2_sortByRoomPerPoint_0 : decode cX2_sortByRoomPerPoint 0 = .ok (.iconst 1, 1) := by decide +kernel
theorem dX2_sortByRoomPerPoint_1 : decode cX2_sortByRoomPerPoint 1 = .ok (.istore_n 1, 1) := by decide +kernel
theorem dX2_sortByRoomPerPoint_2 : decode cX2_sortByRoomPerPoint 2 = .ok (.iload_n 1, 1) := by decide +kernel
theorem dX2_sortByRoomPerPoint_3 : decode cX2_sortByRoomPerPoint 3 = .ok (.aload_n 0, 1) := by decide +kernel
theorem dX2_sortByRoomPerPoint_4 : decode cX2_sortByRoomPerPoint 4 = .ok (.getfield 28, 3) := by decide +kernel
theorem dX2_sortByRoomPerPoint_7 : decode cX2_sortByRoomPerPoint 7 = .ok (.if_icmp .ge 40, 3) := by decide +kernel
theorem dX2_sortByRoomPerPoint_10 : decode cX2_sortByRoomPerPoint 10 = .ok (.iload_n 1, 1) := by decide +kernel
theorem dX2_sortByRoomPerPoint_11 : decode cX2_sortByRoomPerPoint 11 = .ok (.istore_n 2, 1) := by decide +kernel
theorem dX2_sortByRoomPerPoint_12 : decode cX2_sortByRoomPerPoint 12 = .ok (.iload_n 2, 1) := by decide +kernel
theorem dX2_sortByRoomPerPoint_13 : decode cX2_sortByRoomPerPoint 13 = .ok (.ifCond .le 28, 3) := by decide +kernel
theorem dX2_sortByRoomPerPoint_16 : decode cX2_sortByRoomPerPoint 16 = .ok (.aload_n 0, 1) := by decide +kernel
theorem dX2_sortByRoomPerPoint_17 : decode cX2_sortByRoomPerPoint 17 = .ok (.iload_n 2, 1) := by decide +kernel
theorem dX2_sortByRoomPerPoint_18 : decode cX2_sortByRoomPerPoint 18 = .ok (.iload_n 2, 1) := by decide +kernel
theorem dX2_sortByRoomPerPoint_19 : decode cX2_sortByRoomPerPoint 19 = .ok (.iconst 1, 1) := by decide +kernel
theorem dX2_sortByRoomPerPoint_20 : decode cX2_sortByRoomPerPoint 20 = .ok (.isub, 1) := by decide +kernel
theorem dX2_sortByRoomPerPoint_21 : decode cX2_sortByRoomPerPoint 21 = .ok (.invokevirtual 78, 3) := by decide +kernel
theorem dX2_sortByRoomPerPoint_24 : decode cX2_sortByRoomPerPoint 24 = .ok (.ifCond .eq 17, 3) := by decide +kernel
theorem dX2_sortByRoomPerPoint_27 : decode cX2_sortByRoomPerPoint 27 = .ok (.aload_n 0, 1) := by decide +kernel
theorem dX2_sortByRoomPerPoint_28 : decode cX2_sortByRoomPerPoint 28 = .ok (.iload_n 2, 1) := by decide +kernel
theorem dX2_sortByRoomPerPoint_29 : decode cX2_sortByRoomPerPoint 29 = .ok (.iload_n 2, 1) := by decide +kernel
theorem dX2_sortByRoomPerPoint_30 : decode cX2_sortByRoomPerPoint 30 = .ok (.iconst 1, 1) := by decide +kernel
theorem dX2_sortByRoomPerPoint_31 : decode cX2_sortByRoomPerPoint 31 = .ok (.isub, 1) := by decide +kernel
theorem dX2_sortByRoomPerPoint_32 : decode cX2_sortByRoomPerPoint 32 = .ok (.invokevirtual 82, 3) := by decide +kernel
theorem dX2_sortByRoomPerPoint_35 : decode cX2_sortByRoomPerPoint 35 = .ok (.iinc 2 (-1), 3) := by decide +kernel
theorem dX2_sortByRoomPerPoint_38 : decode cX2_sortByRoomPerPoint 38 = .ok (.goto (-26), 3) := by decide +kernel
theorem dX2_sortByRoomPerPoint_41 : decode cX2_sortByRoomPerPoint 41 = .ok (.iinc 1 1, 3) := by decide +kernel
theorem dX2_sortByRoomPerPoint_44 : decode cX2_sortByRoomPerPoint 44 = .ok (.goto (-42), 3) := by decide +kernel
theorem dX2_sortByRoomPerPoint_47 : decode cX2_sortByRoomPerPoint 47 = .ok (.return_, 1) := by decide +kernel
theorem dX2_hasLessRoomPerPoint_0 : decode cX2_hasLessRoomPerPoint 0 = .ok (.aload_n 0, 1) := by decide +kernel
theorem dX2_hasLessRoomPerPoint_1 : decode cX2_hasLessRoomPerPoint 1 = .ok (.getfield 18, 3) := by decide +kernel
theorem dX2_hasLessRoomPerPoint_4 : decode cX2_hasLessRoomPerPoint 4 = .ok (.iload_n 1, 1) := by decide +kernel
theorem dX2_hasLessRoomPerPoint_5 : decode cX2_hasLessRoomPerPoint 5 = .ok (.iaload, 1) := by decide +kernel
theorem dX2_hasLessRoomPerPoint_6 : decode cX2_hasLessRoomPerPoint 6 = .ok (.i2l, 1) := by decide +kernel
theorem dX2_hasLessRoomPerPoint_7 : decode cX2_hasLessRoomPerPoint 7 = .ok (.aload_n 0, 1) := by decide +kernel
theorem dX2_hasLessRoomPerPoint_8 : decode cX2_hasLessRoomPerPoint 8 = .ok (.getfield 15, 3) := by decide +kernel
theorem dX2_hasLessRoomPerPoint_11 : decode cX2_hasLessRoomPerPoint 11 = .ok (.iload_n 2, 1) := by decide +kernel
theorem dX2_hasLessRoomPerPoint_12 : decode cX2_hasLessRoomPerPoint 12 = .ok (.iaload, 1) := by decide +kernel
theorem dX2_hasLessRoomPerPoint_13 : decode cX2_hasLessRoomPerPoint 13 = .ok (.i2l, 1) := by decide +kernel
theorem dX2_hasLessRoomPerPoint_14 : decode cX2_hasLessRoomPerPoint 14 = .ok (.lmul, 1) := by decide +kernel
theorem dX2_hasLessRoomPerPoint_15 : decode cX2_hasLessRoomPerPoint 15 = .ok (.aload_n 0, 1) := by decide +kernel
theorem dX2_hasLessRoomPerPoint_16 : decode cX2_hasLessRoomPerPoint 16 = .ok (.getfield 18, 3) := by decide +kernel
theorem dX2_hasLessRoomPerPoint_19 : decode cX2_hasLessRoomPerPoint 19 = .ok (.iload_n 2, 1) := by decide +kernel
theorem dX2_hasLessRoomPerPoint_20 : decode cX2_hasLessRoomPerPoint 20 = .ok (.iaload, 1) := by decide +kernel
theorem dX2_hasLessRoomPerPoint_21 : decode cX2_hasLessRoomPerPoint 21 = .ok (.i2l, 1) := by decide +kernel
theorem dX2_hasLessRoomPerPoint_22 : decode cX2_hasLessRoomPerPoint 22 = .ok (.aload_n 0, 1) := by decide +kernel
theorem dX2_hasLessRoomPerPoint_23 : decode cX2_hasLessRoomPerPoint 23 = .ok (.getfield 15, 3) := by decide +kernel
theorem dX2_hasLessRoomPerPoint_26 : decode cX2_hasLessRoomPerPoint 26 = .ok (.iload_n 1, 1) := by decide +kernel
theorem dX2_hasLessRoomPerPoint_27 : decode cX2_hasLessRoomPerPoint 27 = .ok (.iaload, 1) := by decide +kernel
theorem dX2_hasLessRoomPerPoint_28 : decode cX2_hasLessRoomPerPoint 28 = .ok (.i2l, 1) := by decide +kernel
theorem dX2_hasLessRoomPerPoint_29 : decode cX2_hasLessRoomPerPoint 29 = .ok (.lmul, 1) := by decide +kernel
theorem dX2_hasLessRoomPerPoint_30 : decode cX2_hasLessRoomPerPoint 30 = .ok (.lcmp, 1) := by decide +kernel
theorem dX2_hasLessRoomPerPoint_31 : decode cX2_hasLessRoomPerPoint 31 = .ok (.ifCond .ge 7, 3) := by decide +kernel
theorem dX2_hasLessRoomPerPoint_34 : decode cX2_hasLessRoomPerPoint 34 = .ok (.iconst 1, 1) := by decide +kernel
theorem dX2_hasLessRoomPerPoint_35 : decode cX2_hasLessRoomPerPoint 35 = .ok (.goto 4, 3) := by decide +kernel
theorem dX2_hasLessRoomPerPoint_38 : decode cX2_hasLessRoomPerPoint 38 = .ok (.iconst 0, 1) := by decide +kernel
theorem dX2_hasLessRoomPerPoint_39 : decode cX2_hasLessRoomPerPoint 39 = .ok (.ireturn, 1) := by decide +kernel
set_option maxRecDepth 20000 in
theorem ggX2_swapPlaces_X2_copyPlace : GoodIn wsX2_swapPlaces wsX2_copyPlace := goodIn_r _ [8, 1, 2, 3, 9, 10, 11, 12, 13, 14, 15, 16] (by decide +kernel) (by decide +kernel)
set_option maxRecDepth 20000 in
theorem gX2_swapPlaces_X2_copyPlace : GoodIn wsX2_swapPlaces (wsV RX2 74 RX2 yX2_copyPlace wsX2_copyPlace) := goodIn_app (goodIn_of _ (by decide +kernel)) ggX2_swapPlaces_X2_copyPlace
theorem dX2_swapPlaces_0 : decode cX2_swapPlaces 0 = .ok (.aload_n 0, 1) := by decide +kernel
theorem dX2_swapPlaces_1 : decode cX2_swapPlaces 1 = .ok (.getfield 9, 3) := by decide +kernel
theorem dX2_swapPlaces_4 : decode cX2_swapPlaces 4 = .ok (.iload_n 1, 1) := by decide +kernel
theorem dX2_swapPlaces_5 : decode cX2_swapPlaces 5 = .ok (.iaload, 1) := by decide +kernel
theorem dX2_swapPlaces_6 : decode cX2_swapPlaces 6 = .ok (.istore_n 3, 1) := by decide +kernel
theorem dX2_swapPlaces_7 : decode cX2_swapPlaces 7 = .ok (.aload_n 0, 1) := by decide +kernel
theorem dX2_swapPlaces_8 : decode cX2_swapPlaces 8 = .ok (.getfield 15, 3) := by decide +kernel
theorem dX2_swapPlaces_11 : decode cX2_swapPlaces 11 = .ok (.iload_n 1, 1) := by decide +kernel
theorem dX2_swapPlaces_12 : decode cX2_swapPlaces 12 = .ok (.iaload, 1) := by decide +kernel
theorem dX2_swapPlaces_13 : decode cX2_swapPlaces 13 = .ok (.istore 4, 2) := by decide +kernel
theorem dX2_swapPlaces_15 : decode cX2_swapPlaces 15 = .ok (.aload_n 0, 1) := by decide +kernel
theorem dX2_swapPlaces_16 : decode cX2_swapPlaces 16 = .ok (.getfield 18, 3) := by decide +kernel
theorem dX2_swapPlaces_19 : decode cX2_swapPlaces 19 = .ok (.iload_n 1, 1) := by decide +kernel
theorem dX2_swapPlaces_20 : decode cX2_swapPlaces 20 = .ok (.iaload, 1) := by decide +kernel
theorem dX2_swapPlaces_21 : decode cX2_swapPlaces 21 = .ok (.istore 5, 2) := by decide +kernel
theorem dX2_swapPlaces_23 : decode cX2_swapPlaces 23 = .ok (.aload_n 0, 1) := by decide +kernel
theorem dX2_swapPlaces_24 : decode cX2_swapPlaces 24 = .ok (.iload_n 2, 1) := by decide +kernel
theorem dX2_swapPlaces_25 : decode cX2_swapPlaces 25 = .ok (.iload_n 1, 1) := by decide +kernel
theorem dX2_swapPlaces_26 : decode cX2_swapPlaces 26 = .ok (.invokevirtual 74, 3) := by decide +kernel
theorem dX2_swapPlaces_29 : decode cX2_swapPlaces 29 = .ok (.aload_n 0, 1) := by decide +kernel
theorem dX2_swapPlaces_30 : decode cX2_swapPlaces 30 = .ok (.getfield 9, 3) := by decide +kernel
theorem dX2_swapPlaces_33 : decode cX2_swapPlaces 33 = .ok (.iload_n 2, 1) := by decide +kernel
theorem dX2_swapPlaces_34 : decode cX2_swapPlaces 34 = .ok (.iload_n 3, 1) := by decide +kernel
theorem dX2_swapPlaces_35 : decode cX2_swapPlaces 35 = .ok (.iastore, 1) := by decide +kernel
theorem dX2_swapPlaces_36 : decode cX2_swapPlaces 36 = .ok (.aload_n 0, 1) := by decide +kernel
theorem dX2_swapPlaces_37 : decode cX2_swapPlaces 37 = .ok (.getfield 15, 3) := by decide +kernel
theorem dX2_swapPlaces_40 : decode cX2_swapPlaces 40 = .ok (.iload_n 2, 1) := by decide +kernel
theorem dX2_swapPlaces_41 : decode cX2_swapPlaces 41 = .ok (.iload 4, 2) := by decide +kernel
theorem dX2_swapPlaces_43 : decode cX2_swapPlaces 43 = .ok (.iastore, 1) := by decide +kernel
theorem dX2_swapPlaces_44 : decode cX2_swapPlaces 44 = .ok (.aload_n 0, 1) := by decide +kernel
theorem dX2_swapPlaces_45 : decode cX2_swapPlaces 45 = .ok (.getfield 18, 3) := by decide +kernel
theorem dX2_swapPlaces_48 : decode cX2_swapPlaces 48 = .ok (.iload_n 2, 1) := by decide +kernel
theorem dX2_swapPlaces_49 : decode cX2_swapPlaces 49 = .ok (.iload 5, 2) := by decide +kernel
theorem dX2_swapPlaces_51 : decode cX2_swapPlaces 51 = .ok (.iastore, 1) := by decide +kernel
theorem dX2_swapPlaces_52 : decode cX2_swapPlaces 52 = .ok (.return_, 1) := by decide +kernel
set_option maxRecDepth 20000 in
theorem ggX3_init_X0_init : GoodIn wsX3_init wsX0_init := goodIn_r _ [22, 23, 2, 3, 4, 24, 25, 26, 27, 28, 29, 54, 55, 56, 57, 58, 59] (by decide +kernel) (by decide +kernel)
set_option maxRecDepth 20000 in
theorem gX3_init_X0_init : GoodIn wsX3_init (wsX0_init) := ggX3_init_X0_init
set_option maxRecDepth 20000 in
theorem ggX3_init_X1_init : GoodIn wsX3_init wsX1_init := goodIn_r _ [31, 32, 2, 3, 4, 33, 34, 35, 36, 60, 61, 62, 63, 64] (by decide +kernel) (by decide +kernel)
set_option maxRecDepth 20000 in
theorem gX3_init_X1_init_n25 : GoodIn wsX3_init (wsX1_init) := ggX3_init_X1_init
set_option maxRecDepth 20000 in
theorem ggX3_init_X2_init : GoodIn wsX3_init wsX2_init := goodIn_r _ [38, 39, 2, 3, 4, 40, 41, 42, 43, 28, 44, 65, 66, 67, 68, 69, 70, 71, 72] (by decide +kernel) (by decide +kernel)
set_option maxRecDepth 20000 in
theorem gX3_init_X2_init_n32 : GoodIn wsX3_init (wsX2_init) := ggX3_init_X2_init
end
section
/-! my own rows over the two worlds: written by wip/gen/world.py -/
def wC (cI cZ : ClassId) (ad : Nat → Nat) (sm fe ex dy : Int32) (gp gc op gr st dl wo : Nat → Int32) (n : Nat) (yc ya ys yd : Nat → Int32) (q : Nat) (zc zp zr zs zf : Nat → Int32) (z : Nat) (zm zt : Int64) : va_W := [(ad 0, .inr (3, [.int sm, .int fe, .int ex, .int dy, .ref (ad 1), .ref (ad 2), .ref (ad 3), .ref (ad 9), .ref (ad 14)])), (ad 1, .inl (cI, 5, .inl gp)), (ad 2, .inl (cI, 5, .inl gc)), (ad 3, .inr (0, [.ref (ad 4), .ref (ad 5), .ref (ad 6), .ref (ad 7), .ref (ad 8), .int (nI n)])), (ad 4, .inl (cI, 30, .inl op)), (ad 5, .inl (cI, 24, .inl gr)), (ad 6, .inl (cI, 24, .inl st)), (ad 7, .inl (cI, 24, .inl dl)), (ad 8, .inl (cZ, 24, .inl wo)), (ad 9, .inr (1, [.ref (ad 10), .ref (ad 11), .ref (ad 12), .ref (ad 13), .int (nI q)])), (ad 10, .inl (cI, 100, .inl yc)), (ad 11, .inl (cI, 100, .inl ya)), (ad 12, .inl (cI, 100, .inl ys)), (ad 13, .inl (cI, 100, .inl yd)), (ad 14, .inr (2, [.ref (ad 15), .ref (ad 16), .ref (ad 17), .ref (ad 18), .ref (ad 19), .int (nI z), .long zm, .long zt])), (ad 15, .inl (cI, 24, .inl zc)), (ad 16, .inl (cI, 24, .inl zp)), (ad 17, .inl (cI, 24, .inl zr)), (ad 18, .inl (cI, 24, .inl zs)), (ad 19, .inl (cZ, 24, .inl zf))]
/-- the addresses of wC -/
def awC (ad : Nat → Nat) : Nat → Prop := fun x => ∃ j, j < 20 ∧ x = ad j
def iwC (ad : Nat → Nat) : Prop := ∀ i j, i < 20 → j < 20 → ad i = ad j → i = j
def wM (cI cZ : ClassId) (am : Nat → Nat) (sm fe ex : Int32) (gp gc : Nat → Int32) (dy : Int32) (n : Nat) (pe gr st dl wo : Nat → Int32) (q : Nat) (yc ya yd ys tp fu sh ro : Nat → Int32) (th : Int32) : va_W := [(am 0, .inr (4, [.int sm, .int fe, .int ex, .ref (am 1), .ref (am 2), .int dy, .int (nI n), .ref (am 3), .ref (am 4), .ref (am 5), .ref (am 6), .ref (am 7), .int (nI q), .ref (am 8), .ref (am 9), .ref (am 10), .ref (am 11), .ref (am 12), .ref (am 13), .ref (am 14), .ref (am 15), .int th])), (am 1, .inl (cI, 5, .inl gp)), (am 2, .inl (cI, 5, .inl gc)), (am 3, .inl (cI, 24, .inl pe)), (am 4, .inl (cI, 24, .inl gr)), (am 5, .inl (cI, 24, .inl st)), (am 6, .inl (cI, 24, .inl dl)), (am 7, .inl (cZ, 24, .inl wo)), (am 8, .inl (cI, 100, .inl yc)), (am 9, .inl (cI, 100, .inl ya)), (am 10, .inl (cI, 100, .inl yd)), (am 11, .inl (cI, 100, .inl ys)), (am 12, .inl (cZ, 24, .inl tp)), (am 13, .inl (cZ, 24, .inl fu)), (am 14, .inl (cI, 24, .inl sh)), (am 15, .inl (cI, 24, .inl ro))]
/-- the addresses of wM -/
def awM (am : Nat → Nat) : Nat → Prop := fun x => ∃ j, j < 16 ∧ x = am j
def iwM (am : Nat → Nat) : Prop := ∀ i j, i < 16 → j < 16 → am i = am j → i = j
theorem zz_D (N : Nat) (f : Nat → Nat) (A : Nat → Prop) (ws : va_W) (hA : ∀ j, j < N → A (f j)) (hI : ∀ i j, i < N → j < N → f i = f j → i = j) (hs : ws.map (fun x => x.1) = (List.range N).map f) : va_D A ws := by
  have key : ∀ (k : Nat) (x : Nat × va_E), ws[k]? = some x → k < N ∧ x.1 = f k := by
    intro k x hk
    have h1 : (ws.map (fun x => x.1))[k]? = some x.1 := by rw [List.getElem?_map, hk]; rfl
    rw [hs, List.getElem?_map] at h1
    cases h2 : (List.range N)[k]? with
    | none => rw [h2] at h1; cases h1
    | some y =>
      rw [h2] at h1
      have h3 := List.getElem?_eq_some_iff.mp h2
      obtain ⟨h4, h5⟩ := h3
      rw [List.getElem_range] at h5
      subst h5
      exact ⟨by simpa using h4, (Option.some.inj h1).symm⟩
  refine ⟨fun i j x y hi hj hxy => ?_, fun k x hk => ?_⟩
  · obtain ⟨a1, b1⟩ := key i x hi
    obtain ⟨a2, b2⟩ := key j y hj
    exact hI i j a1 a2 (by rw [← b1, ← b2]; exact hxy)
  · obtain ⟨a1, b1⟩ := key k x hk
    rw [b1]; exact hA k a1
theorem dwC {cI cZ : ClassId} {ad : Nat → Nat} (hI : iwC ad) {A : Nat → Prop} (hA : ∀ x, awC ad x → A x) (sm fe ex dy : Int32) (gp gc op gr st dl wo : Nat → Int32) (n : Nat) (yc ya ys yd : Nat → Int32) (q : Nat) (zc zp zr zs zf : Nat → Int32) (z : Nat) (zm zt : Int64) : va_D A (wC cI cZ ad sm fe ex dy gp gc op gr st dl wo n yc ya ys yd q zc zp zr zs zf z zm zt) := zz_D 20 ad A _ (fun j hj => hA _ ⟨j, hj, rfl⟩) hI rfl
theorem dwM {cI cZ : ClassId} {am : Nat → Nat} (hI : iwM am) {A : Nat → Prop} (hA : ∀ x, awM am x → A x) (sm fe ex : Int32) (gp gc : Nat → Int32) (dy : Int32) (n : Nat) (pe gr st dl wo : Nat → Int32) (q : Nat) (yc ya yd ys tp fu sh ro : Nat → Int32) (th : Int32) : va_D A (wM cI cZ am sm fe ex gp gc dy n pe gr st dl wo q yc ya yd ys tp fu sh ro th) := zz_D 16 am A _ (fun j hj => hA _ ⟨j, hj, rfl⟩) hI rfl
theorem zi_e {a : Nat} (h : a < 2 ^ 31) : nI a = 0 ↔ a = 0 := by
  rw [← nI_0]; exact nI_eq h (by decide)
theorem zi_l {a : Nat} (h : a < 2 ^ 31) : nI a ≤ 0 ↔ a = 0 := by
  rw [← nI_0, nI_leI h (by decide)]; omega
theorem zi_g {a : Nat} (h : a < 2 ^ 31) : 0 < nI a ↔ 0 < a := by
  rw [← nI_0, nI_ltI (by decide) h]
theorem zz_inc (i : Nat) : nI i + Int32.ofInt 1 = nI (i + 1) := (show Int32.ofInt 1 = 1 by decide) ▸ nI_1 i
theorem zz_incn (i k : Nat) (h : Int32.ofInt (k : Int) = nI k) : nI i + Int32.ofInt (k : Int) = nI (i + k) := by rw [h]; exact nI_add i k
theorem zz_b01 {x : Int32} (h : x = nI 0 ∨ x = nI 1) : vp_nar .boolean x = x := by rcases h with rfl | rfl <;> rfl
theorem zz_nb {x : Int32} (h : x = nI 0 ∨ x = nI 1) : narrow .boolean (.int x) = .int x := by rcases h with rfl | rfl <;> rfl
section
variable {p : Program} {l : Launch} {e : Env} {R : Room} {s : State} {m : MethodId} {args : Array Value} {below : List Frame} {meth : Method} {c : Code} {H : Heap} {locs : List Loc} {cells slots : Nat} {Q : State → Prop} {cc : ByteArray} {pc : Nat} {ls : Array Slot} {rest : List Value} {own : String} {index : Nat} {Ts : List Cond} {H0 : Heap} {A0 : Nat → Prop}
variable {dC : Nat → ClassId} {dI : Nat → Nat → Nat} {cI cZ : ClassId} {ad am : Nat → Nat}

theorem zt_i {x y : Int32} (h : x = y) (k : W p l e R s m args below meth c H locs cells slots Q (F0 m pc ls (.int y :: rest))) : W p l e R s m args below meth c H locs cells slots Q (F0 m pc ls (.int x :: rest)) := by rw [h]; exact k
theorem zt_l {x y : Int64} (h : x = y) (k : W p l e R s m args below meth c H locs cells slots Q (F0 m pc ls (.long y :: rest))) : W p l e R s m args below meth c H locs cells slots Q (F0 m pc ls (.long x :: rest)) := by rw [h]; exact k
theorem zb_ge (hx : p.tables.exec = Jvm.exec) (hb : c.code = cc) {a b : Nat} {off : Int} {tgt : Nat} (ha0 : a < 2 ^ 31) (hb0 : b < 2 ^ 31) (hdg : decode cc pc = .ok (.if_icmp .ge off, 3)) (ht : (pc : Int) + off = (tgt : Int)) (kt : b ≤ a → W p l e R s m args below meth c H locs cells slots Q (F0 m tgt ls rest)) (kf : a < b → W p l e R s m args below meth c H locs cells slots Q (F0 m (pc + 3) ls rest)) : W p l e R s m args below meth c H locs cells slots Q (F0 m pc ls (.int (nI b) :: .int (nI a) :: rest)) := lv_icmp_ge hx hb hdg ht (fun h => kt ((nI_leI hb0 ha0).mp h)) (fun h => kf (Nat.lt_of_not_le (fun h2 => h ((nI_leI hb0 ha0).mpr h2))))
theorem zb_lt (hx : p.tables.exec = Jvm.exec) (hb : c.code = cc) {a b : Nat} {off : Int} {tgt : Nat} (ha0 : a < 2 ^ 31) (hb0 : b < 2 ^ 31) (hdg : decode cc pc = .ok (.if_icmp .lt off, 3)) (ht : (pc : Int) + off = (tgt : Int)) (kt : a < b → W p l e R s m args below meth c H locs cells slots Q (F0 m tgt ls rest)) (kf : b ≤ a → W p l e R s m args below meth c H locs cells slots Q (F0 m (pc + 3) ls rest)) : W p l e R s m args below meth c H locs cells slots Q (F0 m pc ls (.int (nI b) :: .int (nI a) :: rest)) := lv_icmp_lt hx hb hdg ht (fun h => kt ((nI_ltI ha0 hb0).mp h)) (fun h => kf (Nat.le_of_not_lt (fun h2 => h ((nI_ltI ha0 hb0).mpr h2))))
theorem zb_gt (hx : p.tables.exec = Jvm.exec) (hb : c.code = cc) {a b : Nat} {off : Int} {tgt : Nat} (ha0 : a < 2 ^ 31) (hb0 : b < 2 ^ 31) (hdg : decode cc pc = .ok (.if_icmp .gt off, 3)) (ht : (pc : Int) + off = (tgt : Int)) (kt : b < a → W p l e R s m args below meth c H locs cells slots Q (F0 m tgt ls rest)) (kf : a ≤ b → W p l e R s m args below meth c H locs cells slots Q (F0 m (pc + 3) ls rest)) : W p l e R s m args below meth c H locs cells slots Q (F0 m pc ls (.int (nI b) :: .int (nI a) :: rest)) := lv_icmp_gt hx hb hdg ht (fun h => kt ((nI_ltI hb0 ha0).mp h)) (fun h => kf (Nat.le_of_not_lt (fun h2 => h ((nI_ltI hb0 ha0).mpr h2))))
theorem zb_le (hx : p.tables.exec = Jvm.exec) (hb : c.code = cc) {a b : Nat} {off : Int} {tgt : Nat} (ha0 : a < 2 ^ 31) (hb0 : b < 2 ^ 31) (hdg : decode cc pc = .ok (.if_icmp .le off, 3)) (ht : (pc : Int) + off = (tgt : Int)) (kt : a ≤ b → W p l e R s m args below meth c H locs cells slots Q (F0 m tgt ls rest)) (kf : b < a → W p l e R s m args below meth c H locs cells slots Q (F0 m (pc + 3) ls rest)) : W p l e R s m args below meth c H locs cells slots Q (F0 m pc ls (.int (nI b) :: .int (nI a) :: rest)) := lv_icmp_le hx hb hdg ht (fun h => kt ((nI_leI ha0 hb0).mp h)) (fun h => kf (Nat.lt_of_not_le (fun h2 => h ((nI_leI ha0 hb0).mpr h2))))
theorem zb_eq (hx : p.tables.exec = Jvm.exec) (hb : c.code = cc) {a b : Nat} {off : Int} {tgt : Nat} (ha0 : a < 2 ^ 31) (hb0 : b < 2 ^ 31) (hdg : decode cc pc = .ok (.if_icmp .eq off, 3)) (ht : (pc : Int) + off = (tgt : Int)) (kt : a = b → W p l e R s m args below meth c H locs cells slots Q (F0 m tgt ls rest)) (kf : a ≠ b → W p l e R s m args below meth c H locs cells slots Q (F0 m (pc + 3) ls rest)) : W p l e R s m args below meth c H locs cells slots Q (F0 m pc ls (.int (nI b) :: .int (nI a) :: rest)) := lv_icmp_eq hx hb hdg ht (fun h => kt ((nI_eq ha0 hb0).mp h)) (fun h => kf (fun h2 => h ((nI_eq ha0 hb0).mpr h2)))
theorem zb_ne (hx : p.tables.exec = Jvm.exec) (hb : c.code = cc) {a b : Nat} {off : Int} {tgt : Nat} (ha0 : a < 2 ^ 31) (hb0 : b < 2 ^ 31) (hdg : decode cc pc = .ok (.if_icmp .ne off, 3)) (ht : (pc : Int) + off = (tgt : Int)) (kt : a ≠ b → W p l e R s m args below meth c H locs cells slots Q (F0 m tgt ls rest)) (kf : a = b → W p l e R s m args below meth c H locs cells slots Q (F0 m (pc + 3) ls rest)) : W p l e R s m args below meth c H locs cells slots Q (F0 m pc ls (.int (nI b) :: .int (nI a) :: rest)) := lv_icmp_ne hx hb hdg ht (fun h => kt (fun h2 => h ((nI_eq ha0 hb0).mpr h2))) (fun h => kf ((nI_eq ha0 hb0).mp h))
theorem zi_eq (hx : p.tables.exec = Jvm.exec) (hb : c.code = cc) {a : Nat} {off : Int} {tgt : Nat} (ha0 : a < 2 ^ 31) (hdg : decode cc pc = .ok (.ifCond .eq off, 3)) (ht : (pc : Int) + off = (tgt : Int)) (kt : a = 0 → W p l e R s m args below meth c H locs cells slots Q (F0 m tgt ls rest)) (kf : a ≠ 0 → W p l e R s m args below meth c H locs cells slots Q (F0 m (pc + 3) ls rest)) : W p l e R s m args below meth c H locs cells slots Q (F0 m pc ls (.int (nI a) :: rest)) := lv_if_eq hx hb hdg ht (fun h => kt ((zi_e ha0).mp h)) (fun h => kf (fun h2 => h ((zi_e ha0).mpr h2)))
theorem zi_ne (hx : p.tables.exec = Jvm.exec) (hb : c.code = cc) {a : Nat} {off : Int} {tgt : Nat} (ha0 : a < 2 ^ 31) (hdg : decode cc pc = .ok (.ifCond .ne off, 3)) (ht : (pc : Int) + off = (tgt : Int)) (kt : a ≠ 0 → W p l e R s m args below meth c H locs cells slots Q (F0 m tgt ls rest)) (kf : a = 0 → W p l e R s m args below meth c H locs cells slots Q (F0 m (pc + 3) ls rest)) : W p l e R s m args below meth c H locs cells slots Q (F0 m pc ls (.int (nI a) :: rest)) := lv_if_ne hx hb hdg ht (fun h => kt (fun h2 => h ((zi_e ha0).mpr h2))) (fun h => kf ((zi_e ha0).mp h))
theorem zi_le (hx : p.tables.exec = Jvm.exec) (hb : c.code = cc) {a : Nat} {off : Int} {tgt : Nat} (ha0 : a < 2 ^ 31) (hdg : decode cc pc = .ok (.ifCond .le off, 3)) (ht : (pc : Int) + off = (tgt : Int)) (kt : a = 0 → W p l e R s m args below meth c H locs cells slots Q (F0 m tgt ls rest)) (kf : 0 < a → W p l e R s m args below meth c H locs cells slots Q (F0 m (pc + 3) ls rest)) : W p l e R s m args below meth c H locs cells slots Q (F0 m pc ls (.int (nI a) :: rest)) := lv_if_le hx hb hdg ht (fun h => kt ((zi_l ha0).mp h)) (fun h => kf (Nat.pos_of_ne_zero (fun h2 => h ((zi_l ha0).mpr h2))))
theorem zi_gt (hx : p.tables.exec = Jvm.exec) (hb : c.code = cc) {a : Nat} {off : Int} {tgt : Nat} (ha0 : a < 2 ^ 31) (hdg : decode cc pc = .ok (.ifCond .gt off, 3)) (ht : (pc : Int) + off = (tgt : Int)) (kt : 0 < a → W p l e R s m args below meth c H locs cells slots Q (F0 m tgt ls rest)) (kf : a = 0 → W p l e R s m args below meth c H locs cells slots Q (F0 m (pc + 3) ls rest)) : W p l e R s m args below meth c H locs cells slots Q (F0 m pc ls (.int (nI a) :: rest)) := lv_if_gt hx hb hdg ht (fun h => kt ((zi_g ha0).mp h)) (fun h => kf (Nat.eq_zero_of_not_pos (fun h2 => h ((zi_g ha0).mpr h2))))
theorem zi_lt (hx : p.tables.exec = Jvm.exec) (hb : c.code = cc) {a : Nat} {off : Int} {tgt : Nat} (ha0 : a < 2 ^ 31) (hdg : decode cc pc = .ok (.ifCond .lt off, 3)) (ht : (pc : Int) + off = (tgt : Int)) (kt : False → W p l e R s m args below meth c H locs cells slots Q (F0 m tgt ls rest)) (kf : True → W p l e R s m args below meth c H locs cells slots Q (F0 m (pc + 3) ls rest)) : W p l e R s m args below meth c H locs cells slots Q (F0 m pc ls (.int (nI a) :: rest)) := lv_if_lt hx hb hdg ht (fun h => (nI_pos ha0 h).elim) (fun h => kf trivial)
theorem zi_ge (hx : p.tables.exec = Jvm.exec) (hb : c.code = cc) {a : Nat} {off : Int} {tgt : Nat} (ha0 : a < 2 ^ 31) (hdg : decode cc pc = .ok (.ifCond .ge off, 3)) (ht : (pc : Int) + off = (tgt : Int)) (kt : True → W p l e R s m args below meth c H locs cells slots Q (F0 m tgt ls rest)) (kf : False → W p l e R s m args below meth c H locs cells slots Q (F0 m (pc + 3) ls rest)) : W p l e R s m args below meth c H locs cells slots Q (F0 m pc ls (.int (nI a) :: rest)) := lv_if_ge hx hb hdg ht (fun h => kt trivial) (fun h => (h (nI_pos' ha0)).elim)
theorem zg_lt (hx : p.tables.exec = Jvm.exec) (hb : c.code = cc) {x y : Int64} {off : Int} {tgt : Nat} (hdg : decode cc pc = .ok (.ifCond .lt off, 3)) (ht : (pc : Int) + off = (tgt : Int)) (kt : x < y → W p l e R s m args below meth c H locs cells slots Q (F0 m tgt ls rest)) (kf : ¬ (x < y) → W p l e R s m args below meth c H locs cells slots Q (F0 m (pc + 3) ls rest)) : W p l e R s m args below meth c H locs cells slots Q (F0 m pc ls (.int (lg_cmp x y) :: rest)) := lv_if_lt hx hb hdg ht (fun h => kt ((lg_cmp_lt x y).mp h)) (fun h => kf (fun h2 => h ((lg_cmp_lt x y).mpr h2)))
theorem zg_ge (hx : p.tables.exec = Jvm.exec) (hb : c.code = cc) {x y : Int64} {off : Int} {tgt : Nat} (hdg : decode cc pc = .ok (.ifCond .ge off, 3)) (ht : (pc : Int) + off = (tgt : Int)) (kt : y ≤ x → W p l e R s m args below meth c H locs cells slots Q (F0 m tgt ls rest)) (kf : ¬ (y ≤ x) → W p l e R s m args below meth c H locs cells slots Q (F0 m (pc + 3) ls rest)) : W p l e R s m args below meth c H locs cells slots Q (F0 m pc ls (.int (lg_cmp x y) :: rest)) := lv_if_ge hx hb hdg ht (fun h => kt ((lg_cmp_ge x y).mp h)) (fun h => kf (fun h2 => h ((lg_cmp_ge x y).mpr h2)))
theorem zg_gt (hx : p.tables.exec = Jvm.exec) (hb : c.code = cc) {x y : Int64} {off : Int} {tgt : Nat} (hdg : decode cc pc = .ok (.ifCond .gt off, 3)) (ht : (pc : Int) + off = (tgt : Int)) (kt : y < x → W p l e R s m args below meth c H locs cells slots Q (F0 m tgt ls rest)) (kf : ¬ (y < x) → W p l e R s m args below meth c H locs cells slots Q (F0 m (pc + 3) ls rest)) : W p l e R s m args below meth c H locs cells slots Q (F0 m pc ls (.int (lg_cmp x y) :: rest)) := lv_if_gt hx hb hdg ht (fun h => kt ((lg_cmp_gt x y).mp h)) (fun h => kf (fun h2 => h ((lg_cmp_gt x y).mpr h2)))
theorem zg_le (hx : p.tables.exec = Jvm.exec) (hb : c.code = cc) {x y : Int64} {off : Int} {tgt : Nat} (hdg : decode cc pc = .ok (.ifCond .le off, 3)) (ht : (pc : Int) + off = (tgt : Int)) (kt : x ≤ y → W p l e R s m args below meth c H locs cells slots Q (F0 m tgt ls rest)) (kf : ¬ (x ≤ y) → W p l e R s m args below meth c H locs cells slots Q (F0 m (pc + 3) ls rest)) : W p l e R s m args below meth c H locs cells slots Q (F0 m pc ls (.int (lg_cmp x y) :: rest)) := lv_if_le hx hb hdg ht (fun h => kt ((lg_cmp_le x y).mp h)) (fun h => kf (fun h2 => h ((lg_cmp_le x y).mpr h2)))
theorem zg_eq (hx : p.tables.exec = Jvm.exec) (hb : c.code = cc) {x y : Int64} {off : Int} {tgt : Nat} (hdg : decode cc pc = .ok (.ifCond .eq off, 3)) (ht : (pc : Int) + off = (tgt : Int)) (kt : x = y → W p l e R s m args below meth c H locs cells slots Q (F0 m tgt ls rest)) (kf : ¬ (x = y) → W p l e R s m args below meth c H locs cells slots Q (F0 m (pc + 3) ls rest)) : W p l e R s m args below meth c H locs cells slots Q (F0 m pc ls (.int (lg_cmp x y) :: rest)) := lv_if_eq hx hb hdg ht (fun h => kt ((lg_cmp_eq x y).mp h)) (fun h => kf (fun h2 => h ((lg_cmp_eq x y).mpr h2)))
theorem zg_ne (hx : p.tables.exec = Jvm.exec) (hb : c.code = cc) {x y : Int64} {off : Int} {tgt : Nat} (hdg : decode cc pc = .ok (.ifCond .ne off, 3)) (ht : (pc : Int) + off = (tgt : Int)) (kt : ¬ x = y → W p l e R s m args below meth c H locs cells slots Q (F0 m tgt ls rest)) (kf : ¬ (¬ x = y) → W p l e R s m args below meth c H locs cells slots Q (F0 m (pc + 3) ls rest)) : W p l e R s m args below meth c H locs cells slots Q (F0 m pc ls (.int (lg_cmp x y) :: rest)) := lv_if_ne hx hb hdg ht (fun h => kt (fun h2 => h ((lg_cmp_eq x y).mpr h2))) (fun h => kf (fun h2 => h2 ((lg_cmp_eq x y).mp h)))
theorem zl_ro {σ : Type} {nL : Nat} (L : σ → List (Nat × Value)) (Inv : σ → Prop) (μ : σ → Nat) (a0 : σ) (h0 : Inv a0) (hl : lv_has ls nL (L a0))
    (body : ∀ a, Inv a → (∀ b, Inv b → μ b < μ a → ∀ ls, lv_has ls nL (L b) → W p l e R s m args below meth c H locs cells slots Q (F0 m pc ls rest)) → ∀ ls, lv_has ls nL (L a) → W p l e R s m args below meth c H locs cells slots Q (F0 m pc ls rest)) : W p l e R s m args below meth c H locs cells slots Q (F0 m pc ls rest) := by
  have key : ∀ (k : Nat) (a : σ), μ a < k → Inv a → ∀ ls, lv_has ls nL (L a) → W p l e R s m args below meth c H locs cells slots Q (F0 m pc ls rest) := by
    intro k
    induction k with
    | zero => intro a h; exact absurd h (Nat.not_lt_zero _)
    | succ k ih => intro a h hi ls hl; exact body a hi (fun b hb0 hm ls hl => ih b (by omega) hb0 ls hl) ls hl
  exact key _ a0 (Nat.lt_succ_self _) h0 ls hl
theorem zl_rw {σ : Type} {nL : Nat} {D : va_G} {cl : List vw_C} (Wd : σ → va_W) (L : σ → List (Nat × Value)) (Inv : σ → Prop) (μ : σ → Nat) (a0 : σ) (h0 : Inv a0) (hP : va_P D cl (Wd a0) H) (hS : va_S A0 H0 H locs) (hl : lv_has ls nL (L a0))
    (body : ∀ a, Inv a → (∀ b, Inv b → μ b < μ a → ∀ H2 locs2, va_P D cl (Wd b) H2 → va_S A0 H0 H2 locs2 → ∀ ls, lv_has ls nL (L b) → W p l e R s m args below meth c H2 locs2 cells slots Q (F0 m pc ls rest)) → ∀ H2 locs2, va_P D cl (Wd a) H2 → va_S A0 H0 H2 locs2 → ∀ ls, lv_has ls nL (L a) → W p l e R s m args below meth c H2 locs2 cells slots Q (F0 m pc ls rest)) : W p l e R s m args below meth c H locs cells slots Q (F0 m pc ls rest) := by
  have key : ∀ (k : Nat) (a : σ), μ a < k → Inv a → ∀ H2 locs2, va_P D cl (Wd a) H2 → va_S A0 H0 H2 locs2 → ∀ ls, lv_has ls nL (L a) → W p l e R s m args below meth c H2 locs2 cells slots Q (F0 m pc ls rest) := by
    intro k
    induction k with
    | zero => intro a h; exact absurd h (Nat.not_lt_zero _)
    | succ k ih => intro a h hi H2 locs2 hP hS ls hl; exact body a hi (fun b hb0 hm H2 locs2 hP hS ls hl => ih b (by omega) hb0 H2 locs2 hP hS ls hl) H2 locs2 hP hS ls hl
  exact key _ a0 (Nat.lt_succ_self _) h0 H locs hP hS ls hl
theorem zj_ro {σ : Type} {nL : Nat} (tgt : Nat) (St : σ → List Value) (L : σ → List (Nat × Value)) (J : σ → Prop) {g : JFrame} (kj : ∀ a, J a → ∀ ls, lv_has ls nL (L a) → W p l e R s m args below meth c H locs cells slots Q (F0 m tgt ls (St a)))
    (k : (∀ a, J a → ∀ ls, lv_has ls nL (L a) → W p l e R s m args below meth c H locs cells slots Q (F0 m tgt ls (St a))) → W p l e R s m args below meth c H locs cells slots Q g) : W p l e R s m args below meth c H locs cells slots Q g := k kj
theorem zj_rw {σ : Type} {nL : Nat} {D : va_G} {cl : List vw_C} (tgt : Nat) (Wd : σ → va_W) (St : σ → List Value) (L : σ → List (Nat × Value)) (J : σ → Prop) {g : JFrame} (kj : ∀ a, J a → ∀ H2 locs2, va_P D cl (Wd a) H2 → va_S A0 H0 H2 locs2 → ∀ ls, lv_has ls nL (L a) → W p l e R s m args below meth c H2 locs2 cells slots Q (F0 m tgt ls (St a)))
    (k : (∀ a, J a → ∀ H2 locs2, va_P D cl (Wd a) H2 → va_S A0 H0 H2 locs2 → ∀ ls, lv_has ls nL (L a) → W p l e R s m args below meth c H2 locs2 cells slots Q (F0 m tgt ls (St a))) → W p l e R s m args below meth c H locs cells slots Q g) : W p l e R s m args below meth c H locs cells slots Q g := k kj
theorem zc_ro {post : Int32 → Prop} {a : Array Value} {st0 : List Value} (hr : CallRun p l e R s m args below meth c H locs cells slots 0 0 (F0 m pc ls st0) rest (vp_Si post a) (fun _ => False)) (kk : ∀ r, post r → W p l e R s m args below meth c H locs cells slots Q (F0 m (pc + 3) ls (.int r :: rest))) : W p l e R s m args below meth c H locs cells slots Q (F0 m pc ls st0) := vp_callSi hr kk
section
variable {sm fe ex dy : Int32} {gp gc op gr st dl wo : Nat → Int32} {n : Nat} {yc ya ys yd : Nat → Int32} {q : Nat} {zc zp zr zs zf : Nat → Int32} {z : Nat} {zm zt : Int64}
theorem rC_0 (hK : va_K (dC, dI) vwCl [(cI, .int), (cZ, .boolean)] s) (hP : va_P (dC, dI) vwCl (wC cI cZ ad sm fe ex dy gp gc op gr st dl wo n yc ya ys yd q zc zp zr zs zf z zm zt) H) : ∃ cell : Cell, H[ad 0]? = some cell ∧ cell.vm.isStatics = false ∧ s.vm.findClass RX3 = some cell.cls := va_recv hK hP (ci := 3) (q0 := 0) rfl rfl
theorem gC_0_0 (hx : p.tables.exec = Jvm.exec) (hb : c.code = cc) {index : Nat} (hts : ∀ w ∈ Ts, w.before args s = true) (hin : ∀ w ∈ wsX30, w ∈ Ts) (hown : s.vm.findClass own = some m.cls) (hK : va_K (dC, dI) vwCl [(cI, .int), (cZ, .boolean)] s) (hP : va_P (dC, dI) vwCl (wC cI cZ ad sm fe ex dy gp gc op gr st dl wo n yc ya ys yd q zc zp zr zs zf z zm zt) H) (hlink : (Cond.fieldLink own index "SettlementFund" "sum" "I").before args s = true) (hdg : decode cc pc = .ok (.getfield index, 3)) (kk : W p l e R s m args below meth c H locs cells slots Q (F0 m (pc + 3) ls (.int sm :: rest))) : W p l e R s m args below meth c H locs cells slots Q (F0 m pc ls (.ref (ad 0) :: rest)) := va_get (D := (dC, dI)) (ci := 3) (v := .int sm) (C := RX3) (T := TX3) (N := 9) hx hb hts hin hown hK hP 0 rfl rfl 0 (by decide) hlink (fun _ h9 => h9) rfl hdg kk
theorem uC_0_0 (hx : p.tables.exec = Jvm.exec) (hb : c.code = cc) {index : Nat} (hts : ∀ w ∈ Ts, w.before args s = true) (hin : ∀ w ∈ wsX30, w ∈ Ts) (hown : s.vm.findClass own = some m.cls) (hK : va_K (dC, dI) vwCl [(cI, .int), (cZ, .boolean)] s) (hP : va_P (dC, dI) vwCl (wC cI cZ ad sm fe ex dy gp gc op gr st dl wo n yc ya ys yd q zc zp zr zs zf z zm zt) H) (hlink : (Cond.fieldLink own index "SettlementFund" "sum" "I").before args s = true) (hI : iwC ad) (hA : ∀ x, awC ad x → A0 x) (hS : va_S A0 H0 H locs) {x : Int32} (hdg : decode cc pc = .ok (.putfield index, 3)) (kk : ∀ (H1 : Heap) (locs1 : List Loc), va_P (dC, dI) vwCl (wC cI cZ ad x fe ex dy gp gc op gr st dl wo n yc ya ys yd q zc zp zr zs zf z zm zt) H1 → va_S A0 H0 H1 locs1 → W p l e R s m args below meth c H1 locs1 cells slots Q (F0 m (pc + 3) ls rest)) : W p l e R s m args below meth c H locs cells slots Q (F0 m pc ls (.int x :: .ref (ad 0) :: rest)) := va_put (D := (dC, dI)) (ci := 3) (v := .int x) (ty := .int) (C := RX3) (T := TX3) (N := 9) hx hb hts hin tyX3 tyX3_ok nmX3 hown hK hP (dwC hI hA ..) hS 0 rfl rfl 0 (by decide) hlink (fun _ h9 => h9) rfl (by decide +kernel) rfl rfl (Nat.le_of_ble_eq_true rfl) hdg (fun H1 locs1 hP1 _ hS1 => kk H1 locs1 hP1 hS1)
theorem gC_0_1 (hx : p.tables.exec = Jvm.exec) (hb : c.code = cc) {index : Nat} (hts : ∀ w ∈ Ts, w.before args s = true) (hin : ∀ w ∈ wsX30, w ∈ Ts) (hown : s.vm.findClass own = some m.cls) (hK : va_K (dC, dI) vwCl [(cI, .int), (cZ, .boolean)] s) (hP : va_P (dC, dI) vwCl (wC cI cZ ad sm fe ex dy gp gc op gr st dl wo n yc ya ys yd q zc zp zr zs zf z zm zt) H) (hlink : (Cond.fieldLink own index "SettlementFund" "feeInThousandths" "I").before args s = true) (hdg : decode cc pc = .ok (.getfield index, 3)) (kk : W p l e R s m args below meth c H locs cells slots Q (F0 m (pc + 3) ls (.int fe :: rest))) : W p l e R s m args below meth c H locs cells slots Q (F0 m pc ls (.ref (ad 0) :: rest)) := va_get (D := (dC, dI)) (ci := 3) (v := .int fe) (C := RX3) (T := TX3) (N := 9) hx hb hts hin hown hK hP 0 rfl rfl 1 (by decide) hlink (fun _ h9 => h9) rfl hdg kk
theorem uC_0_1 (hx : p.tables.exec = Jvm.exec) (hb : c.code = cc) {index : Nat} (hts : ∀ w ∈ Ts, w.before args s = true) (hin : ∀ w ∈ wsX30, w ∈ Ts) (hown : s.vm.findClass own = some m.cls) (hK : va_K (dC, dI) vwCl [(cI, .int), (cZ, .boolean)] s) (hP : va_P (dC, dI) vwCl (wC cI cZ ad sm fe ex dy gp gc op gr st dl wo n yc ya ys yd q zc zp zr zs zf z zm zt) H) (hlink : (Cond.fieldLink own index "SettlementFund" "feeInThousandths" "I").before args s = true) (hI : iwC ad) (hA : ∀ x, awC ad x → A0 x) (hS : va_S A0 H0 H locs) {x : Int32} (hdg : decode cc pc = .ok (.putfield index, 3)) (kk : ∀ (H1 : Heap) (locs1 : List Loc), va_P (dC, dI) vwCl (wC cI cZ ad sm x ex dy gp gc op gr st dl wo n yc ya ys yd q zc zp zr zs zf z zm zt) H1 → va_S A0 H0 H1 locs1 → W p l e R s m args below meth c H1 locs1 cells slots Q (F0 m (pc + 3) ls rest)) : W p l e R s m args below meth c H locs cells slots Q (F0 m pc ls (.int x :: .ref (ad 0) :: rest)) := va_put (D := (dC, dI)) (ci := 3) (v := .int x) (ty := .int) (C := RX3) (T := TX3) (N := 9) hx hb hts hin tyX3 tyX3_ok nmX3 hown hK hP (dwC hI hA ..) hS 0 rfl rfl 1 (by decide) hlink (fun _ h9 => h9) rfl (by decide +kernel) rfl rfl (Nat.le_of_ble_eq_true rfl) hdg (fun H1 locs1 hP1 _ hS1 => kk H1 locs1 hP1 hS1)
theorem gC_0_2 (hx : p.tables.exec = Jvm.exec) (hb : c.code = cc) {index : Nat} (hts : ∀ w ∈ Ts, w.before args s = true) (hin : ∀ w ∈ wsX30, w ∈ Ts) (hown : s.vm.findClass own = some m.cls) (hK : va_K (dC, dI) vwCl [(cI, .int), (cZ, .boolean)] s) (hP : va_P (dC, dI) vwCl (wC cI cZ ad sm fe ex dy gp gc op gr st dl wo n yc ya ys yd q zc zp zr zs zf z zm zt) H) (hlink : (Cond.fieldLink own index "SettlementFund" "expenses" "I").before args s = true) (hdg : decode cc pc = .ok (.getfield index, 3)) (kk : W p l e R s m args below meth c H locs cells slots Q (F0 m (pc + 3) ls (.int ex :: rest))) : W p l e R s m args below meth c H locs cells slots Q (F0 m pc ls (.ref (ad 0) :: rest)) := va_get (D := (dC, dI)) (ci := 3) (v := .int ex) (C := RX3) (T := TX3) (N := 9) hx hb hts hin hown hK hP 0 rfl rfl 2 (by decide) hlink (fun _ h9 => h9) rfl hdg kk
theorem uC_0_2 (hx : p.tables.exec = Jvm.exec) (hb : c.code = cc) {index : Nat} (hts : ∀ w ∈ Ts, w.before args s = true) (hin : ∀ w ∈ wsX30, w ∈ Ts) (hown : s.vm.findClass own = some m.cls) (hK : va_K (dC, dI) vwCl [(cI, .int), (cZ, .boolean)] s) (hP : va_P (dC, dI) vwCl (wC cI cZ ad sm fe ex dy gp gc op gr st dl wo n yc ya ys yd q zc zp zr zs zf z zm zt) H) (hlink : (Cond.fieldLink own index "SettlementFund" "expenses" "I").before args s = true) (hI : iwC ad) (hA : ∀ x, awC ad x → A0 x) (hS : va_S A0 H0 H locs) {x : Int32} (hdg : decode cc pc = .ok (.putfield index, 3)) (kk : ∀ (H1 : Heap) (locs1 : List Loc), va_P (dC, dI) vwCl (wC cI cZ ad sm fe x dy gp gc op gr st dl wo n yc ya ys yd q zc zp zr zs zf z zm zt) H1 → va_S A0 H0 H1 locs1 → W p l e R s m args below meth c H1 locs1 cells slots Q (F0 m (pc + 3) ls rest)) : W p l e R s m args below meth c H locs cells slots Q (F0 m pc ls (.int x :: .ref (ad 0) :: rest)) := va_put (D := (dC, dI)) (ci := 3) (v := .int x) (ty := .int) (C := RX3) (T := TX3) (N := 9) hx hb hts hin tyX3 tyX3_ok nmX3 hown hK hP (dwC hI hA ..) hS 0 rfl rfl 2 (by decide) hlink (fun _ h9 => h9) rfl (by decide +kernel) rfl rfl (Nat.le_of_ble_eq_true rfl) hdg (fun H1 locs1 hP1 _ hS1 => kk H1 locs1 hP1 hS1)
theorem gC_0_3 (hx : p.tables.exec = Jvm.exec) (hb : c.code = cc) {index : Nat} (hts : ∀ w ∈ Ts, w.before args s = true) (hin : ∀ w ∈ wsX30, w ∈ Ts) (hown : s.vm.findClass own = some m.cls) (hK : va_K (dC, dI) vwCl [(cI, .int), (cZ, .boolean)] s) (hP : va_P (dC, dI) vwCl (wC cI cZ ad sm fe ex dy gp gc op gr st dl wo n yc ya ys yd q zc zp zr zs zf z zm zt) H) (hlink : (Cond.fieldLink own index "SettlementFund" "day" "I").before args s = true) (hdg : decode cc pc = .ok (.getfield index, 3)) (kk : W p l e R s m args below meth c H locs cells slots Q (F0 m (pc + 3) ls (.int dy :: rest))) : W p l e R s m args below meth c H locs cells slots Q (F0 m pc ls (.ref (ad 0) :: rest)) := va_get (D := (dC, dI)) (ci := 3) (v := .int dy) (C := RX3) (T := TX3) (N := 9) hx hb hts hin hown hK hP 0 rfl rfl 3 (by decide) hlink (fun _ h9 => h9) rfl hdg kk
theorem uC_0_3 (hx : p.tables.exec = Jvm.exec) (hb : c.code = cc) {index : Nat} (hts : ∀ w ∈ Ts, w.before args s = true) (hin : ∀ w ∈ wsX30, w ∈ Ts) (hown : s.vm.findClass own = some m.cls) (hK : va_K (dC, dI) vwCl [(cI, .int), (cZ, .boolean)] s) (hP : va_P (dC, dI) vwCl (wC cI cZ ad sm fe ex dy gp gc op gr st dl wo n yc ya ys yd q zc zp zr zs zf z zm zt) H) (hlink : (Cond.fieldLink own index "SettlementFund" "day" "I").before args s = true) (hI : iwC ad) (hA : ∀ x, awC ad x → A0 x) (hS : va_S A0 H0 H locs) {x : Int32} (hdg : decode cc pc = .ok (.putfield index, 3)) (kk : ∀ (H1 : Heap) (locs1 : List Loc), va_P (dC, dI) vwCl (wC cI cZ ad sm fe ex x gp gc op gr st dl wo n yc ya ys yd q zc zp zr zs zf z zm zt) H1 → va_S A0 H0 H1 locs1 → W p l e R s m args below meth c H1 locs1 cells slots Q (F0 m (pc + 3) ls rest)) : W p l e R s m args below meth c H locs cells slots Q (F0 m pc ls (.int x :: .ref (ad 0) :: rest)) := va_put (D := (dC, dI)) (ci := 3) (v := .int x) (ty := .int) (C := RX3) (T := TX3) (N := 9) hx hb hts hin tyX3 tyX3_ok nmX3 hown hK hP (dwC hI hA ..) hS 0 rfl rfl 3 (by decide) hlink (fun _ h9 => h9) rfl (by decide +kernel) rfl rfl (Nat.le_of_ble_eq_true rfl) hdg (fun H1 locs1 hP1 _ hS1 => kk H1 locs1 hP1 hS1)
theorem gC_0_4 (hx : p.tables.exec = Jvm.exec) (hb : c.code = cc) {index : Nat} (hts : ∀ w ∈ Ts, w.before args s = true) (hin : ∀ w ∈ wsX30, w ∈ Ts) (hown : s.vm.findClass own = some m.cls) (hK : va_K (dC, dI) vwCl [(cI, .int), (cZ, .boolean)] s) (hP : va_P (dC, dI) vwCl (wC cI cZ ad sm fe ex dy gp gc op gr st dl wo n yc ya ys yd q zc zp zr zs zf z zm zt) H) (hlink : (Cond.fieldLink own index "SettlementFund" "gradePoints" "[I").before args s = true) (hdg : decode cc pc = .ok (.getfield index, 3)) (kk : W p l e R s m args below meth c H locs cells slots Q (F0 m (pc + 3) ls (.ref (ad 1) :: rest))) : W p l e R s m args below meth c H locs cells slots Q (F0 m pc ls (.ref (ad 0) :: rest)) := va_get (D := (dC, dI)) (ci := 3) (v := .ref (ad 1)) (C := RX3) (T := TX3) (N := 9) hx hb hts hin hown hK hP 0 rfl rfl 4 (by decide) hlink (fun _ h9 => h9) rfl hdg kk
theorem gC_0_5 (hx : p.tables.exec = Jvm.exec) (hb : c.code = cc) {index : Nat} (hts : ∀ w ∈ Ts, w.before args s = true) (hin : ∀ w ∈ wsX30, w ∈ Ts) (hown : s.vm.findClass own = some m.cls) (hK : va_K (dC, dI) vwCl [(cI, .int), (cZ, .boolean)] s) (hP : va_P (dC, dI) vwCl (wC cI cZ ad sm fe ex dy gp gc op gr st dl wo n yc ya ys yd q zc zp zr zs zf z zm zt) H) (hlink : (Cond.fieldLink own index "SettlementFund" "gradeCap" "[I").before args s = true) (hdg : decode cc pc = .ok (.getfield index, 3)) (kk : W p l e R s m args below meth c H locs cells slots Q (F0 m (pc + 3) ls (.ref (ad 2) :: rest))) : W p l e R s m args below meth c H locs cells slots Q (F0 m pc ls (.ref (ad 0) :: rest)) := va_get (D := (dC, dI)) (ci := 3) (v := .ref (ad 2)) (C := RX3) (T := TX3) (N := 9) hx hb hts hin hown hK hP 0 rfl rfl 5 (by decide) hlink (fun _ h9 => h9) rfl hdg kk
theorem gC_0_6 (hx : p.tables.exec = Jvm.exec) (hb : c.code = cc) {index : Nat} (hts : ∀ w ∈ Ts, w.before args s = true) (hin : ∀ w ∈ wsX30, w ∈ Ts) (hown : s.vm.findClass own = some m.cls) (hK : va_K (dC, dI) vwCl [(cI, .int), (cZ, .boolean)] s) (hP : va_P (dC, dI) vwCl (wC cI cZ ad sm fe ex dy gp gc op gr st dl wo n yc ya ys yd q zc zp zr zs zf z zm zt) H) (hlink : (Cond.fieldLink own index "SettlementFund" "claimBook" "LSettlementFund$ClaimBook;").before args s = true) (hdg : decode cc pc = .ok (.getfield index, 3)) (kk : W p l e R s m args below meth c H locs cells slots Q (F0 m (pc + 3) ls (.ref (ad 3) :: rest))) : W p l e R s m args below meth c H locs cells slots Q (F0 m pc ls (.ref (ad 0) :: rest)) := va_get (D := (dC, dI)) (ci := 3) (v := .ref (ad 3)) (C := RX3) (T := TX3) (N := 9) hx hb hts hin hown hK hP 0 rfl rfl 6 (by decide) hlink (fun _ h9 => h9) rfl hdg kk
theorem gC_0_7 (hx : p.tables.exec = Jvm.exec) (hb : c.code = cc) {index : Nat} (hts : ∀ w ∈ Ts, w.before args s = true) (hin : ∀ w ∈ wsX30, w ∈ Ts) (hown : s.vm.findClass own = some m.cls) (hK : va_K (dC, dI) vwCl [(cI, .int), (cZ, .boolean)] s) (hP : va_P (dC, dI) vwCl (wC cI cZ ad sm fe ex dy gp gc op gr st dl wo n yc ya ys yd q zc zp zr zs zf z zm zt) H) (hlink : (Cond.fieldLink own index "SettlementFund" "paymentBook" "LSettlementFund$PaymentBook;").before args s = true) (hdg : decode cc pc = .ok (.getfield index, 3)) (kk : W p l e R s m args below meth c H locs cells slots Q (F0 m (pc + 3) ls (.ref (ad 9) :: rest))) : W p l e R s m args below meth c H locs cells slots Q (F0 m pc ls (.ref (ad 0) :: rest)) := va_get (D := (dC, dI)) (ci := 3) (v := .ref (ad 9)) (C := RX3) (T := TX3) (N := 9) hx hb hts hin hown hK hP 0 rfl rfl 7 (by decide) hlink (fun _ h9 => h9) rfl hdg kk
theorem gC_0_8 (hx : p.tables.exec = Jvm.exec) (hb : c.code = cc) {index : Nat} (hts : ∀ w ∈ Ts, w.before args s = true) (hin : ∀ w ∈ wsX30, w ∈ Ts) (hown : s.vm.findClass own = some m.cls) (hK : va_K (dC, dI) vwCl [(cI, .int), (cZ, .boolean)] s) (hP : va_P (dC, dI) vwCl (wC cI cZ ad sm fe ex dy gp gc op gr st dl wo n yc ya ys yd q zc zp zr zs zf z zm zt) H) (hlink : (Cond.fieldLink own index "SettlementFund" "sharing" "LSettlementFund$Sharing;").before args s = true) (hdg : decode cc pc = .ok (.getfield index, 3)) (kk : W p l e R s m args below meth c H locs cells slots Q (F0 m (pc + 3) ls (.ref (ad 14) :: rest))) : W p l e R s m args below meth c H locs cells slots Q (F0 m pc ls (.ref (ad 0) :: rest)) := va_get (D := (dC, dI)) (ci := 3) (v := .ref (ad 14)) (C := RX3) (T := TX3) (N := 9) hx hb hts hin hown hK hP 0 rfl rfl 8 (by decide) hlink (fun _ h9 => h9) rfl hdg kk
theorem rC_3 (hK : va_K (dC, dI) vwCl [(cI, .int), (cZ, .boolean)] s) (hP : va_P (dC, dI) vwCl (wC cI cZ ad sm fe ex dy gp gc op gr st dl wo n yc ya ys yd q zc zp zr zs zf z zm zt) H) : ∃ cell : Cell, H[ad 3]? = some cell ∧ cell.vm.isStatics = false ∧ s.vm.findClass RX0 = some cell.cls := va_recv hK hP (ci := 0) (q0 := 3) rfl rfl
theorem gC_3_0 (hx : p.tables.exec = Jvm.exec) (hb : c.code = cc) {index : Nat} (hts : ∀ w ∈ Ts, w.before args s = true) (hin : ∀ w ∈ wsX00, w ∈ Ts) (hown : s.vm.findClass own = some m.cls) (hK : va_K (dC, dI) vwCl [(cI, .int), (cZ, .boolean)] s) (hP : va_P (dC, dI) vwCl (wC cI cZ ad sm fe ex dy gp gc op gr st dl wo n yc ya ys yd q zc zp zr zs zf z zm zt) H) (hlink : (Cond.fieldLink own index "SettlementFund$ClaimBook" "ofPerson" "[I").before args s = true) (hdg : decode cc pc = .ok (.getfield index, 3)) (kk : W p l e R s m args below meth c H locs cells slots Q (F0 m (pc + 3) ls (.ref (ad 4) :: rest))) : W p l e R s m args below meth c H locs cells slots Q (F0 m pc ls (.ref (ad 3) :: rest)) := va_get (D := (dC, dI)) (ci := 0) (v := .ref (ad 4)) (C := RX0) (T := TX0) (N := 6) hx hb hts hin hown hK hP 3 rfl rfl 0 (by decide) hlink (fun _ h9 => h9) rfl hdg kk
theorem gC_3_1 (hx : p.tables.exec = Jvm.exec) (hb : c.code = cc) {index : Nat} (hts : ∀ w ∈ Ts, w.before args s = true) (hin : ∀ w ∈ wsX00, w ∈ Ts) (hown : s.vm.findClass own = some m.cls) (hK : va_K (dC, dI) vwCl [(cI, .int), (cZ, .boolean)] s) (hP : va_P (dC, dI) vwCl (wC cI cZ ad sm fe ex dy gp gc op gr st dl wo n yc ya ys yd q zc zp zr zs zf z zm zt) H) (hlink : (Cond.fieldLink own index "SettlementFund$ClaimBook" "grade" "[I").before args s = true) (hdg : decode cc pc = .ok (.getfield index, 3)) (kk : W p l e R s m args below meth c H locs cells slots Q (F0 m (pc + 3) ls (.ref (ad 5) :: rest))) : W p l e R s m args below meth c H locs cells slots Q (F0 m pc ls (.ref (ad 3) :: rest)) := va_get (D := (dC, dI)) (ci := 0) (v := .ref (ad 5)) (C := RX0) (T := TX0) (N := 6) hx hb hts hin hown hK hP 3 rfl rfl 1 (by decide) hlink (fun _ h9 => h9) rfl hdg kk
theorem gC_3_2 (hx : p.tables.exec = Jvm.exec) (hb : c.code = cc) {index : Nat} (hts : ∀ w ∈ Ts, w.before args s = true) (hin : ∀ w ∈ wsX00, w ∈ Ts) (hown : s.vm.findClass own = some m.cls) (hK : va_K (dC, dI) vwCl [(cI, .int), (cZ, .boolean)] s) (hP : va_P (dC, dI) vwCl (wC cI cZ ad sm fe ex dy gp gc op gr st dl wo n yc ya ys yd q zc zp zr zs zf z zm zt) H) (hlink : (Cond.fieldLink own index "SettlementFund$ClaimBook" "state" "[I").before args s = true) (hdg : decode cc pc = .ok (.getfield index, 3)) (kk : W p l e R s m args below meth c H locs cells slots Q (F0 m (pc + 3) ls (.ref (ad 6) :: rest))) : W p l e R s m args below meth c H locs cells slots Q (F0 m pc ls (.ref (ad 3) :: rest)) := va_get (D := (dC, dI)) (ci := 0) (v := .ref (ad 6)) (C := RX0) (T := TX0) (N := 6) hx hb hts hin hown hK hP 3 rfl rfl 2 (by decide) hlink (fun _ h9 => h9) rfl hdg kk
theorem gC_3_3 (hx : p.tables.exec = Jvm.exec) (hb : c.code = cc) {index : Nat} (hts : ∀ w ∈ Ts, w.before args s = true) (hin : ∀ w ∈ wsX00, w ∈ Ts) (hown : s.vm.findClass own = some m.cls) (hK : va_K (dC, dI) vwCl [(cI, .int), (cZ, .boolean)] s) (hP : va_P (dC, dI) vwCl (wC cI cZ ad sm fe ex dy gp gc op gr st dl wo n yc ya ys yd q zc zp zr zs zf z zm zt) H) (hlink : (Cond.fieldLink own index "SettlementFund$ClaimBook" "deadline" "[I").before args s = true) (hdg : decode cc pc = .ok (.getfield index, 3)) (kk : W p l e R s m args below meth c H locs cells slots Q (F0 m (pc + 3) ls (.ref (ad 7) :: rest))) : W p l e R s m args below meth c H locs cells slots Q (F0 m pc ls (.ref (ad 3) :: rest)) := va_get (D := (dC, dI)) (ci := 0) (v := .ref (ad 7)) (C := RX0) (T := TX0) (N := 6) hx hb hts hin hown hK hP 3 rfl rfl 3 (by decide) hlink (fun _ h9 => h9) rfl hdg kk
theorem gC_3_4 (hx : p.tables.exec = Jvm.exec) (hb : c.code = cc) {index : Nat} (hts : ∀ w ∈ Ts, w.before args s = true) (hin : ∀ w ∈ wsX00, w ∈ Ts) (hown : s.vm.findClass own = some m.cls) (hK : va_K (dC, dI) vwCl [(cI, .int), (cZ, .boolean)] s) (hP : va_P (dC, dI) vwCl (wC cI cZ ad sm fe ex dy gp gc op gr st dl wo n yc ya ys yd q zc zp zr zs zf z zm zt) H) (hlink : (Cond.fieldLink own index "SettlementFund$ClaimBook" "wasObjected" "[Z").before args s = true) (hdg : decode cc pc = .ok (.getfield index, 3)) (kk : W p l e R s m args below meth c H locs cells slots Q (F0 m (pc + 3) ls (.ref (ad 8) :: rest))) : W p l e R s m args below meth c H locs cells slots Q (F0 m pc ls (.ref (ad 3) :: rest)) := va_get (D := (dC, dI)) (ci := 0) (v := .ref (ad 8)) (C := RX0) (T := TX0) (N := 6) hx hb hts hin hown hK hP 3 rfl rfl 4 (by decide) hlink (fun _ h9 => h9) rfl hdg kk
theorem gC_3_5 (hx : p.tables.exec = Jvm.exec) (hb : c.code = cc) {index : Nat} (hts : ∀ w ∈ Ts, w.before args s = true) (hin : ∀ w ∈ wsX00, w ∈ Ts) (hown : s.vm.findClass own = some m.cls) (hK : va_K (dC, dI) vwCl [(cI, .int), (cZ, .boolean)] s) (hP : va_P (dC, dI) vwCl (wC cI cZ ad sm fe ex dy gp gc op gr st dl wo n yc ya ys yd q zc zp zr zs zf z zm zt) H) (hlink : (Cond.fieldLink own index "SettlementFund$ClaimBook" "size" "I").before args s = true) (hdg : decode cc pc = .ok (.getfield index, 3)) (kk : W p l e R s m args below meth c H locs cells slots Q (F0 m (pc + 3) ls (.int (nI n) :: rest))) : W p l e R s m args below meth c H locs cells slots Q (F0 m pc ls (.ref (ad 3) :: rest)) := va_get (D := (dC, dI)) (ci := 0) (v := .int (nI n)) (C := RX0) (T := TX0) (N := 6) hx hb hts hin hown hK hP 3 rfl rfl 5 (by decide) hlink (fun _ h9 => h9) rfl hdg kk
theorem uC_3_5 (hx : p.tables.exec = Jvm.exec) (hb : c.code = cc) {index : Nat} (hts : ∀ w ∈ Ts, w.before args s = true) (hin : ∀ w ∈ wsX00, w ∈ Ts) (hown : s.vm.findClass own = some m.cls) (hK : va_K (dC, dI) vwCl [(cI, .int), (cZ, .boolean)] s) (hP : va_P (dC, dI) vwCl (wC cI cZ ad sm fe ex dy gp gc op gr st dl wo n yc ya ys yd q zc zp zr zs zf z zm zt) H) (hlink : (Cond.fieldLink own index "SettlementFund$ClaimBook" "size" "I").before args s = true) (hI : iwC ad) (hA : ∀ x, awC ad x → A0 x) (hS : va_S A0 H0 H locs) {x : Nat} (hdg : decode cc pc = .ok (.putfield index, 3)) (kk : ∀ (H1 : Heap) (locs1 : List Loc), va_P (dC, dI) vwCl (wC cI cZ ad sm fe ex dy gp gc op gr st dl wo x yc ya ys yd q zc zp zr zs zf z zm zt) H1 → va_S A0 H0 H1 locs1 → W p l e R s m args below meth c H1 locs1 cells slots Q (F0 m (pc + 3) ls rest)) : W p l e R s m args below meth c H locs cells slots Q (F0 m pc ls (.int (nI x) :: .ref (ad 3) :: rest)) := va_put (D := (dC, dI)) (ci := 0) (v := .int (nI x)) (ty := .int) (C := RX0) (T := TX0) (N := 6) hx hb hts hin tyX0 tyX0_ok nmX0 hown hK hP (dwC hI hA ..) hS 3 rfl rfl 5 (by decide) hlink (fun _ h9 => h9) rfl (by decide +kernel) rfl rfl (Nat.le_of_ble_eq_true rfl) hdg (fun H1 locs1 hP1 _ hS1 => kk H1 locs1 hP1 hS1)
theorem rC_9 (hK : va_K (dC, dI) vwCl [(cI, .int), (cZ, .boolean)] s) (hP : va_P (dC, dI) vwCl (wC cI cZ ad sm fe ex dy gp gc op gr st dl wo n yc ya ys yd q zc zp zr zs zf z zm zt) H) : ∃ cell : Cell, H[ad 9]? = some cell ∧ cell.vm.isStatics = false ∧ s.vm.findClass RX1 = some cell.cls := va_recv hK hP (ci := 1) (q0 := 9) rfl rfl
theorem gC_9_0 (hx : p.tables.exec = Jvm.exec) (hb : c.code = cc) {index : Nat} (hts : ∀ w ∈ Ts, w.before args s = true) (hin : ∀ w ∈ wsX10, w ∈ Ts) (hown : s.vm.findClass own = some m.cls) (hK : va_K (dC, dI) vwCl [(cI, .int), (cZ, .boolean)] s) (hP : va_P (dC, dI) vwCl (wC cI cZ ad sm fe ex dy gp gc op gr st dl wo n yc ya ys yd q zc zp zr zs zf z zm zt) H) (hlink : (Cond.fieldLink own index "SettlementFund$PaymentBook" "claim" "[I").before args s = true) (hdg : decode cc pc = .ok (.getfield index, 3)) (kk : W p l e R s m args below meth c H locs cells slots Q (F0 m (pc + 3) ls (.ref (ad 10) :: rest))) : W p l e R s m args below meth c H locs cells slots Q (F0 m pc ls (.ref (ad 9) :: rest)) := va_get (D := (dC, dI)) (ci := 1) (v := .ref (ad 10)) (C := RX1) (T := TX1) (N := 5) hx hb hts hin hown hK hP 9 rfl rfl 0 (by decide) hlink (fun _ h9 => h9) rfl hdg kk
theorem gC_9_1 (hx : p.tables.exec = Jvm.exec) (hb : c.code = cc) {index : Nat} (hts : ∀ w ∈ Ts, w.before args s = true) (hin : ∀ w ∈ wsX10, w ∈ Ts) (hown : s.vm.findClass own = some m.cls) (hK : va_K (dC, dI) vwCl [(cI, .int), (cZ, .boolean)] s) (hP : va_P (dC, dI) vwCl (wC cI cZ ad sm fe ex dy gp gc op gr st dl wo n yc ya ys yd q zc zp zr zs zf z zm zt) H) (hlink : (Cond.fieldLink own index "SettlementFund$PaymentBook" "amount" "[I").before args s = true) (hdg : decode cc pc = .ok (.getfield index, 3)) (kk : W p l e R s m args below meth c H locs cells slots Q (F0 m (pc + 3) ls (.ref (ad 11) :: rest))) : W p l e R s m args below meth c H locs cells slots Q (F0 m pc ls (.ref (ad 9) :: rest)) := va_get (D := (dC, dI)) (ci := 1) (v := .ref (ad 11)) (C := RX1) (T := TX1) (N := 5) hx hb hts hin hown hK hP 9 rfl rfl 1 (by decide) hlink (fun _ h9 => h9) rfl hdg kk
theorem gC_9_2 (hx : p.tables.exec = Jvm.exec) (hb : c.code = cc) {index : Nat} (hts : ∀ w ∈ Ts, w.before args s = true) (hin : ∀ w ∈ wsX10, w ∈ Ts) (hown : s.vm.findClass own = some m.cls) (hK : va_K (dC, dI) vwCl [(cI, .int), (cZ, .boolean)] s) (hP : va_P (dC, dI) vwCl (wC cI cZ ad sm fe ex dy gp gc op gr st dl wo n yc ya ys yd q zc zp zr zs zf z zm zt) H) (hlink : (Cond.fieldLink own index "SettlementFund$PaymentBook" "state" "[I").before args s = true) (hdg : decode cc pc = .ok (.getfield index, 3)) (kk : W p l e R s m args below meth c H locs cells slots Q (F0 m (pc + 3) ls (.ref (ad 12) :: rest))) : W p l e R s m args below meth c H locs cells slots Q (F0 m pc ls (.ref (ad 9) :: rest)) := va_get (D := (dC, dI)) (ci := 1) (v := .ref (ad 12)) (C := RX1) (T := TX1) (N := 5) hx hb hts hin hown hK hP 9 rfl rfl 2 (by decide) hlink (fun _ h9 => h9) rfl hdg kk
theorem gC_9_3 (hx : p.tables.exec = Jvm.exec) (hb : c.code = cc) {index : Nat} (hts : ∀ w ∈ Ts, w.before args s = true) (hin : ∀ w ∈ wsX10, w ∈ Ts) (hown : s.vm.findClass own = some m.cls) (hK : va_K (dC, dI) vwCl [(cI, .int), (cZ, .boolean)] s) (hP : va_P (dC, dI) vwCl (wC cI cZ ad sm fe ex dy gp gc op gr st dl wo n yc ya ys yd q zc zp zr zs zf z zm zt) H) (hlink : (Cond.fieldLink own index "SettlementFund$PaymentBook" "dayMade" "[I").before args s = true) (hdg : decode cc pc = .ok (.getfield index, 3)) (kk : W p l e R s m args below meth c H locs cells slots Q (F0 m (pc + 3) ls (.ref (ad 13) :: rest))) : W p l e R s m args below meth c H locs cells slots Q (F0 m pc ls (.ref (ad 9) :: rest)) := va_get (D := (dC, dI)) (ci := 1) (v := .ref (ad 13)) (C := RX1) (T := TX1) (N := 5) hx hb hts hin hown hK hP 9 rfl rfl 3 (by decide) hlink (fun _ h9 => h9) rfl hdg kk
theorem gC_9_4 (hx : p.tables.exec = Jvm.exec) (hb : c.code = cc) {index : Nat} (hts : ∀ w ∈ Ts, w.before args s = true) (hin : ∀ w ∈ wsX10, w ∈ Ts) (hown : s.vm.findClass own = some m.cls) (hK : va_K (dC, dI) vwCl [(cI, .int), (cZ, .boolean)] s) (hP : va_P (dC, dI) vwCl (wC cI cZ ad sm fe ex dy gp gc op gr st dl wo n yc ya ys yd q zc zp zr zs zf z zm zt) H) (hlink : (Cond.fieldLink own index "SettlementFund$PaymentBook" "size" "I").before args s = true) (hdg : decode cc pc = .ok (.getfield index, 3)) (kk : W p l e R s m args below meth c H locs cells slots Q (F0 m (pc + 3) ls (.int (nI q) :: rest))) : W p l e R s m args below meth c H locs cells slots Q (F0 m pc ls (.ref (ad 9) :: rest)) := va_get (D := (dC, dI)) (ci := 1) (v := .int (nI q)) (C := RX1) (T := TX1) (N := 5) hx hb hts hin hown hK hP 9 rfl rfl 4 (by decide) hlink (fun _ h9 => h9) rfl hdg kk
theorem uC_9_4 (hx : p.tables.exec = Jvm.exec) (hb : c.code = cc) {index : Nat} (hts : ∀ w ∈ Ts, w.before args s = true) (hin : ∀ w ∈ wsX10, w ∈ Ts) (hown : s.vm.findClass own = some m.cls) (hK : va_K (dC, dI) vwCl [(cI, .int), (cZ, .boolean)] s) (hP : va_P (dC, dI) vwCl (wC cI cZ ad sm fe ex dy gp gc op gr st dl wo n yc ya ys yd q zc zp zr zs zf z zm zt) H) (hlink : (Cond.fieldLink own index "SettlementFund$PaymentBook" "size" "I").before args s = true) (hI : iwC ad) (hA : ∀ x, awC ad x → A0 x) (hS : va_S A0 H0 H locs) {x : Nat} (hdg : decode cc pc = .ok (.putfield index, 3)) (kk : ∀ (H1 : Heap) (locs1 : List Loc), va_P (dC, dI) vwCl (wC cI cZ ad sm fe ex dy gp gc op gr st dl wo n yc ya ys yd x zc zp zr zs zf z zm zt) H1 → va_S A0 H0 H1 locs1 → W p l e R s m args below meth c H1 locs1 cells slots Q (F0 m (pc + 3) ls rest)) : W p l e R s m args below meth c H locs cells slots Q (F0 m pc ls (.int (nI x) :: .ref (ad 9) :: rest)) := va_put (D := (dC, dI)) (ci := 1) (v := .int (nI x)) (ty := .int) (C := RX1) (T := TX1) (N := 5) hx hb hts hin tyX1 tyX1_ok nmX1 hown hK hP (dwC hI hA ..) hS 9 rfl rfl 4 (by decide) hlink (fun _ h9 => h9) rfl (by decide +kernel) rfl rfl (Nat.le_of_ble_eq_true rfl) hdg (fun H1 locs1 hP1 _ hS1 => kk H1 locs1 hP1 hS1)
theorem rC_14 (hK : va_K (dC, dI) vwCl [(cI, .int), (cZ, .boolean)] s) (hP : va_P (dC, dI) vwCl (wC cI cZ ad sm fe ex dy gp gc op gr st dl wo n yc ya ys yd q zc zp zr zs zf z zm zt) H) : ∃ cell : Cell, H[ad 14]? = some cell ∧ cell.vm.isStatics = false ∧ s.vm.findClass RX2 = some cell.cls := va_recv hK hP (ci := 2) (q0 := 14) rfl rfl
theorem gC_14_0 (hx : p.tables.exec = Jvm.exec) (hb : c.code = cc) {index : Nat} (hts : ∀ w ∈ Ts, w.before args s = true) (hin : ∀ w ∈ wsX20, w ∈ Ts) (hown : s.vm.findClass own = some m.cls) (hK : va_K (dC, dI) vwCl [(cI, .int), (cZ, .boolean)] s) (hP : va_P (dC, dI) vwCl (wC cI cZ ad sm fe ex dy gp gc op gr st dl wo n yc ya ys yd q zc zp zr zs zf z zm zt) H) (hlink : (Cond.fieldLink own index "SettlementFund$Sharing" "claim" "[I").before args s = true) (hdg : decode cc pc = .ok (.getfield index, 3)) (kk : W p l e R s m args below meth c H locs cells slots Q (F0 m (pc + 3) ls (.ref (ad 15) :: rest))) : W p l e R s m args below meth c H locs cells slots Q (F0 m pc ls (.ref (ad 14) :: rest)) := va_get (D := (dC, dI)) (ci := 2) (v := .ref (ad 15)) (C := RX2) (T := TX2) (N := 8) hx hb hts hin hown hK hP 14 rfl rfl 0 (by decide) hlink (fun _ h9 => h9) rfl hdg kk
theorem gC_14_1 (hx : p.tables.exec = Jvm.exec) (hb : c.code = cc) {index : Nat} (hts : ∀ w ∈ Ts, w.before args s = true) (hin : ∀ w ∈ wsX20, w ∈ Ts) (hown : s.vm.findClass own = some m.cls) (hK : va_K (dC, dI) vwCl [(cI, .int), (cZ, .boolean)] s) (hP : va_P (dC, dI) vwCl (wC cI cZ ad sm fe ex dy gp gc op gr st dl wo n yc ya ys yd q zc zp zr zs zf z zm zt) H) (hlink : (Cond.fieldLink own index "SettlementFund$Sharing" "points" "[I").before args s = true) (hdg : decode cc pc = .ok (.getfield index, 3)) (kk : W p l e R s m args below meth c H locs cells slots Q (F0 m (pc + 3) ls (.ref (ad 16) :: rest))) : W p l e R s m args below meth c H locs cells slots Q (F0 m pc ls (.ref (ad 14) :: rest)) := va_get (D := (dC, dI)) (ci := 2) (v := .ref (ad 16)) (C := RX2) (T := TX2) (N := 8) hx hb hts hin hown hK hP 14 rfl rfl 1 (by decide) hlink (fun _ h9 => h9) rfl hdg kk
theorem gC_14_2 (hx : p.tables.exec = Jvm.exec) (hb : c.code = cc) {index : Nat} (hts : ∀ w ∈ Ts, w.before args s = true) (hin : ∀ w ∈ wsX20, w ∈ Ts) (hown : s.vm.findClass own = some m.cls) (hK : va_K (dC, dI) vwCl [(cI, .int), (cZ, .boolean)] s) (hP : va_P (dC, dI) vwCl (wC cI cZ ad sm fe ex dy gp gc op gr st dl wo n yc ya ys yd q zc zp zr zs zf z zm zt) H) (hlink : (Cond.fieldLink own index "SettlementFund$Sharing" "room" "[I").before args s = true) (hdg : decode cc pc = .ok (.getfield index, 3)) (kk : W p l e R s m args below meth c H locs cells slots Q (F0 m (pc + 3) ls (.ref (ad 17) :: rest))) : W p l e R s m args below meth c H locs cells slots Q (F0 m pc ls (.ref (ad 14) :: rest)) := va_get (D := (dC, dI)) (ci := 2) (v := .ref (ad 17)) (C := RX2) (T := TX2) (N := 8) hx hb hts hin hown hK hP 14 rfl rfl 2 (by decide) hlink (fun _ h9 => h9) rfl hdg kk
theorem gC_14_3 (hx : p.tables.exec = Jvm.exec) (hb : c.code = cc) {index : Nat} (hts : ∀ w ∈ Ts, w.before args s = true) (hin : ∀ w ∈ wsX20, w ∈ Ts) (hown : s.vm.findClass own = some m.cls) (hK : va_K (dC, dI) vwCl [(cI, .int), (cZ, .boolean)] s) (hP : va_P (dC, dI) vwCl (wC cI cZ ad sm fe ex dy gp gc op gr st dl wo n yc ya ys yd q zc zp zr zs zf z zm zt) H) (hlink : (Cond.fieldLink own index "SettlementFund$Sharing" "share" "[I").before args s = true) (hdg : decode cc pc = .ok (.getfield index, 3)) (kk : W p l e R s m args below meth c H locs cells slots Q (F0 m (pc + 3) ls (.ref (ad 18) :: rest))) : W p l e R s m args below meth c H locs cells slots Q (F0 m pc ls (.ref (ad 14) :: rest)) := va_get (D := (dC, dI)) (ci := 2) (v := .ref (ad 18)) (C := RX2) (T := TX2) (N := 8) hx hb hts hin hown hK hP 14 rfl rfl 3 (by decide) hlink (fun _ h9 => h9) rfl hdg kk
theorem gC_14_4 (hx : p.tables.exec = Jvm.exec) (hb : c.code = cc) {index : Nat} (hts : ∀ w ∈ Ts, w.before args s = true) (hin : ∀ w ∈ wsX20, w ∈ Ts) (hown : s.vm.findClass own = some m.cls) (hK : va_K (dC, dI) vwCl [(cI, .int), (cZ, .boolean)] s) (hP : va_P (dC, dI) vwCl (wC cI cZ ad sm fe ex dy gp gc op gr st dl wo n yc ya ys yd q zc zp zr zs zf z zm zt) H) (hlink : (Cond.fieldLink own index "SettlementFund$Sharing" "isFull" "[Z").before args s = true) (hdg : decode cc pc = .ok (.getfield index, 3)) (kk : W p l e R s m args below meth c H locs cells slots Q (F0 m (pc + 3) ls (.ref (ad 19) :: rest))) : W p l e R s m args below meth c H locs cells slots Q (F0 m pc ls (.ref (ad 14) :: rest)) := va_get (D := (dC, dI)) (ci := 2) (v := .ref (ad 19)) (C := RX2) (T := TX2) (N := 8) hx hb hts hin hown hK hP 14 rfl rfl 4 (by decide) hlink (fun _ h9 => h9) rfl hdg kk
theorem gC_14_5 (hx : p.tables.exec = Jvm.exec) (hb : c.code = cc) {index : Nat} (hts : ∀ w ∈ Ts, w.before args s = true) (hin : ∀ w ∈ wsX20, w ∈ Ts) (hown : s.vm.findClass own = some m.cls) (hK : va_K (dC, dI) vwCl [(cI, .int), (cZ, .boolean)] s) (hP : va_P (dC, dI) vwCl (wC cI cZ ad sm fe ex dy gp gc op gr st dl wo n yc ya ys yd q zc zp zr zs zf z zm zt) H) (hlink : (Cond.fieldLink own index "SettlementFund$Sharing" "size" "I").before args s = true) (hdg : decode cc pc = .ok (.getfield index, 3)) (kk : W p l e R s m args below meth c H locs cells slots Q (F0 m (pc + 3) ls (.int (nI z) :: rest))) : W p l e R s m args below meth c H locs cells slots Q (F0 m pc ls (.ref (ad 14) :: rest)) := va_get (D := (dC, dI)) (ci := 2) (v := .int (nI z)) (C := RX2) (T := TX2) (N := 8) hx hb hts hin hown hK hP 14 rfl rfl 5 (by decide) hlink (fun _ h9 => h9) rfl hdg kk
theorem uC_14_5 (hx : p.tables.exec = Jvm.exec) (hb : c.code = cc) {index : Nat} (hts : ∀ w ∈ Ts, w.before args s = true) (hin : ∀ w ∈ wsX20, w ∈ Ts) (hown : s.vm.findClass own = some m.cls) (hK : va_K (dC, dI) vwCl [(cI, .int), (cZ, .boolean)] s) (hP : va_P (dC, dI) vwCl (wC cI cZ ad sm fe ex dy gp gc op gr st dl wo n yc ya ys yd q zc zp zr zs zf z zm zt) H) (hlink : (Cond.fieldLink own index "SettlementFund$Sharing" "size" "I").before args s = true) (hI : iwC ad) (hA : ∀ x, awC ad x → A0 x) (hS : va_S A0 H0 H locs) {x : Nat} (hdg : decode cc pc = .ok (.putfield index, 3)) (kk : ∀ (H1 : Heap) (locs1 : List Loc), va_P (dC, dI) vwCl (wC cI cZ ad sm fe ex dy gp gc op gr st dl wo n yc ya ys yd q zc zp zr zs zf x zm zt) H1 → va_S A0 H0 H1 locs1 → W p l e R s m args below meth c H1 locs1 cells slots Q (F0 m (pc + 3) ls rest)) : W p l e R s m args below meth c H locs cells slots Q (F0 m pc ls (.int (nI x) :: .ref (ad 14) :: rest)) := va_put (D := (dC, dI)) (ci := 2) (v := .int (nI x)) (ty := .int) (C := RX2) (T := TX2) (N := 8) hx hb hts hin tyX2 tyX2_ok nmX2 hown hK hP (dwC hI hA ..) hS 14 rfl rfl 5 (by decide) hlink (fun _ h9 => h9) rfl (by decide +kernel) rfl rfl (Nat.le_of_ble_eq_true rfl) hdg (fun H1 locs1 hP1 _ hS1 => kk H1 locs1 hP1 hS1)
theorem gC_14_6 (hx : p.tables.exec = Jvm.exec) (hb : c.code = cc) {index : Nat} (hts : ∀ w ∈ Ts, w.before args s = true) (hin : ∀ w ∈ wsX20, w ∈ Ts) (hown : s.vm.findClass own = some m.cls) (hK : va_K (dC, dI) vwCl [(cI, .int), (cZ, .boolean)] s) (hP : va_P (dC, dI) vwCl (wC cI cZ ad sm fe ex dy gp gc op gr st dl wo n yc ya ys yd q zc zp zr zs zf z zm zt) H) (hlink : (Cond.fieldLink own index "SettlementFund$Sharing" "restMoney" "J").before args s = true) (hdg : decode cc pc = .ok (.getfield index, 3)) (kk : W p l e R s m args below meth c H locs cells slots Q (F0 m (pc + 3) ls (.long zm :: rest))) : W p l e R s m args below meth c H locs cells slots Q (F0 m pc ls (.ref (ad 14) :: rest)) := va_get (D := (dC, dI)) (ci := 2) (v := .long zm) (C := RX2) (T := TX2) (N := 8) hx hb hts hin hown hK hP 14 rfl rfl 6 (by decide) hlink (fun _ h9 => h9) rfl hdg kk
theorem uC_14_6 (hx : p.tables.exec = Jvm.exec) (hb : c.code = cc) {index : Nat} (hts : ∀ w ∈ Ts, w.before args s = true) (hin : ∀ w ∈ wsX20, w ∈ Ts) (hown : s.vm.findClass own = some m.cls) (hK : va_K (dC, dI) vwCl [(cI, .int), (cZ, .boolean)] s) (hP : va_P (dC, dI) vwCl (wC cI cZ ad sm fe ex dy gp gc op gr st dl wo n yc ya ys yd q zc zp zr zs zf z zm zt) H) (hlink : (Cond.fieldLink own index "SettlementFund$Sharing" "restMoney" "J").before args s = true) (hI : iwC ad) (hA : ∀ x, awC ad x → A0 x) (hS : va_S A0 H0 H locs) {x : Int64} (hdg : decode cc pc = .ok (.putfield index, 3)) (kk : ∀ (H1 : Heap) (locs1 : List Loc), va_P (dC, dI) vwCl (wC cI cZ ad sm fe ex dy gp gc op gr st dl wo n yc ya ys yd q zc zp zr zs zf z x zt) H1 → va_S A0 H0 H1 locs1 → W p l e R s m args below meth c H1 locs1 cells slots Q (F0 m (pc + 3) ls rest)) : W p l e R s m args below meth c H locs cells slots Q (F0 m pc ls (.long x :: .ref (ad 14) :: rest)) := va_put (D := (dC, dI)) (ci := 2) (v := .long x) (ty := .long) (C := RX2) (T := TX2) (N := 8) hx hb hts hin tyX2 tyX2_ok nmX2 hown hK hP (dwC hI hA ..) hS 14 rfl rfl 6 (by decide) hlink (fun _ h9 => h9) rfl (by decide +kernel) rfl rfl (Nat.le_of_ble_eq_true rfl) hdg (fun H1 locs1 hP1 _ hS1 => kk H1 locs1 hP1 hS1)
theorem gC_14_7 (hx : p.tables.exec = Jvm.exec) (hb : c.code = cc) {index : Nat} (hts : ∀ w ∈ Ts, w.before args s = true) (hin : ∀ w ∈ wsX20, w ∈ Ts) (hown : s.vm.findClass own = some m.cls) (hK : va_K (dC, dI) vwCl [(cI, .int), (cZ, .boolean)] s) (hP : va_P (dC, dI) vwCl (wC cI cZ ad sm fe ex dy gp gc op gr st dl wo n yc ya ys yd q zc zp zr zs zf z zm zt) H) (hlink : (Cond.fieldLink own index "SettlementFund$Sharing" "restPoints" "J").before args s = true) (hdg : decode cc pc = .ok (.getfield index, 3)) (kk : W p l e R s m args below meth c H locs cells slots Q (F0 m (pc + 3) ls (.long zt :: rest))) : W p l e R s m args below meth c H locs cells slots Q (F0 m pc ls (.ref (ad 14) :: rest)) := va_get (D := (dC, dI)) (ci := 2) (v := .long zt) (C := RX2) (T := TX2) (N := 8) hx hb hts hin hown hK hP 14 rfl rfl 7 (by decide) hlink (fun _ h9 => h9) rfl hdg kk
theorem uC_14_7 (hx : p.tables.exec = Jvm.exec) (hb : c.code = cc) {index : Nat} (hts : ∀ w ∈ Ts, w.before args s = true) (hin : ∀ w ∈ wsX20, w ∈ Ts) (hown : s.vm.findClass own = some m.cls) (hK : va_K (dC, dI) vwCl [(cI, .int), (cZ, .boolean)] s) (hP : va_P (dC, dI) vwCl (wC cI cZ ad sm fe ex dy gp gc op gr st dl wo n yc ya ys yd q zc zp zr zs zf z zm zt) H) (hlink : (Cond.fieldLink own index "SettlementFund$Sharing" "restPoints" "J").before args s = true) (hI : iwC ad) (hA : ∀ x, awC ad x → A0 x) (hS : va_S A0 H0 H locs) {x : Int64} (hdg : decode cc pc = .ok (.putfield index, 3)) (kk : ∀ (H1 : Heap) (locs1 : List Loc), va_P (dC, dI) vwCl (wC cI cZ ad sm fe ex dy gp gc op gr st dl wo n yc ya ys yd q zc zp zr zs zf z zm x) H1 → va_S A0 H0 H1 locs1 → W p l e R s m args below meth c H1 locs1 cells slots Q (F0 m (pc + 3) ls rest)) : W p l e R s m args below meth c H locs cells slots Q (F0 m pc ls (.long x :: .ref (ad 14) :: rest)) := va_put (D := (dC, dI)) (ci := 2) (v := .long x) (ty := .long) (C := RX2) (T := TX2) (N := 8) hx hb hts hin tyX2 tyX2_ok nmX2 hown hK hP (dwC hI hA ..) hS 14 rfl rfl 7 (by decide) hlink (fun _ h9 => h9) rfl (by decide +kernel) rfl rfl (Nat.le_of_ble_eq_true rfl) hdg (fun H1 locs1 hP1 _ hS1 => kk H1 locs1 hP1 hS1)
theorem lC_1 (hx : p.tables.exec = Jvm.exec) (hb : c.code = cc) (hK : va_K (dC, dI) vwCl [(cI, .int), (cZ, .boolean)] s) (hP : va_P (dC, dI) vwCl (wC cI cZ ad sm fe ex dy gp gc op gr st dl wo n yc ya ys yd q zc zp zr zs zf z zm zt) H) {k : Nat} (hk : k < 5) (hdg : decode cc pc = .ok (.iaload, 1)) (kk : W p l e R s m args below meth c H locs cells slots Q (F0 m (pc + 1) ls (.int (gp k) :: rest))) : W p l e R s m args below meth c H locs cells slots Q (F0 m pc ls (.int (nI k) :: .ref (ad 1) :: rest)) := by
  refine va_iald hx hb hK hP 1 0 rfl rfl (vp_in_nI hk (by decide)) hdg ?_
  rw [nI_clamp (Nat.lt_trans hk (by decide))]; exact kk
theorem sC_1 (hx : p.tables.exec = Jvm.exec) (hb : c.code = cc) (hK : va_K (dC, dI) vwCl [(cI, .int), (cZ, .boolean)] s) (hP : va_P (dC, dI) vwCl (wC cI cZ ad sm fe ex dy gp gc op gr st dl wo n yc ya ys yd q zc zp zr zs zf z zm zt) H) (hI : iwC ad) (hA : ∀ x, awC ad x → A0 x) (hS : va_S A0 H0 H locs) {k : Nat} (hk : k < 5) {x : Int32} (hdg : decode cc pc = .ok (.iastore, 1)) (kk : ∀ (H1 : Heap) (locs1 : List Loc), va_P (dC, dI) vwCl (wC cI cZ ad sm fe ex dy (upd gp k x) gc op gr st dl wo n yc ya ys yd q zc zp zr zs zf z zm zt) H1 → va_S A0 H0 H1 locs1 → W p l e R s m args below meth c H1 locs1 cells slots Q (F0 m (pc + 1) ls rest)) : W p l e R s m args below meth c H locs cells slots Q (F0 m pc ls (.int x :: .int (nI k) :: .ref (ad 1) :: rest)) := by
  refine va_iast hx hb hK hP (dwC hI hA ..) hS 1 0 rfl rfl (vp_in_nI hk (by decide)) hdg (fun H1 locs1 hP1 _ hS1 => kk H1 locs1 ?_ hS1)
  rw [ nI_clamp (Nat.lt_trans hk (by decide))] at hP1; exact hP1
theorem lC_2 (hx : p.tables.exec = Jvm.exec) (hb : c.code = cc) (hK : va_K (dC, dI) vwCl [(cI, .int), (cZ, .boolean)] s) (hP : va_P (dC, dI) vwCl (wC cI cZ ad sm fe ex dy gp gc op gr st dl wo n yc ya ys yd q zc zp zr zs zf z zm zt) H) {k : Nat} (hk : k < 5) (hdg : decode cc pc = .ok (.iaload, 1)) (kk : W p l e R s m args below meth c H locs cells slots Q (F0 m (pc + 1) ls (.int (gc k) :: rest))) : W p l e R s m args below meth c H locs cells slots Q (F0 m pc ls (.int (nI k) :: .ref (ad 2) :: rest)) := by
  refine va_iald hx hb hK hP 2 0 rfl rfl (vp_in_nI hk (by decide)) hdg ?_
  rw [nI_clamp (Nat.lt_trans hk (by decide))]; exact kk
theorem sC_2 (hx : p.tables.exec = Jvm.exec) (hb : c.code = cc) (hK : va_K (dC, dI) vwCl [(cI, .int), (cZ, .boolean)] s) (hP : va_P (dC, dI) vwCl (wC cI cZ ad sm fe ex dy gp gc op gr st dl wo n yc ya ys yd q zc zp zr zs zf z zm zt) H) (hI : iwC ad) (hA : ∀ x, awC ad x → A0 x) (hS : va_S A0 H0 H locs) {k : Nat} (hk : k < 5) {x : Int32} (hdg : decode cc pc = .ok (.iastore, 1)) (kk : ∀ (H1 : Heap) (locs1 : List Loc), va_P (dC, dI) vwCl (wC cI cZ ad sm fe ex dy gp (upd gc k x) op gr st dl wo n yc ya ys yd q zc zp zr zs zf z zm zt) H1 → va_S A0 H0 H1 locs1 → W p l e R s m args below meth c H1 locs1 cells slots Q (F0 m (pc + 1) ls rest)) : W p l e R s m args below meth c H locs cells slots Q (F0 m pc ls (.int x :: .int (nI k) :: .ref (ad 2) :: rest)) := by
  refine va_iast hx hb hK hP (dwC hI hA ..) hS 2 0 rfl rfl (vp_in_nI hk (by decide)) hdg (fun H1 locs1 hP1 _ hS1 => kk H1 locs1 ?_ hS1)
  rw [ nI_clamp (Nat.lt_trans hk (by decide))] at hP1; exact hP1
theorem lC_4 (hx : p.tables.exec = Jvm.exec) (hb : c.code = cc) (hK : va_K (dC, dI) vwCl [(cI, .int), (cZ, .boolean)] s) (hP : va_P (dC, dI) vwCl (wC cI cZ ad sm fe ex dy gp gc op gr st dl wo n yc ya ys yd q zc zp zr zs zf z zm zt) H) {k : Nat} (hk : k < 30) (hdg : decode cc pc = .ok (.iaload, 1)) (kk : W p l e R s m args below meth c H locs cells slots Q (F0 m (pc + 1) ls (.int (op k) :: rest))) : W p l e R s m args below meth c H locs cells slots Q (F0 m pc ls (.int (nI k) :: .ref (ad 4) :: rest)) := by
  refine va_iald hx hb hK hP 4 0 rfl rfl (vp_in_nI hk (by decide)) hdg ?_
  rw [nI_clamp (Nat.lt_trans hk (by decide))]; exact kk
theorem sC_4 (hx : p.tables.exec = Jvm.exec) (hb : c.code = cc) (hK : va_K (dC, dI) vwCl [(cI, .int), (cZ, .boolean)] s) (hP : va_P (dC, dI) vwCl (wC cI cZ ad sm fe ex dy gp gc op gr st dl wo n yc ya ys yd q zc zp zr zs zf z zm zt) H) (hI : iwC ad) (hA : ∀ x, awC ad x → A0 x) (hS : va_S A0 H0 H locs) {k : Nat} (hk : k < 30) {x : Int32} (hdg : decode cc pc = .ok (.iastore, 1)) (kk : ∀ (H1 : Heap) (locs1 : List Loc), va_P (dC, dI) vwCl (wC cI cZ ad sm fe ex dy gp gc (upd op k x) gr st dl wo n yc ya ys yd q zc zp zr zs zf z zm zt) H1 → va_S A0 H0 H1 locs1 → W p l e R s m args below meth c H1 locs1 cells slots Q (F0 m (pc + 1) ls rest)) : W p l e R s m args below meth c H locs cells slots Q (F0 m pc ls (.int x :: .int (nI k) :: .ref (ad 4) :: rest)) := by
  refine va_iast hx hb hK hP (dwC hI hA ..) hS 4 0 rfl rfl (vp_in_nI hk (by decide)) hdg (fun H1 locs1 hP1 _ hS1 => kk H1 locs1 ?_ hS1)
  rw [ nI_clamp (Nat.lt_trans hk (by decide))] at hP1; exact hP1
theorem lC_5 (hx : p.tables.exec = Jvm.exec) (hb : c.code = cc) (hK : va_K (dC, dI) vwCl [(cI, .int), (cZ, .boolean)] s) (hP : va_P (dC, dI) vwCl (wC cI cZ ad sm fe ex dy gp gc op gr st dl wo n yc ya ys yd q zc zp zr zs zf z zm zt) H) {k : Nat} (hk : k < 24) (hdg : decode cc pc = .ok (.iaload, 1)) (kk : W p l e R s m args below meth c H locs cells slots Q (F0 m (pc + 1) ls (.int (gr k) :: rest))) : W p l e R s m args below meth c H locs cells slots Q (F0 m pc ls (.int (nI k) :: .ref (ad 5) :: rest)) := by
  refine va_iald hx hb hK hP 5 0 rfl rfl (vp_in_nI hk (by decide)) hdg ?_
  rw [nI_clamp (Nat.lt_trans hk (by decide))]; exact kk
theorem sC_5 (hx : p.tables.exec = Jvm.exec) (hb : c.code = cc) (hK : va_K (dC, dI) vwCl [(cI, .int), (cZ, .boolean)] s) (hP : va_P (dC, dI) vwCl (wC cI cZ ad sm fe ex dy gp gc op gr st dl wo n yc ya ys yd q zc zp zr zs zf z zm zt) H) (hI : iwC ad) (hA : ∀ x, awC ad x → A0 x) (hS : va_S A0 H0 H locs) {k : Nat} (hk : k < 24) {x : Int32} (hdg : decode cc pc = .ok (.iastore, 1)) (kk : ∀ (H1 : Heap) (locs1 : List Loc), va_P (dC, dI) vwCl (wC cI cZ ad sm fe ex dy gp gc op (upd gr k x) st dl wo n yc ya ys yd q zc zp zr zs zf z zm zt) H1 → va_S A0 H0 H1 locs1 → W p l e R s m args below meth c H1 locs1 cells slots Q (F0 m (pc + 1) ls rest)) : W p l e R s m args below meth c H locs cells slots Q (F0 m pc ls (.int x :: .int (nI k) :: .ref (ad 5) :: rest)) := by
  refine va_iast hx hb hK hP (dwC hI hA ..) hS 5 0 rfl rfl (vp_in_nI hk (by decide)) hdg (fun H1 locs1 hP1 _ hS1 => kk H1 locs1 ?_ hS1)
  rw [ nI_clamp (Nat.lt_trans hk (by decide))] at hP1; exact hP1
theorem lC_6 (hx : p.tables.exec = Jvm.exec) (hb : c.code = cc) (hK : va_K (dC, dI) vwCl [(cI, .int), (cZ, .boolean)] s) (hP : va_P (dC, dI) vwCl (wC cI cZ ad sm fe ex dy gp gc op gr st dl wo n yc ya ys yd q zc zp zr zs zf z zm zt) H) {k : Nat} (hk : k < 24) (hdg : decode cc pc = .ok (.iaload, 1)) (kk : W p l e R s m args below meth c H locs cells slots Q (F0 m (pc + 1) ls (.int (st k) :: rest))) : W p l e R s m args below meth c H locs cells slots Q (F0 m pc ls (.int (nI k) :: .ref (ad 6) :: rest)) := by
  refine va_iald hx hb hK hP 6 0 rfl rfl (vp_in_nI hk (by decide)) hdg ?_
  rw [nI_clamp (Nat.lt_trans hk (by decide))]; exact kk
theorem sC_6 (hx : p.tables.exec = Jvm.exec) (hb : c.code = cc) (hK : va_K (dC, dI) vwCl [(cI, .int), (cZ, .boolean)] s) (hP : va_P (dC, dI) vwCl (wC cI cZ ad sm fe ex dy gp gc op gr st dl wo n yc ya ys yd q zc zp zr zs zf z zm zt) H) (hI : iwC ad) (hA : ∀ x, awC ad x → A0 x) (hS : va_S A0 H0 H locs) {k : Nat} (hk : k < 24) {x : Int32} (hdg : decode cc pc = .ok (.iastore, 1)) (kk : ∀ (H1 : Heap) (locs1 : List Loc), va_P (dC, dI) vwCl (wC cI cZ ad sm fe ex dy gp gc op gr (upd st k x) dl wo n yc ya ys yd q zc zp zr zs zf z zm zt) H1 → va_S A0 H0 H1 locs1 → W p l e R s m args below meth c H1 locs1 cells slots Q (F0 m (pc + 1) ls rest)) : W p l e R s m args below meth c H locs cells slots Q (F0 m pc ls (.int x :: .int (nI k) :: .ref (ad 6) :: rest)) := by
  refine va_iast hx hb hK hP (dwC hI hA ..) hS 6 0 rfl rfl (vp_in_nI hk (by decide)) hdg (fun H1 locs1 hP1 _ hS1 => kk H1 locs1 ?_ hS1)
  rw [ nI_clamp (Nat.lt_trans hk (by decide))] at hP1; exact hP1
theorem lC_7 (hx : p.tables.exec = Jvm.exec) (hb : c.code = cc) (hK : va_K (dC, dI) vwCl [(cI, .int), (cZ, .boolean)] s) (hP : va_P (dC, dI) vwCl (wC cI cZ ad sm fe ex dy gp gc op gr st dl wo n yc ya ys yd q zc zp zr zs zf z zm zt) H) {k : Nat} (hk : k < 24) (hdg : decode cc pc = .ok (.iaload, 1)) (kk : W p l e R s m args below meth c H locs cells slots Q (F0 m (pc + 1) ls (.int (dl k) :: rest))) : W p l e R s m args below meth c H locs cells slots Q (F0 m pc ls (.int (nI k) :: .ref (ad 7) :: rest)) := by
  refine va_iald hx hb hK hP 7 0 rfl rfl (vp_in_nI hk (by decide)) hdg ?_
  rw [nI_clamp (Nat.lt_trans hk (by decide))]; exact kk
theorem sC_7 (hx : p.tables.exec = Jvm.exec) (hb : c.code = cc) (hK : va_K (dC, dI) vwCl [(cI, .int), (cZ, .boolean)] s) (hP : va_P (dC, dI) vwCl (wC cI cZ ad sm fe ex dy gp gc op gr st dl wo n yc ya ys yd q zc zp zr zs zf z zm zt) H) (hI : iwC ad) (hA : ∀ x, awC ad x → A0 x) (hS : va_S A0 H0 H locs) {k : Nat} (hk : k < 24) {x : Int32} (hdg : decode cc pc = .ok (.iastore, 1)) (kk : ∀ (H1 : Heap) (locs1 : List Loc), va_P (dC, dI) vwCl (wC cI cZ ad sm fe ex dy gp gc op gr st (upd dl k x) wo n yc ya ys yd q zc zp zr zs zf z zm zt) H1 → va_S A0 H0 H1 locs1 → W p l e R s m args below meth c H1 locs1 cells slots Q (F0 m (pc + 1) ls rest)) : W p l e R s m args below meth c H locs cells slots Q (F0 m pc ls (.int x :: .int (nI k) :: .ref (ad 7) :: rest)) := by
  refine va_iast hx hb hK hP (dwC hI hA ..) hS 7 0 rfl rfl (vp_in_nI hk (by decide)) hdg (fun H1 locs1 hP1 _ hS1 => kk H1 locs1 ?_ hS1)
  rw [ nI_clamp (Nat.lt_trans hk (by decide))] at hP1; exact hP1
theorem lC_8 (hx : p.tables.exec = Jvm.exec) (hb : c.code = cc) (hK : va_K (dC, dI) vwCl [(cI, .int), (cZ, .boolean)] s) (hP : va_P (dC, dI) vwCl (wC cI cZ ad sm fe ex dy gp gc op gr st dl wo n yc ya ys yd q zc zp zr zs zf z zm zt) H) {k : Nat} (hk : k < 24) (hdg : decode cc pc = .ok (.baload, 1)) (kk : W p l e R s m args below meth c H locs cells slots Q (F0 m (pc + 1) ls (.int (wo k) :: rest))) : W p l e R s m args below meth c H locs cells slots Q (F0 m pc ls (.int (nI k) :: .ref (ad 8) :: rest)) := by
  refine va_zald hx hb hK hP 8 1 rfl rfl (vp_in_nI hk (by decide)) hdg ?_
  rw [nI_clamp (Nat.lt_trans hk (by decide))]; exact kk
theorem sC_8 (hx : p.tables.exec = Jvm.exec) (hb : c.code = cc) (hK : va_K (dC, dI) vwCl [(cI, .int), (cZ, .boolean)] s) (hP : va_P (dC, dI) vwCl (wC cI cZ ad sm fe ex dy gp gc op gr st dl wo n yc ya ys yd q zc zp zr zs zf z zm zt) H) (hI : iwC ad) (hA : ∀ x, awC ad x → A0 x) (hS : va_S A0 H0 H locs) {k : Nat} (hk : k < 24) {x : Int32} (h01 : vp_nar .boolean x = x) (hdg : decode cc pc = .ok (.bastore, 1)) (kk : ∀ (H1 : Heap) (locs1 : List Loc), va_P (dC, dI) vwCl (wC cI cZ ad sm fe ex dy gp gc op gr st dl (upd wo k x) n yc ya ys yd q zc zp zr zs zf z zm zt) H1 → va_S A0 H0 H1 locs1 → W p l e R s m args below meth c H1 locs1 cells slots Q (F0 m (pc + 1) ls rest)) : W p l e R s m args below meth c H locs cells slots Q (F0 m pc ls (.int x :: .int (nI k) :: .ref (ad 8) :: rest)) := by
  refine va_zast hx hb hK hP (dwC hI hA ..) hS 8 1 rfl rfl (vp_in_nI hk (by decide)) hdg (fun H1 locs1 hP1 _ hS1 => kk H1 locs1 ?_ hS1)
  rw [ h01, nI_clamp (Nat.lt_trans hk (by decide))] at hP1; exact hP1
theorem lC_10 (hx : p.tables.exec = Jvm.exec) (hb : c.code = cc) (hK : va_K (dC, dI) vwCl [(cI, .int), (cZ, .boolean)] s) (hP : va_P (dC, dI) vwCl (wC cI cZ ad sm fe ex dy gp gc op gr st dl wo n yc ya ys yd q zc zp zr zs zf z zm zt) H) {k : Nat} (hk : k < 100) (hdg : decode cc pc = .ok (.iaload, 1)) (kk : W p l e R s m args below meth c H locs cells slots Q (F0 m (pc + 1) ls (.int (yc k) :: rest))) : W p l e R s m args below meth c H locs cells slots Q (F0 m pc ls (.int (nI k) :: .ref (ad 10) :: rest)) := by
  refine va_iald hx hb hK hP 10 0 rfl rfl (vp_in_nI hk (by decide)) hdg ?_
  rw [nI_clamp (Nat.lt_trans hk (by decide))]; exact kk
theorem sC_10 (hx : p.tables.exec = Jvm.exec) (hb : c.code = cc) (hK : va_K (dC, dI) vwCl [(cI, .int), (cZ, .boolean)] s) (hP : va_P (dC, dI) vwCl (wC cI cZ ad sm fe ex dy gp gc op gr st dl wo n yc ya ys yd q zc zp zr zs zf z zm zt) H) (hI : iwC ad) (hA : ∀ x, awC ad x → A0 x) (hS : va_S A0 H0 H locs) {k : Nat} (hk : k < 100) {x : Int32} (hdg : decode cc pc = .ok (.iastore, 1)) (kk : ∀ (H1 : Heap) (locs1 : List Loc), va_P (dC, dI) vwCl (wC cI cZ ad sm fe ex dy gp gc op gr st dl wo n (upd yc k x) ya ys yd q zc zp zr zs zf z zm zt) H1 → va_S A0 H0 H1 locs1 → W p l e R s m args below meth c H1 locs1 cells slots Q (F0 m (pc + 1) ls rest)) : W p l e R s m args below meth c H locs cells slots Q (F0 m pc ls (.int x :: .int (nI k) :: .ref (ad 10) :: rest)) := by
  refine va_iast hx hb hK hP (dwC hI hA ..) hS 10 0 rfl rfl (vp_in_nI hk (by decide)) hdg (fun H1 locs1 hP1 _ hS1 => kk H1 locs1 ?_ hS1)
  rw [ nI_clamp (Nat.lt_trans hk (by decide))] at hP1; exact hP1
theorem lC_11 (hx : p.tables.exec = Jvm.exec) (hb : c.code = cc) (hK : va_K (dC, dI) vwCl [(cI, .int), (cZ, .boolean)] s) (hP : va_P (dC, dI) vwCl (wC cI cZ ad sm fe ex dy gp gc op gr st dl wo n yc ya ys yd q zc zp zr zs zf z zm zt) H) {k : Nat} (hk : k < 100) (hdg : decode cc pc = .ok (.iaload, 1)) (kk : W p l e R s m args below meth c H locs cells slots Q (F0 m (pc + 1) ls (.int (ya k) :: rest))) : W p l e R s m args below meth c H locs cells slots Q (F0 m pc ls (.int (nI k) :: .ref (ad 11) :: rest)) := by
  refine va_iald hx hb hK hP 11 0 rfl rfl (vp_in_nI hk (by decide)) hdg ?_
  rw [nI_clamp (Nat.lt_trans hk (by decide))]; exact kk
theorem sC_11 (hx : p.tables.exec = Jvm.exec) (hb : c.code = cc) (hK : va_K (dC, dI) vwCl [(cI, .int), (cZ, .boolean)] s) (hP : va_P (dC, dI) vwCl (wC cI cZ ad sm fe ex dy gp gc op gr st dl wo n yc ya ys yd q zc zp zr zs zf z zm zt) H) (hI : iwC ad) (hA : ∀ x, awC ad x → A0 x) (hS : va_S A0 H0 H locs) {k : Nat} (hk : k < 100) {x : Int32} (hdg : decode cc pc = .ok (.iastore, 1)) (kk : ∀ (H1 : Heap) (locs1 : List Loc), va_P (dC, dI) vwCl (wC cI cZ ad sm fe ex dy gp gc op gr st dl wo n yc (upd ya k x) ys yd q zc zp zr zs zf z zm zt) H1 → va_S A0 H0 H1 locs1 → W p l e R s m args below meth c H1 locs1 cells slots Q (F0 m (pc + 1) ls rest)) : W p l e R s m args below meth c H locs cells slots Q (F0 m pc ls (.int x :: .int (nI k) :: .ref (ad 11) :: rest)) := by
  refine va_iast hx hb hK hP (dwC hI hA ..) hS 11 0 rfl rfl (vp_in_nI hk (by decide)) hdg (fun H1 locs1 hP1 _ hS1 => kk H1 locs1 ?_ hS1)
  rw [ nI_clamp (Nat.lt_trans hk (by decide))] at hP1; exact hP1
theorem lC_12 (hx : p.tables.exec = Jvm.exec) (hb : c.code = cc) (hK : va_K (dC, dI) vwCl [(cI, .int), (cZ, .boolean)] s) (hP : va_P (dC, dI) vwCl (wC cI cZ ad sm fe ex dy gp gc op gr st dl wo n yc ya ys yd q zc zp zr zs zf z zm zt) H) {k : Nat} (hk : k < 100) (hdg : decode cc pc = .ok (.iaload, 1)) (kk : W p l e R s m args below meth c H locs cells slots Q (F0 m (pc + 1) ls (.int (ys k) :: rest))) : W p l e R s m args below meth c H locs cells slots Q (F0 m pc ls (.int (nI k) :: .ref (ad 12) :: rest)) := by
  refine va_iald hx hb hK hP 12 0 rfl rfl (vp_in_nI hk (by decide)) hdg ?_
  rw [nI_clamp (Nat.lt_trans hk (by decide))]; exact kk
theorem sC_12 (hx : p.tables.exec = Jvm.exec) (hb : c.code = cc) (hK : va_K (dC, dI) vwCl [(cI, .int), (cZ, .boolean)] s) (hP : va_P (dC, dI) vwCl (wC cI cZ ad sm fe ex dy gp gc op gr st dl wo n yc ya ys yd q zc zp zr zs zf z zm zt) H) (hI : iwC ad) (hA : ∀ x, awC ad x → A0 x) (hS : va_S A0 H0 H locs) {k : Nat} (hk : k < 100) {x : Int32} (hdg : decode cc pc = .ok (.iastore, 1)) (kk : ∀ (H1 : Heap) (locs1 : List Loc), va_P (dC, dI) vwCl (wC cI cZ ad sm fe ex dy gp gc op gr st dl wo n yc ya (upd ys k x) yd q zc zp zr zs zf z zm zt) H1 → va_S A0 H0 H1 locs1 → W p l e R s m args below meth c H1 locs1 cells slots Q (F0 m (pc + 1) ls rest)) : W p l e R s m args below meth c H locs cells slots Q (F0 m pc ls (.int x :: .int (nI k) :: .ref (ad 12) :: rest)) := by
  refine va_iast hx hb hK hP (dwC hI hA ..) hS 12 0 rfl rfl (vp_in_nI hk (by decide)) hdg (fun H1 locs1 hP1 _ hS1 => kk H1 locs1 ?_ hS1)
  rw [ nI_clamp (Nat.lt_trans hk (by decide))] at hP1; exact hP1
theorem lC_13 (hx : p.tables.exec = Jvm.exec) (hb : c.code = cc) (hK : va_K (dC, dI) vwCl [(cI, .int), (cZ, .boolean)] s) (hP : va_P (dC, dI) vwCl (wC cI cZ ad sm fe ex dy gp gc op gr st dl wo n yc ya ys yd q zc zp zr zs zf z zm zt) H) {k : Nat} (hk : k < 100) (hdg : decode cc pc = .ok (.iaload, 1)) (kk : W p l e R s m args below meth c H locs cells slots Q (F0 m (pc + 1) ls (.int (yd k) :: rest))) : W p l e R s m args below meth c H locs cells slots Q (F0 m pc ls (.int (nI k) :: .ref (ad 13) :: rest)) := by
  refine va_iald hx hb hK hP 13 0 rfl rfl (vp_in_nI hk (by decide)) hdg ?_
  rw [nI_clamp (Nat.lt_trans hk (by decide))]; exact kk
theorem sC_13 (hx : p.tables.exec = Jvm.exec) (hb : c.code = cc) (hK : va_K (dC, dI) vwCl [(cI, .int), (cZ, .boolean)] s) (hP : va_P (dC, dI) vwCl (wC cI cZ ad sm fe ex dy gp gc op gr st dl wo n yc ya ys yd q zc zp zr zs zf z zm zt) H) (hI : iwC ad) (hA : ∀ x, awC ad x → A0 x) (hS : va_S A0 H0 H locs) {k : Nat} (hk : k < 100) {x : Int32} (hdg : decode cc pc = .ok (.iastore, 1)) (kk : ∀ (H1 : Heap) (locs1 : List Loc), va_P (dC, dI) vwCl (wC cI cZ ad sm fe ex dy gp gc op gr st dl wo n yc ya ys (upd yd k x) q zc zp zr zs zf z zm zt) H1 → va_S A0 H0 H1 locs1 → W p l e R s m args below meth c H1 locs1 cells slots Q (F0 m (pc + 1) ls rest)) : W p l e R s m args below meth c H locs cells slots Q (F0 m pc ls (.int x :: .int (nI k) :: .ref (ad 13) :: rest)) := by
  refine va_iast hx hb hK hP (dwC hI hA ..) hS 13 0 rfl rfl (vp_in_nI hk (by decide)) hdg (fun H1 locs1 hP1 _ hS1 => kk H1 locs1 ?_ hS1)
  rw [ nI_clamp (Nat.lt_trans hk (by decide))] at hP1; exact hP1
theorem lC_15 (hx : p.tables.exec = Jvm.exec) (hb : c.code = cc) (hK : va_K (dC, dI) vwCl [(cI, .int), (cZ, .boolean)] s) (hP : va_P (dC, dI) vwCl (wC cI cZ ad sm fe ex dy gp gc op gr st dl wo n yc ya ys yd q zc zp zr zs zf z zm zt) H) {k : Nat} (hk : k < 24) (hdg : decode cc pc = .ok (.iaload, 1)) (kk : W p l e R s m args below meth c H locs cells slots Q (F0 m (pc + 1) ls (.int (zc k) :: rest))) : W p l e R s m args below meth c H locs cells slots Q (F0 m pc ls (.int (nI k) :: .ref (ad 15) :: rest)) := by
  refine va_iald hx hb hK hP 15 0 rfl rfl (vp_in_nI hk (by decide)) hdg ?_
  rw [nI_clamp (Nat.lt_trans hk (by decide))]; exact kk
theorem sC_15 (hx : p.tables.exec = Jvm.exec) (hb : c.code = cc) (hK : va_K (dC, dI) vwCl [(cI, .int), (cZ, .boolean)] s) (hP : va_P (dC, dI) vwCl (wC cI cZ ad sm fe ex dy gp gc op gr st dl wo n yc ya ys yd q zc zp zr zs zf z zm zt) H) (hI : iwC ad) (hA : ∀ x, awC ad x → A0 x) (hS : va_S A0 H0 H locs) {k : Nat} (hk : k < 24) {x : Int32} (hdg : decode cc pc = .ok (.iastore, 1)) (kk : ∀ (H1 : Heap) (locs1 : List Loc), va_P (dC, dI) vwCl (wC cI cZ ad sm fe ex dy gp gc op gr st dl wo n yc ya ys yd q (upd zc k x) zp zr zs zf z zm zt) H1 → va_S A0 H0 H1 locs1 → W p l e R s m args below meth c H1 locs1 cells slots Q (F0 m (pc + 1) ls rest)) : W p l e R s m args below meth c H locs cells slots Q (F0 m pc ls (.int x :: .int (nI k) :: .ref (ad 15) :: rest)) := by
  refine va_iast hx hb hK hP (dwC hI hA ..) hS 15 0 rfl rfl (vp_in_nI hk (by decide)) hdg (fun H1 locs1 hP1 _ hS1 => kk H1 locs1 ?_ hS1)
  rw [ nI_clamp (Nat.lt_trans hk (by decide))] at hP1; exact hP1
theorem lC_16 (hx : p.tables.exec = Jvm.exec) (hb : c.code = cc) (hK : va_K (dC, dI) vwCl [(cI, .int), (cZ, .boolean)] s) (hP : va_P (dC, dI) vwCl (wC cI cZ ad sm fe ex dy gp gc op gr st dl wo n yc ya ys yd q zc zp zr zs zf z zm zt) H) {k : Nat} (hk : k < 24) (hdg : decode cc pc = .ok (.iaload, 1)) (kk : W p l e R s m args below meth c H locs cells slots Q (F0 m (pc + 1) ls (.int (zp k) :: rest))) : W p l e R s m args below meth c H locs cells slots Q (F0 m pc ls (.int (nI k) :: .ref (ad 16) :: rest)) := by
  refine va_iald hx hb hK hP 16 0 rfl rfl (vp_in_nI hk (by decide)) hdg ?_
  rw [nI_clamp (Nat.lt_trans hk (by decide))]; exact kk
theorem sC_16 (hx : p.tables.exec = Jvm.exec) (hb : c.code = cc) (hK : va_K (dC, dI) vwCl [(cI, .int), (cZ, .boolean)] s) (hP : va_P (dC, dI) vwCl (wC cI cZ ad sm fe ex dy gp gc op gr st dl wo n yc ya ys yd q zc zp zr zs zf z zm zt) H) (hI : iwC ad) (hA : ∀ x, awC ad x → A0 x) (hS : va_S A0 H0 H locs) {k : Nat} (hk : k < 24) {x : Int32} (hdg : decode cc pc = .ok (.iastore, 1)) (kk : ∀ (H1 : Heap) (locs1 : List Loc), va_P (dC, dI) vwCl (wC cI cZ ad sm fe ex dy gp gc op gr st dl wo n yc ya ys yd q zc (upd zp k x) zr zs zf z zm zt) H1 → va_S A0 H0 H1 locs1 → W p l e R s m args below meth c H1 locs1 cells slots Q (F0 m (pc + 1) ls rest)) : W p l e R s m args below meth c H locs cells slots Q (F0 m pc ls (.int x :: .int (nI k) :: .ref (ad 16) :: rest)) := by
  refine va_iast hx hb hK hP (dwC hI hA ..) hS 16 0 rfl rfl (vp_in_nI hk (by decide)) hdg (fun H1 locs1 hP1 _ hS1 => kk H1 locs1 ?_ hS1)
  rw [ nI_clamp (Nat.lt_trans hk (by decide))] at hP1; exact hP1
theorem lC_17 (hx : p.tables.exec = Jvm.exec) (hb : c.code = cc) (hK : va_K (dC, dI) vwCl [(cI, .int), (cZ, .boolean)] s) (hP : va_P (dC, dI) vwCl (wC cI cZ ad sm fe ex dy gp gc op gr st dl wo n yc ya ys yd q zc zp zr zs zf z zm zt) H) {k : Nat} (hk : k < 24) (hdg : decode cc pc = .ok (.iaload, 1)) (kk : W p l e R s m args below meth c H locs cells slots Q (F0 m (pc + 1) ls (.int (zr k) :: rest))) : W p l e R s m args below meth c H locs cells slots Q (F0 m pc ls (.int (nI k) :: .ref (ad 17) :: rest)) := by
  refine va_iald hx hb hK hP 17 0 rfl rfl (vp_in_nI hk (by decide)) hdg ?_
  rw [nI_clamp (Nat.lt_trans hk (by decide))]; exact kk
theorem sC_17 (hx : p.tables.exec = Jvm.exec) (hb : c.code = cc) (hK : va_K (dC, dI) vwCl [(cI, .int), (cZ, .boolean)] s) (hP : va_P (dC, dI) vwCl (wC cI cZ ad sm fe ex dy gp gc op gr st dl wo n yc ya ys yd q zc zp zr zs zf z zm zt) H) (hI : iwC ad) (hA : ∀ x, awC ad x → A0 x) (hS : va_S A0 H0 H locs) {k : Nat} (hk : k < 24) {x : Int32} (hdg : decode cc pc = .ok (.iastore, 1)) (kk : ∀ (H1 : Heap) (locs1 : List Loc), va_P (dC, dI) vwCl (wC cI cZ ad sm fe ex dy gp gc op gr st dl wo n yc ya ys yd q zc zp (upd zr k x) zs zf z zm zt) H1 → va_S A0 H0 H1 locs1 → W p l e R s m args below meth c H1 locs1 cells slots Q (F0 m (pc + 1) ls rest)) : W p l e R s m args below meth c H locs cells slots Q (F0 m pc ls (.int x :: .int (nI k) :: .ref (ad 17) :: rest)) := by
  refine va_iast hx hb hK hP (dwC hI hA ..) hS 17 0 rfl rfl (vp_in_nI hk (by decide)) hdg (fun H1 locs1 hP1 _ hS1 => kk H1 locs1 ?_ hS1)
  rw [ nI_clamp (Nat.lt_trans hk (by decide))] at hP1; exact hP1
theorem lC_18 (hx : p.tables.exec = Jvm.exec) (hb : c.code = cc) (hK : va_K (dC, dI) vwCl [(cI, .int), (cZ, .boolean)] s) (hP : va_P (dC, dI) vwCl (wC cI cZ ad sm fe ex dy gp gc op gr st dl wo n yc ya ys yd q zc zp zr zs zf z zm zt) H) {k : Nat} (hk : k < 24) (hdg : decode cc pc = .ok (.iaload, 1)) (kk : W p l e R s m args below meth c H locs cells slots Q (F0 m (pc + 1) ls (.int (zs k) :: rest))) : W p l e R s m args below meth c H locs cells slots Q (F0 m pc ls (.int (nI k) :: .ref (ad 18) :: rest)) := by
  refine va_iald hx hb hK hP 18 0 rfl rfl (vp_in_nI hk (by decide)) hdg ?_
  rw [nI_clamp (Nat.lt_trans hk (by decide))]; exact kk
theorem sC_18 (hx : p.tables.exec = Jvm.exec) (hb : c.code = cc) (hK : va_K (dC, dI) vwCl [(cI, .int), (cZ, .boolean)] s) (hP : va_P (dC, dI) vwCl (wC cI cZ ad sm fe ex dy gp gc op gr st dl wo n yc ya ys yd q zc zp zr zs zf z zm zt) H) (hI : iwC ad) (hA : ∀ x, awC ad x → A0 x) (hS : va_S A0 H0 H locs) {k : Nat} (hk : k < 24) {x : Int32} (hdg : decode cc pc = .ok (.iastore, 1)) (kk : ∀ (H1 : Heap) (locs1 : List Loc), va_P (dC, dI) vwCl (wC cI cZ ad sm fe ex dy gp gc op gr st dl wo n yc ya ys yd q zc zp zr (upd zs k x) zf z zm zt) H1 → va_S A0 H0 H1 locs1 → W p l e R s m args below meth c H1 locs1 cells slots Q (F0 m (pc + 1) ls rest)) : W p l e R s m args below meth c H locs cells slots Q (F0 m pc ls (.int x :: .int (nI k) :: .ref (ad 18) :: rest)) := by
  refine va_iast hx hb hK hP (dwC hI hA ..) hS 18 0 rfl rfl (vp_in_nI hk (by decide)) hdg (fun H1 locs1 hP1 _ hS1 => kk H1 locs1 ?_ hS1)
  rw [ nI_clamp (Nat.lt_trans hk (by decide))] at hP1; exact hP1
theorem lC_19 (hx : p.tables.exec = Jvm.exec) (hb : c.code = cc) (hK : va_K (dC, dI) vwCl [(cI, .int), (cZ, .boolean)] s) (hP : va_P (dC, dI) vwCl (wC cI cZ ad sm fe ex dy gp gc op gr st dl wo n yc ya ys yd q zc zp zr zs zf z zm zt) H) {k : Nat} (hk : k < 24) (hdg : decode cc pc = .ok (.baload, 1)) (kk : W p l e R s m args below meth c H locs cells slots Q (F0 m (pc + 1) ls (.int (zf k) :: rest))) : W p l e R s m args below meth c H locs cells slots Q (F0 m pc ls (.int (nI k) :: .ref (ad 19) :: rest)) := by
  refine va_zald hx hb hK hP 19 1 rfl rfl (vp_in_nI hk (by decide)) hdg ?_
  rw [nI_clamp (Nat.lt_trans hk (by decide))]; exact kk
theorem sC_19 (hx : p.tables.exec = Jvm.exec) (hb : c.code = cc) (hK : va_K (dC, dI) vwCl [(cI, .int), (cZ, .boolean)] s) (hP : va_P (dC, dI) vwCl (wC cI cZ ad sm fe ex dy gp gc op gr st dl wo n yc ya ys yd q zc zp zr zs zf z zm zt) H) (hI : iwC ad) (hA : ∀ x, awC ad x → A0 x) (hS : va_S A0 H0 H locs) {k : Nat} (hk : k < 24) {x : Int32} (h01 : vp_nar .boolean x = x) (hdg : decode cc pc = .ok (.bastore, 1)) (kk : ∀ (H1 : Heap) (locs1 : List Loc), va_P (dC, dI) vwCl (wC cI cZ ad sm fe ex dy gp gc op gr st dl wo n yc ya ys yd q zc zp zr zs (upd zf k x) z zm zt) H1 → va_S A0 H0 H1 locs1 → W p l e R s m args below meth c H1 locs1 cells slots Q (F0 m (pc + 1) ls rest)) : W p l e R s m args below meth c H locs cells slots Q (F0 m pc ls (.int x :: .int (nI k) :: .ref (ad 19) :: rest)) := by
  refine va_zast hx hb hK hP (dwC hI hA ..) hS 19 1 rfl rfl (vp_in_nI hk (by decide)) hdg (fun H1 locs1 hP1 _ hS1 => kk H1 locs1 ?_ hS1)
  rw [ h01, nI_clamp (Nat.lt_trans hk (by decide))] at hP1; exact hP1
end
section
variable {sm fe ex : Int32} {gp gc : Nat → Int32} {dy : Int32} {n : Nat} {pe gr st dl wo : Nat → Int32} {q : Nat} {yc ya yd ys tp fu sh ro : Nat → Int32} {th : Int32}
theorem rM_0 (hK : va_K (dC, dI) vwCl [(cI, .int), (cZ, .boolean)] s) (hP : va_P (dC, dI) vwCl (wM cI cZ am sm fe ex gp gc dy n pe gr st dl wo q yc ya yd ys tp fu sh ro th) H) : ∃ cell : Cell, H[am 0]? = some cell ∧ cell.vm.isStatics = false ∧ s.vm.findClass RX4 = some cell.cls := va_recv hK hP (ci := 4) (q0 := 0) rfl rfl
theorem gM_0_0 (hx : p.tables.exec = Jvm.exec) (hb : c.code = cc) {index : Nat} (hts : ∀ w ∈ Ts, w.before args s = true) (hin : ∀ w ∈ wsX40, w ∈ Ts) (hown : s.vm.findClass own = some m.cls) (hK : va_K (dC, dI) vwCl [(cI, .int), (cZ, .boolean)] s) (hP : va_P (dC, dI) vwCl (wM cI cZ am sm fe ex gp gc dy n pe gr st dl wo q yc ya yd ys tp fu sh ro th) H) (hlink : (Cond.fieldLink own index "SettlementFundModel" "sum" "I").before args s = true) (hdg : decode cc pc = .ok (.getfield index, 3)) (kk : W p l e R s m args below meth c H locs cells slots Q (F0 m (pc + 3) ls (.int sm :: rest))) : W p l e R s m args below meth c H locs cells slots Q (F0 m pc ls (.ref (am 0) :: rest)) := va_get (D := (dC, dI)) (ci := 4) (v := .int sm) (C := RX4) (T := TX4) (N := 22) hx hb hts hin hown hK hP 0 rfl rfl 0 (by decide) hlink (fun _ h9 => h9) rfl hdg kk
theorem uM_0_0 (hx : p.tables.exec = Jvm.exec) (hb : c.code = cc) {index : Nat} (hts : ∀ w ∈ Ts, w.before args s = true) (hin : ∀ w ∈ wsX40, w ∈ Ts) (hown : s.vm.findClass own = some m.cls) (hK : va_K (dC, dI) vwCl [(cI, .int), (cZ, .boolean)] s) (hP : va_P (dC, dI) vwCl (wM cI cZ am sm fe ex gp gc dy n pe gr st dl wo q yc ya yd ys tp fu sh ro th) H) (hlink : (Cond.fieldLink own index "SettlementFundModel" "sum" "I").before args s = true) (hI : iwM am) (hA : ∀ x, awM am x → A0 x) (hS : va_S A0 H0 H locs) {x : Int32} (hdg : decode cc pc = .ok (.putfield index, 3)) (kk : ∀ (H1 : Heap) (locs1 : List Loc), va_P (dC, dI) vwCl (wM cI cZ am x fe ex gp gc dy n pe gr st dl wo q yc ya yd ys tp fu sh ro th) H1 → va_S A0 H0 H1 locs1 → W p l e R s m args below meth c H1 locs1 cells slots Q (F0 m (pc + 3) ls rest)) : W p l e R s m args below meth c H locs cells slots Q (F0 m pc ls (.int x :: .ref (am 0) :: rest)) := va_put (D := (dC, dI)) (ci := 4) (v := .int x) (ty := .int) (C := RX4) (T := TX4) (N := 22) hx hb hts hin tyX4 tyX4_ok nmX4 hown hK hP (dwM hI hA ..) hS 0 rfl rfl 0 (by decide) hlink (fun _ h9 => h9) rfl (by decide +kernel) rfl rfl (Nat.le_of_ble_eq_true rfl) hdg (fun H1 locs1 hP1 _ hS1 => kk H1 locs1 hP1 hS1)
theorem gM_0_1 (hx : p.tables.exec = Jvm.exec) (hb : c.code = cc) {index : Nat} (hts : ∀ w ∈ Ts, w.before args s = true) (hin : ∀ w ∈ wsX40, w ∈ Ts) (hown : s.vm.findClass own = some m.cls) (hK : va_K (dC, dI) vwCl [(cI, .int), (cZ, .boolean)] s) (hP : va_P (dC, dI) vwCl (wM cI cZ am sm fe ex gp gc dy n pe gr st dl wo q yc ya yd ys tp fu sh ro th) H) (hlink : (Cond.fieldLink own index "SettlementFundModel" "fee" "I").before args s = true) (hdg : decode cc pc = .ok (.getfield index, 3)) (kk : W p l e R s m args below meth c H locs cells slots Q (F0 m (pc + 3) ls (.int fe :: rest))) : W p l e R s m args below meth c H locs cells slots Q (F0 m pc ls (.ref (am 0) :: rest)) := va_get (D := (dC, dI)) (ci := 4) (v := .int fe) (C := RX4) (T := TX4) (N := 22) hx hb hts hin hown hK hP 0 rfl rfl 1 (by decide) hlink (fun _ h9 => h9) rfl hdg kk
theorem uM_0_1 (hx : p.tables.exec = Jvm.exec) (hb : c.code = cc) {index : Nat} (hts : ∀ w ∈ Ts, w.before args s = true) (hin : ∀ w ∈ wsX40, w ∈ Ts) (hown : s.vm.findClass own = some m.cls) (hK : va_K (dC, dI) vwCl [(cI, .int), (cZ, .boolean)] s) (hP : va_P (dC, dI) vwCl (wM cI cZ am sm fe ex gp gc dy n pe gr st dl wo q yc ya yd ys tp fu sh ro th) H) (hlink : (Cond.fieldLink own index "SettlementFundModel" "fee" "I").before args s = true) (hI : iwM am) (hA : ∀ x, awM am x → A0 x) (hS : va_S A0 H0 H locs) {x : Int32} (hdg : decode cc pc = .ok (.putfield index, 3)) (kk : ∀ (H1 : Heap) (locs1 : List Loc), va_P (dC, dI) vwCl (wM cI cZ am sm x ex gp gc dy n pe gr st dl wo q yc ya yd ys tp fu sh ro th) H1 → va_S A0 H0 H1 locs1 → W p l e R s m args below meth c H1 locs1 cells slots Q (F0 m (pc + 3) ls rest)) : W p l e R s m args below meth c H locs cells slots Q (F0 m pc ls (.int x :: .ref (am 0) :: rest)) := va_put (D := (dC, dI)) (ci := 4) (v := .int x) (ty := .int) (C := RX4) (T := TX4) (N := 22) hx hb hts hin tyX4 tyX4_ok nmX4 hown hK hP (dwM hI hA ..) hS 0 rfl rfl 1 (by decide) hlink (fun _ h9 => h9) rfl (by decide +kernel) rfl rfl (Nat.le_of_ble_eq_true rfl) hdg (fun H1 locs1 hP1 _ hS1 => kk H1 locs1 hP1 hS1)
theorem gM_0_2 (hx : p.tables.exec = Jvm.exec) (hb : c.code = cc) {index : Nat} (hts : ∀ w ∈ Ts, w.before args s = true) (hin : ∀ w ∈ wsX40, w ∈ Ts) (hown : s.vm.findClass own = some m.cls) (hK : va_K (dC, dI) vwCl [(cI, .int), (cZ, .boolean)] s) (hP : va_P (dC, dI) vwCl (wM cI cZ am sm fe ex gp gc dy n pe gr st dl wo q yc ya yd ys tp fu sh ro th) H) (hlink : (Cond.fieldLink own index "SettlementFundModel" "expenses" "I").before args s = true) (hdg : decode cc pc = .ok (.getfield index, 3)) (kk : W p l e R s m args below meth c H locs cells slots Q (F0 m (pc + 3) ls (.int ex :: rest))) : W p l e R s m args below meth c H locs cells slots Q (F0 m pc ls (.ref (am 0) :: rest)) := va_get (D := (dC, dI)) (ci := 4) (v := .int ex) (C := RX4) (T := TX4) (N := 22) hx hb hts hin hown hK hP 0 rfl rfl 2 (by decide) hlink (fun _ h9 => h9) rfl hdg kk
theorem uM_0_2 (hx : p.tables.exec = Jvm.exec) (hb : c.code = cc) {index : Nat} (hts : ∀ w ∈ Ts, w.before args s = true) (hin : ∀ w ∈ wsX40, w ∈ Ts) (hown : s.vm.findClass own = some m.cls) (hK : va_K (dC, dI) vwCl [(cI, .int), (cZ, .boolean)] s) (hP : va_P (dC, dI) vwCl (wM cI cZ am sm fe ex gp gc dy n pe gr st dl wo q yc ya yd ys tp fu sh ro th) H) (hlink : (Cond.fieldLink own index "SettlementFundModel" "expenses" "I").before args s = true) (hI : iwM am) (hA : ∀ x, awM am x → A0 x) (hS : va_S A0 H0 H locs) {x : Int32} (hdg : decode cc pc = .ok (.putfield index, 3)) (kk : ∀ (H1 : Heap) (locs1 : List Loc), va_P (dC, dI) vwCl (wM cI cZ am sm fe x gp gc dy n pe gr st dl wo q yc ya yd ys tp fu sh ro th) H1 → va_S A0 H0 H1 locs1 → W p l e R s m args below meth c H1 locs1 cells slots Q (F0 m (pc + 3) ls rest)) : W p l e R s m args below meth c H locs cells slots Q (F0 m pc ls (.int x :: .ref (am 0) :: rest)) := va_put (D := (dC, dI)) (ci := 4) (v := .int x) (ty := .int) (C := RX4) (T := TX4) (N := 22) hx hb hts hin tyX4 tyX4_ok nmX4 hown hK hP (dwM hI hA ..) hS 0 rfl rfl 2 (by decide) hlink (fun _ h9 => h9) rfl (by decide +kernel) rfl rfl (Nat.le_of_ble_eq_true rfl) hdg (fun H1 locs1 hP1 _ hS1 => kk H1 locs1 hP1 hS1)
theorem gM_0_3 (hx : p.tables.exec = Jvm.exec) (hb : c.code = cc) {index : Nat} (hts : ∀ w ∈ Ts, w.before args s = true) (hin : ∀ w ∈ wsX40, w ∈ Ts) (hown : s.vm.findClass own = some m.cls) (hK : va_K (dC, dI) vwCl [(cI, .int), (cZ, .boolean)] s) (hP : va_P (dC, dI) vwCl (wM cI cZ am sm fe ex gp gc dy n pe gr st dl wo q yc ya yd ys tp fu sh ro th) H) (hlink : (Cond.fieldLink own index "SettlementFundModel" "points" "[I").before args s = true) (hdg : decode cc pc = .ok (.getfield index, 3)) (kk : W p l e R s m args below meth c H locs cells slots Q (F0 m (pc + 3) ls (.ref (am 1) :: rest))) : W p l e R s m args below meth c H locs cells slots Q (F0 m pc ls (.ref (am 0) :: rest)) := va_get (D := (dC, dI)) (ci := 4) (v := .ref (am 1)) (C := RX4) (T := TX4) (N := 22) hx hb hts hin hown hK hP 0 rfl rfl 3 (by decide) hlink (fun _ h9 => h9) rfl hdg kk
theorem gM_0_4 (hx : p.tables.exec = Jvm.exec) (hb : c.code = cc) {index : Nat} (hts : ∀ w ∈ Ts, w.before args s = true) (hin : ∀ w ∈ wsX40, w ∈ Ts) (hown : s.vm.findClass own = some m.cls) (hK : va_K (dC, dI) vwCl [(cI, .int), (cZ, .boolean)] s) (hP : va_P (dC, dI) vwCl (wM cI cZ am sm fe ex gp gc dy n pe gr st dl wo q yc ya yd ys tp fu sh ro th) H) (hlink : (Cond.fieldLink own index "SettlementFundModel" "caps" "[I").before args s = true) (hdg : decode cc pc = .ok (.getfield index, 3)) (kk : W p l e R s m args below meth c H locs cells slots Q (F0 m (pc + 3) ls (.ref (am 2) :: rest))) : W p l e R s m args below meth c H locs cells slots Q (F0 m pc ls (.ref (am 0) :: rest)) := va_get (D := (dC, dI)) (ci := 4) (v := .ref (am 2)) (C := RX4) (T := TX4) (N := 22) hx hb hts hin hown hK hP 0 rfl rfl 4 (by decide) hlink (fun _ h9 => h9) rfl hdg kk
theorem gM_0_5 (hx : p.tables.exec = Jvm.exec) (hb : c.code = cc) {index : Nat} (hts : ∀ w ∈ Ts, w.before args s = true) (hin : ∀ w ∈ wsX40, w ∈ Ts) (hown : s.vm.findClass own = some m.cls) (hK : va_K (dC, dI) vwCl [(cI, .int), (cZ, .boolean)] s) (hP : va_P (dC, dI) vwCl (wM cI cZ am sm fe ex gp gc dy n pe gr st dl wo q yc ya yd ys tp fu sh ro th) H) (hlink : (Cond.fieldLink own index "SettlementFundModel" "today" "I").before args s = true) (hdg : decode cc pc = .ok (.getfield index, 3)) (kk : W p l e R s m args below meth c H locs cells slots Q (F0 m (pc + 3) ls (.int dy :: rest))) : W p l e R s m args below meth c H locs cells slots Q (F0 m pc ls (.ref (am 0) :: rest)) := va_get (D := (dC, dI)) (ci := 4) (v := .int dy) (C := RX4) (T := TX4) (N := 22) hx hb hts hin hown hK hP 0 rfl rfl 5 (by decide) hlink (fun _ h9 => h9) rfl hdg kk
theorem uM_0_5 (hx : p.tables.exec = Jvm.exec) (hb : c.code = cc) {index : Nat} (hts : ∀ w ∈ Ts, w.before args s = true) (hin : ∀ w ∈ wsX40, w ∈ Ts) (hown : s.vm.findClass own = some m.cls) (hK : va_K (dC, dI) vwCl [(cI, .int), (cZ, .boolean)] s) (hP : va_P (dC, dI) vwCl (wM cI cZ am sm fe ex gp gc dy n pe gr st dl wo q yc ya yd ys tp fu sh ro th) H) (hlink : (Cond.fieldLink own index "SettlementFundModel" "today" "I").before args s = true) (hI : iwM am) (hA : ∀ x, awM am x → A0 x) (hS : va_S A0 H0 H locs) {x : Int32} (hdg : decode cc pc = .ok (.putfield index, 3)) (kk : ∀ (H1 : Heap) (locs1 : List Loc), va_P (dC, dI) vwCl (wM cI cZ am sm fe ex gp gc x n pe gr st dl wo q yc ya yd ys tp fu sh ro th) H1 → va_S A0 H0 H1 locs1 → W p l e R s m args below meth c H1 locs1 cells slots Q (F0 m (pc + 3) ls rest)) : W p l e R s m args below meth c H locs cells slots Q (F0 m pc ls (.int x :: .ref (am 0) :: rest)) := va_put (D := (dC, dI)) (ci := 4) (v := .int x) (ty := .int) (C := RX4) (T := TX4) (N := 22) hx hb hts hin tyX4 tyX4_ok nmX4 hown hK hP (dwM hI hA ..) hS 0 rfl rfl 5 (by decide) hlink (fun _ h9 => h9) rfl (by decide +kernel) rfl rfl (Nat.le_of_ble_eq_true rfl) hdg (fun H1 locs1 hP1 _ hS1 => kk H1 locs1 hP1 hS1)
theorem gM_0_6 (hx : p.tables.exec = Jvm.exec) (hb : c.code = cc) {index : Nat} (hts : ∀ w ∈ Ts, w.before args s = true) (hin : ∀ w ∈ wsX40, w ∈ Ts) (hown : s.vm.findClass own = some m.cls) (hK : va_K (dC, dI) vwCl [(cI, .int), (cZ, .boolean)] s) (hP : va_P (dC, dI) vwCl (wM cI cZ am sm fe ex gp gc dy n pe gr st dl wo q yc ya yd ys tp fu sh ro th) H) (hlink : (Cond.fieldLink own index "SettlementFundModel" "claims" "I").before args s = true) (hdg : decode cc pc = .ok (.getfield index, 3)) (kk : W p l e R s m args below meth c H locs cells slots Q (F0 m (pc + 3) ls (.int (nI n) :: rest))) : W p l e R s m args below meth c H locs cells slots Q (F0 m pc ls (.ref (am 0) :: rest)) := va_get (D := (dC, dI)) (ci := 4) (v := .int (nI n)) (C := RX4) (T := TX4) (N := 22) hx hb hts hin hown hK hP 0 rfl rfl 6 (by decide) hlink (fun _ h9 => h9) rfl hdg kk
theorem uM_0_6 (hx : p.tables.exec = Jvm.exec) (hb : c.code = cc) {index : Nat} (hts : ∀ w ∈ Ts, w.before args s = true) (hin : ∀ w ∈ wsX40, w ∈ Ts) (hown : s.vm.findClass own = some m.cls) (hK : va_K (dC, dI) vwCl [(cI, .int), (cZ, .boolean)] s) (hP : va_P (dC, dI) vwCl (wM cI cZ am sm fe ex gp gc dy n pe gr st dl wo q yc ya yd ys tp fu sh ro th) H) (hlink : (Cond.fieldLink own index "SettlementFundModel" "claims" "I").before args s = true) (hI : iwM am) (hA : ∀ x, awM am x → A0 x) (hS : va_S A0 H0 H locs) {x : Nat} (hdg : decode cc pc = .ok (.putfield index, 3)) (kk : ∀ (H1 : Heap) (locs1 : List Loc), va_P (dC, dI) vwCl (wM cI cZ am sm fe ex gp gc dy x pe gr st dl wo q yc ya yd ys tp fu sh ro th) H1 → va_S A0 H0 H1 locs1 → W p l e R s m args below meth c H1 locs1 cells slots Q (F0 m (pc + 3) ls rest)) : W p l e R s m args below meth c H locs cells slots Q (F0 m pc ls (.int (nI x) :: .ref (am 0) :: rest)) := va_put (D := (dC, dI)) (ci := 4) (v := .int (nI x)) (ty := .int) (C := RX4) (T := TX4) (N := 22) hx hb hts hin tyX4 tyX4_ok nmX4 hown hK hP (dwM hI hA ..) hS 0 rfl rfl 6 (by decide) hlink (fun _ h9 => h9) rfl (by decide +kernel) rfl rfl (Nat.le_of_ble_eq_true rfl) hdg (fun H1 locs1 hP1 _ hS1 => kk H1 locs1 hP1 hS1)
theorem gM_0_7 (hx : p.tables.exec = Jvm.exec) (hb : c.code = cc) {index : Nat} (hts : ∀ w ∈ Ts, w.before args s = true) (hin : ∀ w ∈ wsX40, w ∈ Ts) (hown : s.vm.findClass own = some m.cls) (hK : va_K (dC, dI) vwCl [(cI, .int), (cZ, .boolean)] s) (hP : va_P (dC, dI) vwCl (wM cI cZ am sm fe ex gp gc dy n pe gr st dl wo q yc ya yd ys tp fu sh ro th) H) (hlink : (Cond.fieldLink own index "SettlementFundModel" "persons" "[I").before args s = true) (hdg : decode cc pc = .ok (.getfield index, 3)) (kk : W p l e R s m args below meth c H locs cells slots Q (F0 m (pc + 3) ls (.ref (am 3) :: rest))) : W p l e R s m args below meth c H locs cells slots Q (F0 m pc ls (.ref (am 0) :: rest)) := va_get (D := (dC, dI)) (ci := 4) (v := .ref (am 3)) (C := RX4) (T := TX4) (N := 22) hx hb hts hin hown hK hP 0 rfl rfl 7 (by decide) hlink (fun _ h9 => h9) rfl hdg kk
theorem gM_0_8 (hx : p.tables.exec = Jvm.exec) (hb : c.code = cc) {index : Nat} (hts : ∀ w ∈ Ts, w.before args s = true) (hin : ∀ w ∈ wsX40, w ∈ Ts) (hown : s.vm.findClass own = some m.cls) (hK : va_K (dC, dI) vwCl [(cI, .int), (cZ, .boolean)] s) (hP : va_P (dC, dI) vwCl (wM cI cZ am sm fe ex gp gc dy n pe gr st dl wo q yc ya yd ys tp fu sh ro th) H) (hlink : (Cond.fieldLink own index "SettlementFundModel" "grades" "[I").before args s = true) (hdg : decode cc pc = .ok (.getfield index, 3)) (kk : W p l e R s m args below meth c H locs cells slots Q (F0 m (pc + 3) ls (.ref (am 4) :: rest))) : W p l e R s m args below meth c H locs cells slots Q (F0 m pc ls (.ref (am 0) :: rest)) := va_get (D := (dC, dI)) (ci := 4) (v := .ref (am 4)) (C := RX4) (T := TX4) (N := 22) hx hb hts hin hown hK hP 0 rfl rfl 8 (by decide) hlink (fun _ h9 => h9) rfl hdg kk
theorem gM_0_9 (hx : p.tables.exec = Jvm.exec) (hb : c.code = cc) {index : Nat} (hts : ∀ w ∈ Ts, w.before args s = true) (hin : ∀ w ∈ wsX40, w ∈ Ts) (hown : s.vm.findClass own = some m.cls) (hK : va_K (dC, dI) vwCl [(cI, .int), (cZ, .boolean)] s) (hP : va_P (dC, dI) vwCl (wM cI cZ am sm fe ex gp gc dy n pe gr st dl wo q yc ya yd ys tp fu sh ro th) H) (hlink : (Cond.fieldLink own index "SettlementFundModel" "states" "[I").before args s = true) (hdg : decode cc pc = .ok (.getfield index, 3)) (kk : W p l e R s m args below meth c H locs cells slots Q (F0 m (pc + 3) ls (.ref (am 5) :: rest))) : W p l e R s m args below meth c H locs cells slots Q (F0 m pc ls (.ref (am 0) :: rest)) := va_get (D := (dC, dI)) (ci := 4) (v := .ref (am 5)) (C := RX4) (T := TX4) (N := 22) hx hb hts hin hown hK hP 0 rfl rfl 9 (by decide) hlink (fun _ h9 => h9) rfl hdg kk
theorem gM_0_10 (hx : p.tables.exec = Jvm.exec) (hb : c.code = cc) {index : Nat} (hts : ∀ w ∈ Ts, w.before args s = true) (hin : ∀ w ∈ wsX40, w ∈ Ts) (hown : s.vm.findClass own = some m.cls) (hK : va_K (dC, dI) vwCl [(cI, .int), (cZ, .boolean)] s) (hP : va_P (dC, dI) vwCl (wM cI cZ am sm fe ex gp gc dy n pe gr st dl wo q yc ya yd ys tp fu sh ro th) H) (hlink : (Cond.fieldLink own index "SettlementFundModel" "deadlines" "[I").before args s = true) (hdg : decode cc pc = .ok (.getfield index, 3)) (kk : W p l e R s m args below meth c H locs cells slots Q (F0 m (pc + 3) ls (.ref (am 6) :: rest))) : W p l e R s m args below meth c H locs cells slots Q (F0 m pc ls (.ref (am 0) :: rest)) := va_get (D := (dC, dI)) (ci := 4) (v := .ref (am 6)) (C := RX4) (T := TX4) (N := 22) hx hb hts hin hown hK hP 0 rfl rfl 10 (by decide) hlink (fun _ h9 => h9) rfl hdg kk
theorem gM_0_11 (hx : p.tables.exec = Jvm.exec) (hb : c.code = cc) {index : Nat} (hts : ∀ w ∈ Ts, w.before args s = true) (hin : ∀ w ∈ wsX40, w ∈ Ts) (hown : s.vm.findClass own = some m.cls) (hK : va_K (dC, dI) vwCl [(cI, .int), (cZ, .boolean)] s) (hP : va_P (dC, dI) vwCl (wM cI cZ am sm fe ex gp gc dy n pe gr st dl wo q yc ya yd ys tp fu sh ro th) H) (hlink : (Cond.fieldLink own index "SettlementFundModel" "wasObjected" "[Z").before args s = true) (hdg : decode cc pc = .ok (.getfield index, 3)) (kk : W p l e R s m args below meth c H locs cells slots Q (F0 m (pc + 3) ls (.ref (am 7) :: rest))) : W p l e R s m args below meth c H locs cells slots Q (F0 m pc ls (.ref (am 0) :: rest)) := va_get (D := (dC, dI)) (ci := 4) (v := .ref (am 7)) (C := RX4) (T := TX4) (N := 22) hx hb hts hin hown hK hP 0 rfl rfl 11 (by decide) hlink (fun _ h9 => h9) rfl hdg kk
theorem gM_0_12 (hx : p.tables.exec = Jvm.exec) (hb : c.code = cc) {index : Nat} (hts : ∀ w ∈ Ts, w.before args s = true) (hin : ∀ w ∈ wsX40, w ∈ Ts) (hown : s.vm.findClass own = some m.cls) (hK : va_K (dC, dI) vwCl [(cI, .int), (cZ, .boolean)] s) (hP : va_P (dC, dI) vwCl (wM cI cZ am sm fe ex gp gc dy n pe gr st dl wo q yc ya yd ys tp fu sh ro th) H) (hlink : (Cond.fieldLink own index "SettlementFundModel" "payments" "I").before args s = true) (hdg : decode cc pc = .ok (.getfield index, 3)) (kk : W p l e R s m args below meth c H locs cells slots Q (F0 m (pc + 3) ls (.int (nI q) :: rest))) : W p l e R s m args below meth c H locs cells slots Q (F0 m pc ls (.ref (am 0) :: rest)) := va_get (D := (dC, dI)) (ci := 4) (v := .int (nI q)) (C := RX4) (T := TX4) (N := 22) hx hb hts hin hown hK hP 0 rfl rfl 12 (by decide) hlink (fun _ h9 => h9) rfl hdg kk
theorem uM_0_12 (hx : p.tables.exec = Jvm.exec) (hb : c.code = cc) {index : Nat} (hts : ∀ w ∈ Ts, w.before args s = true) (hin : ∀ w ∈ wsX40, w ∈ Ts) (hown : s.vm.findClass own = some m.cls) (hK : va_K (dC, dI) vwCl [(cI, .int), (cZ, .boolean)] s) (hP : va_P (dC, dI) vwCl (wM cI cZ am sm fe ex gp gc dy n pe gr st dl wo q yc ya yd ys tp fu sh ro th) H) (hlink : (Cond.fieldLink own index "SettlementFundModel" "payments" "I").before args s = true) (hI : iwM am) (hA : ∀ x, awM am x → A0 x) (hS : va_S A0 H0 H locs) {x : Nat} (hdg : decode cc pc = .ok (.putfield index, 3)) (kk : ∀ (H1 : Heap) (locs1 : List Loc), va_P (dC, dI) vwCl (wM cI cZ am sm fe ex gp gc dy n pe gr st dl wo x yc ya yd ys tp fu sh ro th) H1 → va_S A0 H0 H1 locs1 → W p l e R s m args below meth c H1 locs1 cells slots Q (F0 m (pc + 3) ls rest)) : W p l e R s m args below meth c H locs cells slots Q (F0 m pc ls (.int (nI x) :: .ref (am 0) :: rest)) := va_put (D := (dC, dI)) (ci := 4) (v := .int (nI x)) (ty := .int) (C := RX4) (T := TX4) (N := 22) hx hb hts hin tyX4 tyX4_ok nmX4 hown hK hP (dwM hI hA ..) hS 0 rfl rfl 12 (by decide) hlink (fun _ h9 => h9) rfl (by decide +kernel) rfl rfl (Nat.le_of_ble_eq_true rfl) hdg (fun H1 locs1 hP1 _ hS1 => kk H1 locs1 hP1 hS1)
theorem gM_0_13 (hx : p.tables.exec = Jvm.exec) (hb : c.code = cc) {index : Nat} (hts : ∀ w ∈ Ts, w.before args s = true) (hin : ∀ w ∈ wsX40, w ∈ Ts) (hown : s.vm.findClass own = some m.cls) (hK : va_K (dC, dI) vwCl [(cI, .int), (cZ, .boolean)] s) (hP : va_P (dC, dI) vwCl (wM cI cZ am sm fe ex gp gc dy n pe gr st dl wo q yc ya yd ys tp fu sh ro th) H) (hlink : (Cond.fieldLink own index "SettlementFundModel" "paidTo" "[I").before args s = true) (hdg : decode cc pc = .ok (.getfield index, 3)) (kk : W p l e R s m args below meth c H locs cells slots Q (F0 m (pc + 3) ls (.ref (am 8) :: rest))) : W p l e R s m args below meth c H locs cells slots Q (F0 m pc ls (.ref (am 0) :: rest)) := va_get (D := (dC, dI)) (ci := 4) (v := .ref (am 8)) (C := RX4) (T := TX4) (N := 22) hx hb hts hin hown hK hP 0 rfl rfl 13 (by decide) hlink (fun _ h9 => h9) rfl hdg kk
theorem gM_0_14 (hx : p.tables.exec = Jvm.exec) (hb : c.code = cc) {index : Nat} (hts : ∀ w ∈ Ts, w.before args s = true) (hin : ∀ w ∈ wsX40, w ∈ Ts) (hown : s.vm.findClass own = some m.cls) (hK : va_K (dC, dI) vwCl [(cI, .int), (cZ, .boolean)] s) (hP : va_P (dC, dI) vwCl (wM cI cZ am sm fe ex gp gc dy n pe gr st dl wo q yc ya yd ys tp fu sh ro th) H) (hlink : (Cond.fieldLink own index "SettlementFundModel" "amounts" "[I").before args s = true) (hdg : decode cc pc = .ok (.getfield index, 3)) (kk : W p l e R s m args below meth c H locs cells slots Q (F0 m (pc + 3) ls (.ref (am 9) :: rest))) : W p l e R s m args below meth c H locs cells slots Q (F0 m pc ls (.ref (am 0) :: rest)) := va_get (D := (dC, dI)) (ci := 4) (v := .ref (am 9)) (C := RX4) (T := TX4) (N := 22) hx hb hts hin hown hK hP 0 rfl rfl 14 (by decide) hlink (fun _ h9 => h9) rfl hdg kk
theorem gM_0_15 (hx : p.tables.exec = Jvm.exec) (hb : c.code = cc) {index : Nat} (hts : ∀ w ∈ Ts, w.before args s = true) (hin : ∀ w ∈ wsX40, w ∈ Ts) (hown : s.vm.findClass own = some m.cls) (hK : va_K (dC, dI) vwCl [(cI, .int), (cZ, .boolean)] s) (hP : va_P (dC, dI) vwCl (wM cI cZ am sm fe ex gp gc dy n pe gr st dl wo q yc ya yd ys tp fu sh ro th) H) (hlink : (Cond.fieldLink own index "SettlementFundModel" "madeOn" "[I").before args s = true) (hdg : decode cc pc = .ok (.getfield index, 3)) (kk : W p l e R s m args below meth c H locs cells slots Q (F0 m (pc + 3) ls (.ref (am 10) :: rest))) : W p l e R s m args below meth c H locs cells slots Q (F0 m pc ls (.ref (am 0) :: rest)) := va_get (D := (dC, dI)) (ci := 4) (v := .ref (am 10)) (C := RX4) (T := TX4) (N := 22) hx hb hts hin hown hK hP 0 rfl rfl 15 (by decide) hlink (fun _ h9 => h9) rfl hdg kk
theorem gM_0_16 (hx : p.tables.exec = Jvm.exec) (hb : c.code = cc) {index : Nat} (hts : ∀ w ∈ Ts, w.before args s = true) (hin : ∀ w ∈ wsX40, w ∈ Ts) (hown : s.vm.findClass own = some m.cls) (hK : va_K (dC, dI) vwCl [(cI, .int), (cZ, .boolean)] s) (hP : va_P (dC, dI) vwCl (wM cI cZ am sm fe ex gp gc dy n pe gr st dl wo q yc ya yd ys tp fu sh ro th) H) (hlink : (Cond.fieldLink own index "SettlementFundModel" "paymentStates" "[I").before args s = true) (hdg : decode cc pc = .ok (.getfield index, 3)) (kk : W p l e R s m args below meth c H locs cells slots Q (F0 m (pc + 3) ls (.ref (am 11) :: rest))) : W p l e R s m args below meth c H locs cells slots Q (F0 m pc ls (.ref (am 0) :: rest)) := va_get (D := (dC, dI)) (ci := 4) (v := .ref (am 11)) (C := RX4) (T := TX4) (N := 22) hx hb hts hin hown hK hP 0 rfl rfl 16 (by decide) hlink (fun _ h9 => h9) rfl hdg kk
theorem gM_0_17 (hx : p.tables.exec = Jvm.exec) (hb : c.code = cc) {index : Nat} (hts : ∀ w ∈ Ts, w.before args s = true) (hin : ∀ w ∈ wsX40, w ∈ Ts) (hown : s.vm.findClass own = some m.cls) (hK : va_K (dC, dI) vwCl [(cI, .int), (cZ, .boolean)] s) (hP : va_P (dC, dI) vwCl (wM cI cZ am sm fe ex gp gc dy n pe gr st dl wo q yc ya yd ys tp fu sh ro th) H) (hlink : (Cond.fieldLink own index "SettlementFundModel" "takesPart" "[Z").before args s = true) (hdg : decode cc pc = .ok (.getfield index, 3)) (kk : W p l e R s m args below meth c H locs cells slots Q (F0 m (pc + 3) ls (.ref (am 12) :: rest))) : W p l e R s m args below meth c H locs cells slots Q (F0 m pc ls (.ref (am 0) :: rest)) := va_get (D := (dC, dI)) (ci := 4) (v := .ref (am 12)) (C := RX4) (T := TX4) (N := 22) hx hb hts hin hown hK hP 0 rfl rfl 17 (by decide) hlink (fun _ h9 => h9) rfl hdg kk
theorem gM_0_18 (hx : p.tables.exec = Jvm.exec) (hb : c.code = cc) {index : Nat} (hts : ∀ w ∈ Ts, w.before args s = true) (hin : ∀ w ∈ wsX40, w ∈ Ts) (hown : s.vm.findClass own = some m.cls) (hK : va_K (dC, dI) vwCl [(cI, .int), (cZ, .boolean)] s) (hP : va_P (dC, dI) vwCl (wM cI cZ am sm fe ex gp gc dy n pe gr st dl wo q yc ya yd ys tp fu sh ro th) H) (hlink : (Cond.fieldLink own index "SettlementFundModel" "isFull" "[Z").before args s = true) (hdg : decode cc pc = .ok (.getfield index, 3)) (kk : W p l e R s m args below meth c H locs cells slots Q (F0 m (pc + 3) ls (.ref (am 13) :: rest))) : W p l e R s m args below meth c H locs cells slots Q (F0 m pc ls (.ref (am 0) :: rest)) := va_get (D := (dC, dI)) (ci := 4) (v := .ref (am 13)) (C := RX4) (T := TX4) (N := 22) hx hb hts hin hown hK hP 0 rfl rfl 18 (by decide) hlink (fun _ h9 => h9) rfl hdg kk
theorem gM_0_19 (hx : p.tables.exec = Jvm.exec) (hb : c.code = cc) {index : Nat} (hts : ∀ w ∈ Ts, w.before args s = true) (hin : ∀ w ∈ wsX40, w ∈ Ts) (hown : s.vm.findClass own = some m.cls) (hK : va_K (dC, dI) vwCl [(cI, .int), (cZ, .boolean)] s) (hP : va_P (dC, dI) vwCl (wM cI cZ am sm fe ex gp gc dy n pe gr st dl wo q yc ya yd ys tp fu sh ro th) H) (hlink : (Cond.fieldLink own index "SettlementFundModel" "shares" "[I").before args s = true) (hdg : decode cc pc = .ok (.getfield index, 3)) (kk : W p l e R s m args below meth c H locs cells slots Q (F0 m (pc + 3) ls (.ref (am 14) :: rest))) : W p l e R s m args below meth c H locs cells slots Q (F0 m pc ls (.ref (am 0) :: rest)) := va_get (D := (dC, dI)) (ci := 4) (v := .ref (am 14)) (C := RX4) (T := TX4) (N := 22) hx hb hts hin hown hK hP 0 rfl rfl 19 (by decide) hlink (fun _ h9 => h9) rfl hdg kk
theorem gM_0_20 (hx : p.tables.exec = Jvm.exec) (hb : c.code = cc) {index : Nat} (hts : ∀ w ∈ Ts, w.before args s = true) (hin : ∀ w ∈ wsX40, w ∈ Ts) (hown : s.vm.findClass own = some m.cls) (hK : va_K (dC, dI) vwCl [(cI, .int), (cZ, .boolean)] s) (hP : va_P (dC, dI) vwCl (wM cI cZ am sm fe ex gp gc dy n pe gr st dl wo q yc ya yd ys tp fu sh ro th) H) (hlink : (Cond.fieldLink own index "SettlementFundModel" "rooms" "[I").before args s = true) (hdg : decode cc pc = .ok (.getfield index, 3)) (kk : W p l e R s m args below meth c H locs cells slots Q (F0 m (pc + 3) ls (.ref (am 15) :: rest))) : W p l e R s m args below meth c H locs cells slots Q (F0 m pc ls (.ref (am 0) :: rest)) := va_get (D := (dC, dI)) (ci := 4) (v := .ref (am 15)) (C := RX4) (T := TX4) (N := 22) hx hb hts hin hown hK hP 0 rfl rfl 20 (by decide) hlink (fun _ h9 => h9) rfl hdg kk
theorem gM_0_21 (hx : p.tables.exec = Jvm.exec) (hb : c.code = cc) {index : Nat} (hts : ∀ w ∈ Ts, w.before args s = true) (hin : ∀ w ∈ wsX40, w ∈ Ts) (hown : s.vm.findClass own = some m.cls) (hK : va_K (dC, dI) vwCl [(cI, .int), (cZ, .boolean)] s) (hP : va_P (dC, dI) vwCl (wM cI cZ am sm fe ex gp gc dy n pe gr st dl wo q yc ya yd ys tp fu sh ro th) H) (hlink : (Cond.fieldLink own index "SettlementFundModel" "thrown" "I").before args s = true) (hdg : decode cc pc = .ok (.getfield index, 3)) (kk : W p l e R s m args below meth c H locs cells slots Q (F0 m (pc + 3) ls (.int th :: rest))) : W p l e R s m args below meth c H locs cells slots Q (F0 m pc ls (.ref (am 0) :: rest)) := va_get (D := (dC, dI)) (ci := 4) (v := .int th) (C := RX4) (T := TX4) (N := 22) hx hb hts hin hown hK hP 0 rfl rfl 21 (by decide) hlink (fun _ h9 => h9) rfl hdg kk
theorem uM_0_21 (hx : p.tables.exec = Jvm.exec) (hb : c.code = cc) {index : Nat} (hts : ∀ w ∈ Ts, w.before args s = true) (hin : ∀ w ∈ wsX40, w ∈ Ts) (hown : s.vm.findClass own = some m.cls) (hK : va_K (dC, dI) vwCl [(cI, .int), (cZ, .boolean)] s) (hP : va_P (dC, dI) vwCl (wM cI cZ am sm fe ex gp gc dy n pe gr st dl wo q yc ya yd ys tp fu sh ro th) H) (hlink : (Cond.fieldLink own index "SettlementFundModel" "thrown" "I").before args s = true) (hI : iwM am) (hA : ∀ x, awM am x → A0 x) (hS : va_S A0 H0 H locs) {x : Int32} (hdg : decode cc pc = .ok (.putfield index, 3)) (kk : ∀ (H1 : Heap) (locs1 : List Loc), va_P (dC, dI) vwCl (wM cI cZ am sm fe ex gp gc dy n pe gr st dl wo q yc ya yd ys tp fu sh ro x) H1 → va_S A0 H0 H1 locs1 → W p l e R s m args below meth c H1 locs1 cells slots Q (F0 m (pc + 3) ls rest)) : W p l e R s m args below meth c H locs cells slots Q (F0 m pc ls (.int x :: .ref (am 0) :: rest)) := va_put (D := (dC, dI)) (ci := 4) (v := .int x) (ty := .int) (C := RX4) (T := TX4) (N := 22) hx hb hts hin tyX4 tyX4_ok nmX4 hown hK hP (dwM hI hA ..) hS 0 rfl rfl 21 (by decide) hlink (fun _ h9 => h9) rfl (by decide +kernel) rfl rfl (Nat.le_of_ble_eq_true rfl) hdg (fun H1 locs1 hP1 _ hS1 => kk H1 locs1 hP1 hS1)
theorem lM_1 (hx : p.tables.exec = Jvm.exec) (hb : c.code = cc) (hK : va_K (dC, dI) vwCl [(cI, .int), (cZ, .boolean)] s) (hP : va_P (dC, dI) vwCl (wM cI cZ am sm fe ex gp gc dy n pe gr st dl wo q yc ya yd ys tp fu sh ro th) H) {k : Nat} (hk : k < 5) (hdg : decode cc pc = .ok (.iaload, 1)) (kk : W p l e R s m args below meth c H locs cells slots Q (F0 m (pc + 1) ls (.int (gp k) :: rest))) : W p l e R s m args below meth c H locs cells slots Q (F0 m pc ls (.int (nI k) :: .ref (am 1) :: rest)) := by
  refine va_iald hx hb hK hP 1 0 rfl rfl (vp_in_nI hk (by decide)) hdg ?_
  rw [nI_clamp (Nat.lt_trans hk (by decide))]; exact kk
theorem sM_1 (hx : p.tables.exec = Jvm.exec) (hb : c.code = cc) (hK : va_K (dC, dI) vwCl [(cI, .int), (cZ, .boolean)] s) (hP : va_P (dC, dI) vwCl (wM cI cZ am sm fe ex gp gc dy n pe gr st dl wo q yc ya yd ys tp fu sh ro th) H) (hI : iwM am) (hA : ∀ x, awM am x → A0 x) (hS : va_S A0 H0 H locs) {k : Nat} (hk : k < 5) {x : Int32} (hdg : decode cc pc = .ok (.iastore, 1)) (kk : ∀ (H1 : Heap) (locs1 : List Loc), va_P (dC, dI) vwCl (wM cI cZ am sm fe ex (upd gp k x) gc dy n pe gr st dl wo q yc ya yd ys tp fu sh ro th) H1 → va_S A0 H0 H1 locs1 → W p l e R s m args below meth c H1 locs1 cells slots Q (F0 m (pc + 1) ls rest)) : W p l e R s m args below meth c H locs cells slots Q (F0 m pc ls (.int x :: .int (nI k) :: .ref (am 1) :: rest)) := by
  refine va_iast hx hb hK hP (dwM hI hA ..) hS 1 0 rfl rfl (vp_in_nI hk (by decide)) hdg (fun H1 locs1 hP1 _ hS1 => kk H1 locs1 ?_ hS1)
  rw [ nI_clamp (Nat.lt_trans hk (by decide))] at hP1; exact hP1
theorem lM_2 (hx : p.tables.exec = Jvm.exec) (hb : c.code = cc) (hK : va_K (dC, dI) vwCl [(cI, .int), (cZ, .boolean)] s) (hP : va_P (dC, dI) vwCl (wM cI cZ am sm fe ex gp gc dy n pe gr st dl wo q yc ya yd ys tp fu sh ro th) H) {k : Nat} (hk : k < 5) (hdg : decode cc pc = .ok (.iaload, 1)) (kk : W p l e R s m args below meth c H locs cells slots Q (F0 m (pc + 1) ls (.int (gc k) :: rest))) : W p l e R s m args below meth c H locs cells slots Q (F0 m pc ls (.int (nI k) :: .ref (am 2) :: rest)) := by
  refine va_iald hx hb hK hP 2 0 rfl rfl (vp_in_nI hk (by decide)) hdg ?_
  rw [nI_clamp (Nat.lt_trans hk (by decide))]; exact kk
theorem sM_2 (hx : p.tables.exec = Jvm.exec) (hb : c.code = cc) (hK : va_K (dC, dI) vwCl [(cI, .int), (cZ, .boolean)] s) (hP : va_P (dC, dI) vwCl (wM cI cZ am sm fe ex gp gc dy n pe gr st dl wo q yc ya yd ys tp fu sh ro th) H) (hI : iwM am) (hA : ∀ x, awM am x → A0 x) (hS : va_S A0 H0 H locs) {k : Nat} (hk : k < 5) {x : Int32} (hdg : decode cc pc = .ok (.iastore, 1)) (kk : ∀ (H1 : Heap) (locs1 : List Loc), va_P (dC, dI) vwCl (wM cI cZ am sm fe ex gp (upd gc k x) dy n pe gr st dl wo q yc ya yd ys tp fu sh ro th) H1 → va_S A0 H0 H1 locs1 → W p l e R s m args below meth c H1 locs1 cells slots Q (F0 m (pc + 1) ls rest)) : W p l e R s m args below meth c H locs cells slots Q (F0 m pc ls (.int x :: .int (nI k) :: .ref (am 2) :: rest)) := by
  refine va_iast hx hb hK hP (dwM hI hA ..) hS 2 0 rfl rfl (vp_in_nI hk (by decide)) hdg (fun H1 locs1 hP1 _ hS1 => kk H1 locs1 ?_ hS1)
  rw [ nI_clamp (Nat.lt_trans hk (by decide))] at hP1; exact hP1
theorem lM_3 (hx : p.tables.exec = Jvm.exec) (hb : c.code = cc) (hK : va_K (dC, dI) vwCl [(cI, .int), (cZ, .boolean)] s) (hP : va_P (dC, dI) vwCl (wM cI cZ am sm fe ex gp gc dy n pe gr st dl wo q yc ya yd ys tp fu sh ro th) H) {k : Nat} (hk : k < 24) (hdg : decode cc pc = .ok (.iaload, 1)) (kk : W p l e R s m args below meth c H locs cells slots Q (F0 m (pc + 1) ls (.int (pe k) :: rest))) : W p l e R s m args below meth c H locs cells slots Q (F0 m pc ls (.int (nI k) :: .ref (am 3) :: rest)) := by
  refine va_iald hx hb hK hP 3 0 rfl rfl (vp_in_nI hk (by decide)) hdg ?_
  rw [nI_clamp (Nat.lt_trans hk (by decide))]; exact kk
theorem sM_3 (hx : p.tables.exec = Jvm.exec) (hb : c.code = cc) (hK : va_K (dC, dI) vwCl [(cI, .int), (cZ, .boolean)] s) (hP : va_P (dC, dI) vwCl (wM cI cZ am sm fe ex gp gc dy n pe gr st dl wo q yc ya yd ys tp fu sh ro th) H) (hI : iwM am) (hA : ∀ x, awM am x → A0 x) (hS : va_S A0 H0 H locs) {k : Nat} (hk : k < 24) {x : Int32} (hdg : decode cc pc = .ok (.iastore, 1)) (kk : ∀ (H1 : Heap) (locs1 : List Loc), va_P (dC, dI) vwCl (wM cI cZ am sm fe ex gp gc dy n (upd pe k x) gr st dl wo q yc ya yd ys tp fu sh ro th) H1 → va_S A0 H0 H1 locs1 → W p l e R s m args below meth c H1 locs1 cells slots Q (F0 m (pc + 1) ls rest)) : W p l e R s m args below meth c H locs cells slots Q (F0 m pc ls (.int x :: .int (nI k) :: .ref (am 3) :: rest)) := by
  refine va_iast hx hb hK hP (dwM hI hA ..) hS 3 0 rfl rfl (vp_in_nI hk (by decide)) hdg (fun H1 locs1 hP1 _ hS1 => kk H1 locs1 ?_ hS1)
  rw [ nI_clamp (Nat.lt_trans hk (by decide))] at hP1; exact hP1
theorem lM_4 (hx : p.tables.exec = Jvm.exec) (hb : c.code = cc) (hK : va_K (dC, dI) vwCl [(cI, .int), (cZ, .boolean)] s) (hP : va_P (dC, dI) vwCl (wM cI cZ am sm fe ex gp gc dy n pe gr st dl wo q yc ya yd ys tp fu sh ro th) H) {k : Nat} (hk : k < 24) (hdg : decode cc pc = .ok (.iaload, 1)) (kk : W p l e R s m args below meth c H locs cells slots Q (F0 m (pc + 1) ls (.int (gr k) :: rest))) : W p l e R s m args below meth c H locs cells slots Q (F0 m pc ls (.int (nI k) :: .ref (am 4) :: rest)) := by
  refine va_iald hx hb hK hP 4 0 rfl rfl (vp_in_nI hk (by decide)) hdg ?_
  rw [nI_clamp (Nat.lt_trans hk (by decide))]; exact kk
theorem sM_4 (hx : p.tables.exec = Jvm.exec) (hb : c.code = cc) (hK : va_K (dC, dI) vwCl [(cI, .int), (cZ, .boolean)] s) (hP : va_P (dC, dI) vwCl (wM cI cZ am sm fe ex gp gc dy n pe gr st dl wo q yc ya yd ys tp fu sh ro th) H) (hI : iwM am) (hA : ∀ x, awM am x → A0 x) (hS : va_S A0 H0 H locs) {k : Nat} (hk : k < 24) {x : Int32} (hdg : decode cc pc = .ok (.iastore, 1)) (kk : ∀ (H1 : Heap) (locs1 : List Loc), va_P (dC, dI) vwCl (wM cI cZ am sm fe ex gp gc dy n pe (upd gr k x) st dl wo q yc ya yd ys tp fu sh ro th) H1 → va_S A0 H0 H1 locs1 → W p l e R s m args below meth c H1 locs1 cells slots Q (F0 m (pc + 1) ls rest)) : W p l e R s m args below meth c H locs cells slots Q (F0 m pc ls (.int x :: .int (nI k) :: .ref (am 4) :: rest)) := by
  refine va_iast hx hb hK hP (dwM hI hA ..) hS 4 0 rfl rfl (vp_in_nI hk (by decide)) hdg (fun H1 locs1 hP1 _ hS1 => kk H1 locs1 ?_ hS1)
  rw [ nI_clamp (Nat.lt_trans hk (by decide))] at hP1; exact hP1
theorem lM_5 (hx : p.tables.exec = Jvm.exec) (hb : c.code = cc) (hK : va_K (dC, dI) vwCl [(cI, .int), (cZ, .boolean)] s) (hP : va_P (dC, dI) vwCl (wM cI cZ am sm fe ex gp gc dy n pe gr st dl wo q yc ya yd ys tp fu sh ro th) H) {k : Nat} (hk : k < 24) (hdg : decode cc pc = .ok (.iaload, 1)) (kk : W p l e R s m args below meth c H locs cells slots Q (F0 m (pc + 1) ls (.int (st k) :: rest))) : W p l e R s m args below meth c H locs cells slots Q (F0 m pc ls (.int (nI k) :: .ref (am 5) :: rest)) := by
  refine va_iald hx hb hK hP 5 0 rfl rfl (vp_in_nI hk (by decide)) hdg ?_
  rw [nI_clamp (Nat.lt_trans hk (by decide))]; exact kk
theorem sM_5 (hx : p.tables.exec = Jvm.exec) (hb : c.code = cc) (hK : va_K (dC, dI) vwCl [(cI, .int), (cZ, .boolean)] s) (hP : va_P (dC, dI) vwCl (wM cI cZ am sm fe ex gp gc dy n pe gr st dl wo q yc ya yd ys tp fu sh ro th) H) (hI : iwM am) (hA : ∀ x, awM am x → A0 x) (hS : va_S A0 H0 H locs) {k : Nat} (hk : k < 24) {x : Int32} (hdg : decode cc pc = .ok (.iastore, 1)) (kk : ∀ (H1 : Heap) (locs1 : List Loc), va_P (dC, dI) vwCl (wM cI cZ am sm fe ex gp gc dy n pe gr (upd st k x) dl wo q yc ya yd ys tp fu sh ro th) H1 → va_S A0 H0 H1 locs1 → W p l e R s m args below meth c H1 locs1 cells slots Q (F0 m (pc + 1) ls rest)) : W p l e R s m args below meth c H locs cells slots Q (F0 m pc ls (.int x :: .int (nI k) :: .ref (am 5) :: rest)) := by
  refine va_iast hx hb hK hP (dwM hI hA ..) hS 5 0 rfl rfl (vp_in_nI hk (by decide)) hdg (fun H1 locs1 hP1 _ hS1 => kk H1 locs1 ?_ hS1)
  rw [ nI_clamp (Nat.lt_trans hk (by decide))] at hP1; exact hP1
theorem lM_6 (hx : p.tables.exec = Jvm.exec) (hb : c.code = cc) (hK : va_K (dC, dI) vwCl [(cI, .int), (cZ, .boolean)] s) (hP : va_P (dC, dI) vwCl (wM cI cZ am sm fe ex gp gc dy n pe gr st dl wo q yc ya yd ys tp fu sh ro th) H) {k : Nat} (hk : k < 24) (hdg : decode cc pc = .ok (.iaload, 1)) (kk : W p l e R s m args below meth c H locs cells slots Q (F0 m (pc + 1) ls (.int (dl k) :: rest))) : W p l e R s m args below meth c H locs cells slots Q (F0 m pc ls (.int (nI k) :: .ref (am 6) :: rest)) := by
  refine va_iald hx hb hK hP 6 0 rfl rfl (vp_in_nI hk (by decide)) hdg ?_
  rw [nI_clamp (Nat.lt_trans hk (by decide))]; exact kk
theorem sM_6 (hx : p.tables.exec = Jvm.exec) (hb : c.code = cc) (hK : va_K (dC, dI) vwCl [(cI, .int), (cZ, .boolean)] s) (hP : va_P (dC, dI) vwCl (wM cI cZ am sm fe ex gp gc dy n pe gr st dl wo q yc ya yd ys tp fu sh ro th) H) (hI : iwM am) (hA : ∀ x, awM am x → A0 x) (hS : va_S A0 H0 H locs) {k : Nat} (hk : k < 24) {x : Int32} (hdg : decode cc pc = .ok (.iastore, 1)) (kk : ∀ (H1 : Heap) (locs1 : List Loc), va_P (dC, dI) vwCl (wM cI cZ am sm fe ex gp gc dy n pe gr st (upd dl k x) wo q yc ya yd ys tp fu sh ro th) H1 → va_S A0 H0 H1 locs1 → W p l e R s m args below meth c H1 locs1 cells slots Q (F0 m (pc + 1) ls rest)) : W p l e R s m args below meth c H locs cells slots Q (F0 m pc ls (.int x :: .int (nI k) :: .ref (am 6) :: rest)) := by
  refine va_iast hx hb hK hP (dwM hI hA ..) hS 6 0 rfl rfl (vp_in_nI hk (by decide)) hdg (fun H1 locs1 hP1 _ hS1 => kk H1 locs1 ?_ hS1)
  rw [ nI_clamp (Nat.lt_trans hk (by decide))] at hP1; exact hP1
theorem lM_7 (hx : p.tables.exec = Jvm.exec) (hb : c.code = cc) (hK : va_K (dC, dI) vwCl [(cI, .int), (cZ, .boolean)] s) (hP : va_P (dC, dI) vwCl (wM cI cZ am sm fe ex gp gc dy n pe gr st dl wo q yc ya yd ys tp fu sh ro th) H) {k : Nat} (hk : k < 24) (hdg : decode cc pc = .ok (.baload, 1)) (kk : W p l e R s m args below meth c H locs cells slots Q (F0 m (pc + 1) ls (.int (wo k) :: rest))) : W p l e R s m args below meth c H locs cells slots Q (F0 m pc ls (.int (nI k) :: .ref (am 7) :: rest)) := by
  refine va_zald hx hb hK hP 7 1 rfl rfl (vp_in_nI hk (by decide)) hdg ?_
  rw [nI_clamp (Nat.lt_trans hk (by decide))]; exact kk
theorem sM_7 (hx : p.tables.exec = Jvm.exec) (hb : c.code = cc) (hK : va_K (dC, dI) vwCl [(cI, .int), (cZ, .boolean)] s) (hP : va_P (dC, dI) vwCl (wM cI cZ am sm fe ex gp gc dy n pe gr st dl wo q yc ya yd ys tp fu sh ro th) H) (hI : iwM am) (hA : ∀ x, awM am x → A0 x) (hS : va_S A0 H0 H locs) {k : Nat} (hk : k < 24) {x : Int32} (h01 : vp_nar .boolean x = x) (hdg : decode cc pc = .ok (.bastore, 1)) (kk : ∀ (H1 : Heap) (locs1 : List Loc), va_P (dC, dI) vwCl (wM cI cZ am sm fe ex gp gc dy n pe gr st dl (upd wo k x) q yc ya yd ys tp fu sh ro th) H1 → va_S A0 H0 H1 locs1 → W p l e R s m args below meth c H1 locs1 cells slots Q (F0 m (pc + 1) ls rest)) : W p l e R s m args below meth c H locs cells slots Q (F0 m pc ls (.int x :: .int (nI k) :: .ref (am 7) :: rest)) := by
  refine va_zast hx hb hK hP (dwM hI hA ..) hS 7 1 rfl rfl (vp_in_nI hk (by decide)) hdg (fun H1 locs1 hP1 _ hS1 => kk H1 locs1 ?_ hS1)
  rw [ h01, nI_clamp (Nat.lt_trans hk (by decide))] at hP1; exact hP1
theorem lM_8 (hx : p.tables.exec = Jvm.exec) (hb : c.code = cc) (hK : va_K (dC, dI) vwCl [(cI, .int), (cZ, .boolean)] s) (hP : va_P (dC, dI) vwCl (wM cI cZ am sm fe ex gp gc dy n pe gr st dl wo q yc ya yd ys tp fu sh ro th) H) {k : Nat} (hk : k < 100) (hdg : decode cc pc = .ok (.iaload, 1)) (kk : W p l e R s m args below meth c H locs cells slots Q (F0 m (pc + 1) ls (.int (yc k) :: rest))) : W p l e R s m args below meth c H locs cells slots Q (F0 m pc ls (.int (nI k) :: .ref (am 8) :: rest)) := by
  refine va_iald hx hb hK hP 8 0 rfl rfl (vp_in_nI hk (by decide)) hdg ?_
  rw [nI_clamp (Nat.lt_trans hk (by decide))]; exact kk
theorem sM_8 (hx : p.tables.exec = Jvm.exec) (hb : c.code = cc) (hK : va_K (dC, dI) vwCl [(cI, .int), (cZ, .boolean)] s) (hP : va_P (dC, dI) vwCl (wM cI cZ am sm fe ex gp gc dy n pe gr st dl wo q yc ya yd ys tp fu sh ro th) H) (hI : iwM am) (hA : ∀ x, awM am x → A0 x) (hS : va_S A0 H0 H locs) {k : Nat} (hk : k < 100) {x : Int32} (hdg : decode cc pc = .ok (.iastore, 1)) (kk : ∀ (H1 : Heap) (locs1 : List Loc), va_P (dC, dI) vwCl (wM cI cZ am sm fe ex gp gc dy n pe gr st dl wo q (upd yc k x) ya yd ys tp fu sh ro th) H1 → va_S A0 H0 H1 locs1 → W p l e R s m args below meth c H1 locs1 cells slots Q (F0 m (pc + 1) ls rest)) : W p l e R s m args below meth c H locs cells slots Q (F0 m pc ls (.int x :: .int (nI k) :: .ref (am 8) :: rest)) := by
  refine va_iast hx hb hK hP (dwM hI hA ..) hS 8 0 rfl rfl (vp_in_nI hk (by decide)) hdg (fun H1 locs1 hP1 _ hS1 => kk H1 locs1 ?_ hS1)
  rw [ nI_clamp (Nat.lt_trans hk (by decide))] at hP1; exact hP1
theorem lM_9 (hx : p.tables.exec = Jvm.exec) (hb : c.code = cc) (hK : va_K (dC, dI) vwCl [(cI, .int), (cZ, .boolean)] s) (hP : va_P (dC, dI) vwCl (wM cI cZ am sm fe ex gp gc dy n pe gr st dl wo q yc ya yd ys tp fu sh ro th) H) {k : Nat} (hk : k < 100) (hdg : decode cc pc = .ok (.iaload, 1)) (kk : W p l e R s m args below meth c H locs cells slots Q (F0 m (pc + 1) ls (.int (ya k) :: rest))) : W p l e R s m args below meth c H locs cells slots Q (F0 m pc ls (.int (nI k) :: .ref (am 9) :: rest)) := by
  refine va_iald hx hb hK hP 9 0 rfl rfl (vp_in_nI hk (by decide)) hdg ?_
  rw [nI_clamp (Nat.lt_trans hk (by decide))]; exact kk
theorem sM_9 (hx : p.tables.exec = Jvm.exec) (hb : c.code = cc) (hK : va_K (dC, dI) vwCl [(cI, .int), (cZ, .boolean)] s) (hP : va_P (dC, dI) vwCl (wM cI cZ am sm fe ex gp gc dy n pe gr st dl wo q yc ya yd ys tp fu sh ro th) H) (hI : iwM am) (hA : ∀ x, awM am x → A0 x) (hS : va_S A0 H0 H locs) {k : Nat} (hk : k < 100) {x : Int32} (hdg : decode cc pc = .ok (.iastore, 1)) (kk : ∀ (H1 : Heap) (locs1 : List Loc), va_P (dC, dI) vwCl (wM cI cZ am sm fe ex gp gc dy n pe gr st dl wo q yc (upd ya k x) yd ys tp fu sh ro th) H1 → va_S A0 H0 H1 locs1 → W p l e R s m args below meth c H1 locs1 cells slots Q (F0 m (pc + 1) ls rest)) : W p l e R s m args below meth c H locs cells slots Q (F0 m pc ls (.int x :: .int (nI k) :: .ref (am 9) :: rest)) := by
  refine va_iast hx hb hK hP (dwM hI hA ..) hS 9 0 rfl rfl (vp_in_nI hk (by decide)) hdg (fun H1 locs1 hP1 _ hS1 => kk H1 locs1 ?_ hS1)
  rw [ nI_clamp (Nat.lt_trans hk (by decide))] at hP1; exact hP1
theorem lM_10 (hx : p.tables.exec = Jvm.exec) (hb : c.code = cc) (hK : va_K (dC, dI) vwCl [(cI, .int), (cZ, .boolean)] s) (hP : va_P (dC, dI) vwCl (wM cI cZ am sm fe ex gp gc dy n pe gr st dl wo q yc ya yd ys tp fu sh ro th) H) {k : Nat} (hk : k < 100) (hdg : decode cc pc = .ok (.iaload, 1)) (kk : W p l e R s m args below meth c H locs cells slots Q (F0 m (pc + 1) ls (.int (yd k) :: rest))) : W p l e R s m args below meth c H locs cells slots Q (F0 m pc ls (.int (nI k) :: .ref (am 10) :: rest)) := by
  refine va_iald hx hb hK hP 10 0 rfl rfl (vp_in_nI hk (by decide)) hdg ?_
  rw [nI_clamp (Nat.lt_trans hk (by decide))]; exact kk
theorem sM_10 (hx : p.tables.exec = Jvm.exec) (hb : c.code = cc) (hK : va_K (dC, dI) vwCl [(cI, .int), (cZ, .boolean)] s) (hP : va_P (dC, dI) vwCl (wM cI cZ am sm fe ex gp gc dy n pe gr st dl wo q yc ya yd ys tp fu sh ro th) H) (hI : iwM am) (hA : ∀ x, awM am x → A0 x) (hS : va_S A0 H0 H locs) {k : Nat} (hk : k < 100) {x : Int32} (hdg : decode cc pc = .ok (.iastore, 1)) (kk : ∀ (H1 : Heap) (locs1 : List Loc), va_P (dC, dI) vwCl (wM cI cZ am sm fe ex gp gc dy n pe gr st dl wo q yc ya (upd yd k x) ys tp fu sh ro th) H1 → va_S A0 H0 H1 locs1 → W p l e R s m args below meth c H1 locs1 cells slots Q (F0 m (pc + 1) ls rest)) : W p l e R s m args below meth c H locs cells slots Q (F0 m pc ls (.int x :: .int (nI k) :: .ref (am 10) :: rest)) := by
  refine va_iast hx hb hK hP (dwM hI hA ..) hS 10 0 rfl rfl (vp_in_nI hk (by decide)) hdg (fun H1 locs1 hP1 _ hS1 => kk H1 locs1 ?_ hS1)
  rw [ nI_clamp (Nat.lt_trans hk (by decide))] at hP1; exact hP1
theorem lM_11 (hx : p.tables.exec = Jvm.exec) (hb : c.code = cc) (hK : va_K (dC, dI) vwCl [(cI, .int), (cZ, .boolean)] s) (hP : va_P (dC, dI) vwCl (wM cI cZ am sm fe ex gp gc dy n pe gr st dl wo q yc ya yd ys tp fu sh ro th) H) {k : Nat} (hk : k < 100) (hdg : decode cc pc = .ok (.iaload, 1)) (kk : W p l e R s m args below meth c H locs cells slots Q (F0 m (pc + 1) ls (.int (ys k) :: rest))) : W p l e R s m args below meth c H locs cells slots Q (F0 m pc ls (.int (nI k) :: .ref (am 11) :: rest)) := by
  refine va_iald hx hb hK hP 11 0 rfl rfl (vp_in_nI hk (by decide)) hdg ?_
  rw [nI_clamp (Nat.lt_trans hk (by decide))]; exact kk
theorem sM_11 (hx : p.tables.exec = Jvm.exec) (hb : c.code = cc) (hK : va_K (dC, dI) vwCl [(cI, .int), (cZ, .boolean)] s) (hP : va_P (dC, dI) vwCl (wM cI cZ am sm fe ex gp gc dy n pe gr st dl wo q yc ya yd ys tp fu sh ro th) H) (hI : iwM am) (hA : ∀ x, awM am x → A0 x) (hS : va_S A0 H0 H locs) {k : Nat} (hk : k < 100) {x : Int32} (hdg : decode cc pc = .ok (.iastore, 1)) (kk : ∀ (H1 : Heap) (locs1 : List Loc), va_P (dC, dI) vwCl (wM cI cZ am sm fe ex gp gc dy n pe gr st dl wo q yc ya yd (upd ys k x) tp fu sh ro th) H1 → va_S A0 H0 H1 locs1 → W p l e R s m args below meth c H1 locs1 cells slots Q (F0 m (pc + 1) ls rest)) : W p l e R s m args below meth c H locs cells slots Q (F0 m pc ls (.int x :: .int (nI k) :: .ref (am 11) :: rest)) := by
  refine va_iast hx hb hK hP (dwM hI hA ..) hS 11 0 rfl rfl (vp_in_nI hk (by decide)) hdg (fun H1 locs1 hP1 _ hS1 => kk H1 locs1 ?_ hS1)
  rw [ nI_clamp (Nat.lt_trans hk (by decide))] at hP1; exact hP1
theorem lM_12 (hx : p.tables.exec = Jvm.exec) (hb : c.code = cc) (hK : va_K (dC, dI) vwCl [(cI, .int), (cZ, .boolean)] s) (hP : va_P (dC, dI) vwCl (wM cI cZ am sm fe ex gp gc dy n pe gr st dl wo q yc ya yd ys tp fu sh ro th) H) {k : Nat} (hk : k < 24) (hdg : decode cc pc = .ok (.baload, 1)) (kk : W p l e R s m args below meth c H locs cells slots Q (F0 m (pc + 1) ls (.int (tp k) :: rest))) : W p l e R s m args below meth c H locs cells slots Q (F0 m pc ls (.int (nI k) :: .ref (am 12) :: rest)) := by
  refine va_zald hx hb hK hP 12 1 rfl rfl (vp_in_nI hk (by decide)) hdg ?_
  rw [nI_clamp (Nat.lt_trans hk (by decide))]; exact kk
theorem sM_12 (hx : p.tables.exec = Jvm.exec) (hb : c.code = cc) (hK : va_K (dC, dI) vwCl [(cI, .int), (cZ, .boolean)] s) (hP : va_P (dC, dI) vwCl (wM cI cZ am sm fe ex gp gc dy n pe gr st dl wo q yc ya yd ys tp fu sh ro th) H) (hI : iwM am) (hA : ∀ x, awM am x → A0 x) (hS : va_S A0 H0 H locs) {k : Nat} (hk : k < 24) {x : Int32} (h01 : vp_nar .boolean x = x) (hdg : decode cc pc = .ok (.bastore, 1)) (kk : ∀ (H1 : Heap) (locs1 : List Loc), va_P (dC, dI) vwCl (wM cI cZ am sm fe ex gp gc dy n pe gr st dl wo q yc ya yd ys (upd tp k x) fu sh ro th) H1 → va_S A0 H0 H1 locs1 → W p l e R s m args below meth c H1 locs1 cells slots Q (F0 m (pc + 1) ls rest)) : W p l e R s m args below meth c H locs cells slots Q (F0 m pc ls (.int x :: .int (nI k) :: .ref (am 12) :: rest)) := by
  refine va_zast hx hb hK hP (dwM hI hA ..) hS 12 1 rfl rfl (vp_in_nI hk (by decide)) hdg (fun H1 locs1 hP1 _ hS1 => kk H1 locs1 ?_ hS1)
  rw [ h01, nI_clamp (Nat.lt_trans hk (by decide))] at hP1; exact hP1
theorem lM_13 (hx : p.tables.exec = Jvm.exec) (hb : c.code = cc) (hK : va_K (dC, dI) vwCl [(cI, .int), (cZ, .boolean)] s) (hP : va_P (dC, dI) vwCl (wM cI cZ am sm fe ex gp gc dy n pe gr st dl wo q yc ya yd ys tp fu sh ro th) H) {k : Nat} (hk : k < 24) (hdg : decode cc pc = .ok (.baload, 1)) (kk : W p l e R s m args below meth c H locs cells slots Q (F0 m (pc + 1) ls (.int (fu k) :: rest))) : W p l e R s m args below meth c H locs cells slots Q (F0 m pc ls (.int (nI k) :: .ref (am 13) :: rest)) := by
  refine va_zald hx hb hK hP 13 1 rfl rfl (vp_in_nI hk (by decide)) hdg ?_
  rw [nI_clamp (Nat.lt_trans hk (by decide))]; exact kk
theorem sM_13 (hx : p.tables.exec = Jvm.exec) (hb : c.code = cc) (hK : va_K (dC, dI) vwCl [(cI, .int), (cZ, .boolean)] s) (hP : va_P (dC, dI) vwCl (wM cI cZ am sm fe ex gp gc dy n pe gr st dl wo q yc ya yd ys tp fu sh ro th) H) (hI : iwM am) (hA : ∀ x, awM am x → A0 x) (hS : va_S A0 H0 H locs) {k : Nat} (hk : k < 24) {x : Int32} (h01 : vp_nar .boolean x = x) (hdg : decode cc pc = .ok (.bastore, 1)) (kk : ∀ (H1 : Heap) (locs1 : List Loc), va_P (dC, dI) vwCl (wM cI cZ am sm fe ex gp gc dy n pe gr st dl wo q yc ya yd ys tp (upd fu k x) sh ro th) H1 → va_S A0 H0 H1 locs1 → W p l e R s m args below meth c H1 locs1 cells slots Q (F0 m (pc + 1) ls rest)) : W p l e R s m args below meth c H locs cells slots Q (F0 m pc ls (.int x :: .int (nI k) :: .ref (am 13) :: rest)) := by
  refine va_zast hx hb hK hP (dwM hI hA ..) hS 13 1 rfl rfl (vp_in_nI hk (by decide)) hdg (fun H1 locs1 hP1 _ hS1 => kk H1 locs1 ?_ hS1)
  rw [ h01, nI_clamp (Nat.lt_trans hk (by decide))] at hP1; exact hP1
theorem lM_14 (hx : p.tables.exec = Jvm.exec) (hb : c.code = cc) (hK : va_K (dC, dI) vwCl [(cI, .int), (cZ, .boolean)] s) (hP : va_P (dC, dI) vwCl (wM cI cZ am sm fe ex gp gc dy n pe gr st dl wo q yc ya yd ys tp fu sh ro th) H) {k : Nat} (hk : k < 24) (hdg : decode cc pc = .ok (.iaload, 1)) (kk : W p l e R s m args below meth c H locs cells slots Q (F0 m (pc + 1) ls (.int (sh k) :: rest))) : W p l e R s m args below meth c H locs cells slots Q (F0 m pc ls (.int (nI k) :: .ref (am 14) :: rest)) := by
  refine va_iald hx hb hK hP 14 0 rfl rfl (vp_in_nI hk (by decide)) hdg ?_
  rw [nI_clamp (Nat.lt_trans hk (by decide))]; exact kk
theorem sM_14 (hx : p.tables.exec = Jvm.exec) (hb : c.code = cc) (hK : va_K (dC, dI) vwCl [(cI, .int), (cZ, .boolean)] s) (hP : va_P (dC, dI) vwCl (wM cI cZ am sm fe ex gp gc dy n pe gr st dl wo q yc ya yd ys tp fu sh ro th) H) (hI : iwM am) (hA : ∀ x, awM am x → A0 x) (hS : va_S A0 H0 H locs) {k : Nat} (hk : k < 24) {x : Int32} (hdg : decode cc pc = .ok (.iastore, 1)) (kk : ∀ (H1 : Heap) (locs1 : List Loc), va_P (dC, dI) vwCl (wM cI cZ am sm fe ex gp gc dy n pe gr st dl wo q yc ya yd ys tp fu (upd sh k x) ro th) H1 → va_S A0 H0 H1 locs1 → W p l e R s m args below meth c H1 locs1 cells slots Q (F0 m (pc + 1) ls rest)) : W p l e R s m args below meth c H locs cells slots Q (F0 m pc ls (.int x :: .int (nI k) :: .ref (am 14) :: rest)) := by
  refine va_iast hx hb hK hP (dwM hI hA ..) hS 14 0 rfl rfl (vp_in_nI hk (by decide)) hdg (fun H1 locs1 hP1 _ hS1 => kk H1 locs1 ?_ hS1)
  rw [ nI_clamp (Nat.lt_trans hk (by decide))] at hP1; exact hP1
theorem lM_15 (hx : p.tables.exec = Jvm.exec) (hb : c.code = cc) (hK : va_K (dC, dI) vwCl [(cI, .int), (cZ, .boolean)] s) (hP : va_P (dC, dI) vwCl (wM cI cZ am sm fe ex gp gc dy n pe gr st dl wo q yc ya yd ys tp fu sh ro th) H) {k : Nat} (hk : k < 24) (hdg : decode cc pc = .ok (.iaload, 1)) (kk : W p l e R s m args below meth c H locs cells slots Q (F0 m (pc + 1) ls (.int (ro k) :: rest))) : W p l e R s m args below meth c H locs cells slots Q (F0 m pc ls (.int (nI k) :: .ref (am 15) :: rest)) := by
  refine va_iald hx hb hK hP 15 0 rfl rfl (vp_in_nI hk (by decide)) hdg ?_
  rw [nI_clamp (Nat.lt_trans hk (by decide))]; exact kk
theorem sM_15 (hx : p.tables.exec = Jvm.exec) (hb : c.code = cc) (hK : va_K (dC, dI) vwCl [(cI, .int), (cZ, .boolean)] s) (hP : va_P (dC, dI) vwCl (wM cI cZ am sm fe ex gp gc dy n pe gr st dl wo q yc ya yd ys tp fu sh ro th) H) (hI : iwM am) (hA : ∀ x, awM am x → A0 x) (hS : va_S A0 H0 H locs) {k : Nat} (hk : k < 24) {x : Int32} (hdg : decode cc pc = .ok (.iastore, 1)) (kk : ∀ (H1 : Heap) (locs1 : List Loc), va_P (dC, dI) vwCl (wM cI cZ am sm fe ex gp gc dy n pe gr st dl wo q yc ya yd ys tp fu sh (upd ro k x) th) H1 → va_S A0 H0 H1 locs1 → W p l e R s m args below meth c H1 locs1 cells slots Q (F0 m (pc + 1) ls rest)) : W p l e R s m args below meth c H locs cells slots Q (F0 m pc ls (.int x :: .int (nI k) :: .ref (am 15) :: rest)) := by
  refine va_iast hx hb hK hP (dwM hI hA ..) hS 15 0 rfl rfl (vp_in_nI hk (by decide)) hdg (fun H1 locs1 hP1 _ hS1 => kk H1 locs1 ?_ hS1)
  rw [ nI_clamp (Nat.lt_trans hk (by decide))] at hP1; exact hP1
end
end
end
section
/-! plain functions: the claims' book -/
def tallyN (st : Nat → Int32) (w : Int32) : Nat → Nat
  | 0 => 0
  | i + 1 => tallyN st w i + (if st i = w then 1 else 0)
theorem tallyN_le (st : Nat → Int32) (w : Int32) : ∀ i, tallyN st w i ≤ i
  | 0 => Nat.le_refl _
  | i + 1 => by
    have h := tallyN_le st w i
    show tallyN st w i + _ ≤ i + 1
    split <;> omega
def denyF (st dl : Nat → Int32) (d : Int32) : Nat → (Nat → Int32)
  | 0 => st
  | i + 1 => if denyF st dl d i i = nI 1 ∧ ¬ d ≤ dl i then upd (denyF st dl d i) i (nI 2) else denyF st dl d i
def maxI (a b : Int32) : Int32 := if a < b then b else a
def joinS (st : Nat → Int32) (k : Nat) (b : Int32) : Nat → Int32 := if b = 0 ∧ (st k = nI 1 ∨ st k = nI 2) then upd st k (nI 0) else st
theorem zz_out {x : Int32} {n : Nat} (hn : n < 2 ^ 31) (h : ¬ vp_in x n) (h1 : ¬ x < 0) (h2 : ¬ nI n ≤ x) : False := by
  rcases pk_ix x hn with q | q | ⟨j, q1, q2⟩
  · exact h1 q
  · exact h2 q
  · exact h (by rw [q2]; exact vp_in_nI q1 hn)

set_option maxHeartbeats 4000000 in
set_option maxRecDepth 100000 in
theorem c_X0_has_ok (l : Launch) {dC : Nat → ClassId} {dI : Nat → Nat → Nat} {cI cZ : ClassId} {ad : Nat → Nat} {sm fe ex dy : Int32} {gp gc op gr st dl wo : Nat → Int32} {n : Nat} {yc ya ys yd : Nat → Int32} {q : Nat} {zc zp zr zs zf : Nat → Int32} {z : Nat} {zm zt : Int64} {k : Nat} (hn : n ≤ 24) (hk : k < n) : Met l yX0_has wsX0_has { frames := 0, cells := 0, slots := 0, locals := 0 } (va_Pc [.ref (ad 3), .int (nI k)] (fun U => va_P (dC, dI) vwCl (wC cI cZ ad sm fe ex dy gp gc op gr st dl wo n yc ya ys yd q zc zp zr zs zf z zm zt) U.heap ∧ va_K (dC, dI) vwCl [(cI, .int), (cZ, .boolean)] U)) (vp_Si (fun r => r = nI 1)) 0 0 (fun _ => False) := by
  refine Met.ofW (cc := cX0_has) (maxL := 2) (ret := (some .boolean)) (by decide) rfl ?_
  intro p e s m args below meth c s₁ B hml hv
  obtain ⟨rfl, hP, hK⟩ := hv
  have hx := B.exec
  have hb := B.bytes
  have hr := B.returns
  have hts := atoms_spec (ws := wsX0_has) B.pre
  have hown : s.vm.findClass RX0 = some m.cls := findClass_of_methodNamed B.named
  have hlocks := B.notSynchronized
  have hl := lv_entry ([.ref (ad 3), .int (nI k)]) (n := 2) (Nat.le_of_ble_eq_true rfl)
  rw [lg_entry_eq]
  generalize (lg_sl ([.ref (ad 3), .int (nI k)]) ++ List.replicate (2 - (lg_sl ([.ref (ad 3), .int (nI k)])).length) Slot.unset).toArray = ls at hl ⊢
  have hl : lv_has ls 2 [(0, .ref (ad 3)), (1, .int (nI k))] := hl
  have hiX0 : ∀ w ∈ wsX00, w ∈ wsX0_has := by decide +kernel
  have hf28 := hts (.fieldLink RX0 28 "SettlementFund$ClaimBook" "size" "I") (by decide +kernel)
  refine lv_iload_n hx hb dX0_has_0 rfl (lv_at hl 1 rfl) ?_
  refine zi_lt (tgt := 16) hx hb (by omega) dX0_has_1 (by decide) (fun c_1 => (show False by exact c_1).elim) (fun c_1 => ?_)
  refine lv_iload_n hx hb dX0_has_4 rfl (lv_at hl 1 rfl) ?_
  refine lv_aload_n hx hb dX0_has_5 rfl (lv_at hl 0 rfl) ?_
  refine gC_3_5 hx hb hts hiX0 hown hK hP hf28 dX0_has_6 ?_
  refine zb_ge (tgt := 16) hx hb (by omega) (by omega) dX0_has_9 (by decide) (fun c_9 => (show False by omega).elim) (fun c_9 => ?_)
  refine lv_iconst (v := nI 1) hx hb dX0_has_12 (by decide) ?_
  refine lv_goto (tgt := 17) hx hb dX0_has_13 (by decide) ?_
  exact W.zret (v := nI 1) hx hb hr (rfl) (fun t ht hW => ⟨nI 1, rfl, rfl, ht⟩) (fun _ h => nomatch h) dX0_has_17
section
variable {p : Program} {e : Env} {R : Room} {s : State} {m : MethodId} {args : Array Value} {below : List Frame} {meth : Method} {c : Code} {H : Heap} {locs : List Loc} {cells slots : Nat} {Q : State → Prop} {cc : ByteArray} {pc : Nat} {ls : Array Slot} {rest : List Value} {own : String} {index nL : Nat} {Ts : List Cond} {H0 : Heap} {A0 : Nat → Prop}
theorem k_X0_has_ok (l : Launch) {dC : Nat → ClassId} {dI : Nat → Nat → Nat} {cI cZ : ClassId} {ad : Nat → Nat} {sm fe ex dy : Int32} {gp gc op gr st dl wo : Nat → Int32} {n : Nat} {yc ya ys yd : Nat → Int32} {q : Nat} {zc zp zr zs zf : Nat → Int32} {z : Nat} {zm zt : Int64} {k : Nat} (hn : n ≤ 24) (hk : k < n) (hx : p.tables.exec = Jvm.exec) (hb : c.code = cc) (hml : c.maxLocals = nL) (hown : s.vm.findClass own = some m.cls) (hts : ∀ w ∈ Ts, w.before args s = true) (hK : va_K (dC, dI) vwCl [(cI, .int), (cZ, .boolean)] s) (hP : va_P (dC, dI) vwCl (wC cI cZ ad sm fe ex dy gp gc op gr st dl wo n yc ya ys yd q zc zp zr zs zf z zm zt) H) (hg : GoodIn Ts (wsV own index RX0 yX0_has wsX0_has)) (hR : 0 + 1 ≤ R.frames ∧ 8 + (2 + 11) + 0 ≤ R.locals) (hc : cells ≤ R.cells ∧ slots ≤ R.slots) (hl : ls.size = nL) (hw : (rest.map fun v => v.category).sum ≤ 8) (hdg : decode cc pc = .ok (.invokevirtual index, 3)) (kk : W p l e R s m args below meth c H locs cells slots Q (F0 m (pc + 3) ls (.int (nI 1) :: rest))) : W p l e R s m args below meth c H locs cells slots Q (F0 m pc ls (.int (nI k) :: .ref (ad 3) :: rest)) := zc_ro (W.runV (As := [.int (nI k)]) (rest := rest) ⟨hx, hb, hml, hown, hts⟩ (c_X0_has_ok (dC := dC) (dI := dI) (cI := cI) (cZ := cZ) (ad := ad) (sm := sm) (fe := fe) (ex := ex) (dy := dy) (gp := gp) (gc := gc) (op := op) (gr := gr) (st := st) (dl := dl) (wo := wo) (n := n) (yc := yc) (ya := ya) (ys := ys) (yd := yd) (q := q) (zc := zc) (zp := zp) (zr := zr) (zs := zs) (zf := zf) (z := z) (zm := zm) (zt := zt) (k := k) l hn hk) (cwV 1 hts hg rfl rfl rfl (by decide +kernel) hR) ⟨fun a U g mk q => ⟨q.1, q.2.1, va_K.moved (u := U) (U := U.calling g mk a) (Vm.Alike.refl U.vm) q.2.2⟩, rC_3 hK hP, fun U hU hW => ⟨rfl, by rw [hU]; exact hP, va_K.moved hW.alike hK⟩⟩ rfl rfl hl rfl (lv_room hw) hdg hc) (fun r h => by subst h; exact kk)
end
set_option maxHeartbeats 4000000 in
set_option maxRecDepth 100000 in
theorem c_X0_has_no (l : Launch) {dC : Nat → ClassId} {dI : Nat → Nat → Nat} {cI cZ : ClassId} {ad : Nat → Nat} {sm fe ex dy : Int32} {gp gc op gr st dl wo : Nat → Int32} {n : Nat} {yc ya ys yd : Nat → Int32} {q : Nat} {zc zp zr zs zf : Nat → Int32} {z : Nat} {zm zt : Int64} {x : Int32} (hn : n ≤ 24) (hk : ¬ vp_in x n) : Met l yX0_has wsX0_has { frames := 0, cells := 0, slots := 0, locals := 0 } (va_Pc [.ref (ad 3), .int x] (fun U => va_P (dC, dI) vwCl (wC cI cZ ad sm fe ex dy gp gc op gr st dl wo n yc ya ys yd q zc zp zr zs zf z zm zt) U.heap ∧ va_K (dC, dI) vwCl [(cI, .int), (cZ, .boolean)] U)) (vp_Si (fun r => r = nI 0)) 0 0 (fun _ => False) := by
  refine Met.ofW (cc := cX0_has) (maxL := 2) (ret := (some .boolean)) (by decide) rfl ?_
  intro p e s m args below meth c s₁ B hml hv
  obtain ⟨rfl, hP, hK⟩ := hv
  have hx := B.exec
  have hb := B.bytes
  have hr := B.returns
  have hts := atoms_spec (ws := wsX0_has) B.pre
  have hown : s.vm.findClass RX0 = some m.cls := findClass_of_methodNamed B.named
  have hlocks := B.notSynchronized
  have hl := lv_entry ([.ref (ad 3), .int x]) (n := 2) (Nat.le_of_ble_eq_true rfl)
  rw [lg_entry_eq]
  generalize (lg_sl ([.ref (ad 3), .int x]) ++ List.replicate (2 - (lg_sl ([.ref (ad 3), .int x])).length) Slot.unset).toArray = ls at hl ⊢
  have hl : lv_has ls 2 [(0, .ref (ad 3)), (1, .int x)] := hl
  have hiX0 : ∀ w ∈ wsX00, w ∈ wsX0_has := by decide +kernel
  have hf28 := hts (.fieldLink RX0 28 "SettlementFund$ClaimBook" "size" "I") (by decide +kernel)
  refine lv_iload_n hx hb dX0_has_0 rfl (lv_at hl 1 rfl) ?_
  refine lv_if_lt (tgt := 16) hx hb dX0_has_1 (by decide) (fun c_1 => ?_) (fun c_1 => ?_)
  · refine lv_iconst (v := nI 0) hx hb dX0_has_16 (by decide) ?_
    exact W.zret (v := nI 0) hx hb hr (rfl) (fun t ht hW => ⟨nI 0, rfl, rfl, ht⟩) (fun _ h => nomatch h) dX0_has_17
  · refine lv_iload_n hx hb dX0_has_4 rfl (lv_at hl 1 rfl) ?_
    refine lv_aload_n hx hb dX0_has_5 rfl (lv_at hl 0 rfl) ?_
    refine gC_3_5 hx hb hts hiX0 hown hK hP hf28 dX0_has_6 ?_
    refine lv_icmp_ge (tgt := 16) hx hb dX0_has_9 (by decide) (fun c_9 => ?_) (fun c_9 => (show False by exact zz_out (by omega) hk c_1 c_9).elim)
    refine lv_iconst (v := nI 0) hx hb dX0_has_16 (by decide) ?_
    exact W.zret (v := nI 0) hx hb hr (rfl) (fun t ht hW => ⟨nI 0, rfl, rfl, ht⟩) (fun _ h => nomatch h) dX0_has_17
section
variable {p : Program} {e : Env} {R : Room} {s : State} {m : MethodId} {args : Array Value} {below : List Frame} {meth : Method} {c : Code} {H : Heap} {locs : List Loc} {cells slots : Nat} {Q : State → Prop} {cc : ByteArray} {pc : Nat} {ls : Array Slot} {rest : List Value} {own : String} {index nL : Nat} {Ts : List Cond} {H0 : Heap} {A0 : Nat → Prop}
theorem k_X0_has_no (l : Launch) {dC : Nat → ClassId} {dI : Nat → Nat → Nat} {cI cZ : ClassId} {ad : Nat → Nat} {sm fe ex dy : Int32} {gp gc op gr st dl wo : Nat → Int32} {n : Nat} {yc ya ys yd : Nat → Int32} {q : Nat} {zc zp zr zs zf : Nat → Int32} {z : Nat} {zm zt : Int64} {x : Int32} (hn : n ≤ 24) (hk : ¬ vp_in x n) (hx : p.tables.exec = Jvm.exec) (hb : c.code = cc) (hml : c.maxLocals = nL) (hown : s.vm.findClass own = some m.cls) (hts : ∀ w ∈ Ts, w.before args s = true) (hK : va_K (dC, dI) vwCl [(cI, .int), (cZ, .boolean)] s) (hP : va_P (dC, dI) vwCl (wC cI cZ ad sm fe ex dy gp gc op gr st dl wo n yc ya ys yd q zc zp zr zs zf z zm zt) H) (hg : GoodIn Ts (wsV own index RX0 yX0_has wsX0_has)) (hR : 0 + 1 ≤ R.frames ∧ 8 + (2 + 11) + 0 ≤ R.locals) (hc : cells ≤ R.cells ∧ slots ≤ R.slots) (hl : ls.size = nL) (hw : (rest.map fun v => v.category).sum ≤ 8) (hdg : decode cc pc = .ok (.invokevirtual index, 3)) (kk : W p l e R s m args below meth c H locs cells slots Q (F0 m (pc + 3) ls (.int (nI 0) :: rest))) : W p l e R s m args below meth c H locs cells slots Q (F0 m pc ls (.int x :: .ref (ad 3) :: rest)) := zc_ro (W.runV (As := [.int x]) (rest := rest) ⟨hx, hb, hml, hown, hts⟩ (c_X0_has_no (dC := dC) (dI := dI) (cI := cI) (cZ := cZ) (ad := ad) (sm := sm) (fe := fe) (ex := ex) (dy := dy) (gp := gp) (gc := gc) (op := op) (gr := gr) (st := st) (dl := dl) (wo := wo) (n := n) (yc := yc) (ya := ya) (ys := ys) (yd := yd) (q := q) (zc := zc) (zp := zp) (zr := zr) (zs := zs) (zf := zf) (z := z) (zm := zm) (zt := zt) (x := x) l hn hk) (cwV 1 hts hg rfl rfl rfl (by decide +kernel) hR) ⟨fun a U g mk q => ⟨q.1, q.2.1, va_K.moved (u := U) (U := U.calling g mk a) (Vm.Alike.refl U.vm) q.2.2⟩, rC_3 hK hP, fun U hU hW => ⟨rfl, by rw [hU]; exact hP, va_K.moved hW.alike hK⟩⟩ rfl rfl hl rfl (lv_room hw) hdg hc) (fun r h => by subst h; exact kk)
end
set_option maxHeartbeats 4000000 in
set_option maxRecDepth 100000 in
theorem c_X0_hasPlace (l : Launch) {dC : Nat → ClassId} {dI : Nat → Nat → Nat} {cI cZ : ClassId} {ad : Nat → Nat} {sm fe ex dy : Int32} {gp gc op gr st dl wo : Nat → Int32} {n : Nat} {yc ya ys yd : Nat → Int32} {q : Nat} {zc zp zr zs zf : Nat → Int32} {z : Nat} {zm zt : Int64}  (hn : n ≤ 24) : Met l yX0_hasPlace wsX0_hasPlace { frames := 0, cells := 0, slots := 0, locals := 0 } (va_Pc [.ref (ad 3)] (fun U => va_P (dC, dI) vwCl (wC cI cZ ad sm fe ex dy gp gc op gr st dl wo n yc ya ys yd q zc zp zr zs zf z zm zt) U.heap ∧ va_K (dC, dI) vwCl [(cI, .int), (cZ, .boolean)] U)) (vp_Si (fun r => r = nI (if n < 24 then 1 else 0))) 0 0 (fun _ => False) := by
  refine Met.ofW (cc := cX0_hasPlace) (maxL := 1) (ret := (some .boolean)) (by decide) rfl ?_
  intro p e s m args below meth c s₁ B hml hv
  obtain ⟨rfl, hP, hK⟩ := hv
  have hx := B.exec
  have hb := B.bytes
  have hr := B.returns
  have hts := atoms_spec (ws := wsX0_hasPlace) B.pre
  have hown : s.vm.findClass RX0 = some m.cls := findClass_of_methodNamed B.named
  have hlocks := B.notSynchronized
  have hl := lv_entry ([.ref (ad 3)]) (n := 1) (Nat.le_of_ble_eq_true rfl)
  rw [lg_entry_eq]
  generalize (lg_sl ([.ref (ad 3)]) ++ List.replicate (1 - (lg_sl ([.ref (ad 3)])).length) Slot.unset).toArray = ls at hl ⊢
  have hl : lv_has ls 1 [(0, .ref (ad 3))] := hl
  have hiX0 : ∀ w ∈ wsX00, w ∈ wsX0_hasPlace := by decide +kernel
  have hf28 := hts (.fieldLink RX0 28 "SettlementFund$ClaimBook" "size" "I") (by decide +kernel)
  refine lv_aload_n hx hb dX0_hasPlace_0 rfl (lv_at hl 0 rfl) ?_
  refine gC_3_5 hx hb hts hiX0 hown hK hP hf28 dX0_hasPlace_1 ?_
  refine lv_bipush (v := nI 24) hx hb dX0_hasPlace_4 (by decide) ?_
  refine zb_ge (tgt := 13) hx hb (by omega) (by decide) dX0_hasPlace_6 (by decide) (fun c_6 => ?_) (fun c_6 => ?_)
  · refine lv_iconst (v := nI 0) hx hb dX0_hasPlace_13 (by decide) ?_
    exact W.zret (v := nI 0) hx hb hr (rfl) (fun t ht hW => ⟨nI 0, rfl, by first | rfl | (rw [if_pos (by omega)]; done) | (rw [if_neg (by omega)]; done) | (simp [c_6]; done), ht⟩) (fun _ h => nomatch h) dX0_hasPlace_14
  · refine lv_iconst (v := nI 1) hx hb dX0_hasPlace_9 (by decide) ?_
    refine lv_goto (tgt := 14) hx hb dX0_hasPlace_10 (by decide) ?_
    exact W.zret (v := nI 1) hx hb hr (rfl) (fun t ht hW => ⟨nI 1, rfl, by first | rfl | (rw [if_pos (by omega)]; done) | (rw [if_neg (by omega)]; done) | (simp [c_6]; done), ht⟩) (fun _ h => nomatch h) dX0_hasPlace_14
section
variable {p : Program} {e : Env} {R : Room} {s : State} {m : MethodId} {args : Array Value} {below : List Frame} {meth : Method} {c : Code} {H : Heap} {locs : List Loc} {cells slots : Nat} {Q : State → Prop} {cc : ByteArray} {pc : Nat} {ls : Array Slot} {rest : List Value} {own : String} {index nL : Nat} {Ts : List Cond} {H0 : Heap} {A0 : Nat → Prop}
theorem k_X0_hasPlace (l : Launch) {dC : Nat → ClassId} {dI : Nat → Nat → Nat} {cI cZ : ClassId} {ad : Nat → Nat} {sm fe ex dy : Int32} {gp gc op gr st dl wo : Nat → Int32} {n : Nat} {yc ya ys yd : Nat → Int32} {q : Nat} {zc zp zr zs zf : Nat → Int32} {z : Nat} {zm zt : Int64}  (hn : n ≤ 24) (hx : p.tables.exec = Jvm.exec) (hb : c.code = cc) (hml : c.maxLocals = nL) (hown : s.vm.findClass own = some m.cls) (hts : ∀ w ∈ Ts, w.before args s = true) (hK : va_K (dC, dI) vwCl [(cI, .int), (cZ, .boolean)] s) (hP : va_P (dC, dI) vwCl (wC cI cZ ad sm fe ex dy gp gc op gr st dl wo n yc ya ys yd q zc zp zr zs zf z zm zt) H) (hg : GoodIn Ts (wsV own index RX0 yX0_hasPlace wsX0_hasPlace)) (hR : 0 + 1 ≤ R.frames ∧ 8 + (1 + 11) + 0 ≤ R.locals) (hc : cells ≤ R.cells ∧ slots ≤ R.slots) (hl : ls.size = nL) (hw : (rest.map fun v => v.category).sum ≤ 8) (hdg : decode cc pc = .ok (.invokevirtual index, 3)) (kk : W p l e R s m args below meth c H locs cells slots Q (F0 m (pc + 3) ls (.int (nI (if n < 24 then 1 else 0)) :: rest))) : W p l e R s m args below meth c H locs cells slots Q (F0 m pc ls (.ref (ad 3) :: rest)) := zc_ro (W.runV (As := []) (rest := rest) ⟨hx, hb, hml, hown, hts⟩ (c_X0_hasPlace (dC := dC) (dI := dI) (cI := cI) (cZ := cZ) (ad := ad) (sm := sm) (fe := fe) (ex := ex) (dy := dy) (gp := gp) (gc := gc) (op := op) (gr := gr) (st := st) (dl := dl) (wo := wo) (n := n) (yc := yc) (ya := ya) (ys := ys) (yd := yd) (q := q) (zc := zc) (zp := zp) (zr := zr) (zs := zs) (zf := zf) (z := z) (zm := zm) (zt := zt) l hn) (cwV 0 hts hg rfl rfl rfl (by decide +kernel) hR) ⟨fun a U g mk q => ⟨q.1, q.2.1, va_K.moved (u := U) (U := U.calling g mk a) (Vm.Alike.refl U.vm) q.2.2⟩, rC_3 hK hP, fun U hU hW => ⟨rfl, by rw [hU]; exact hP, va_K.moved hW.alike hK⟩⟩ rfl rfl hl rfl (lv_room hw) hdg hc) (fun r h => by subst h; exact kk)
end
set_option maxHeartbeats 4000000 in
set_option maxRecDepth 100000 in
theorem c_X0_enter (l : Launch) {dC : Nat → ClassId} {dI : Nat → Nat → Nat} {cI cZ : ClassId} {ad : Nat → Nat} {sm fe ex dy : Int32} {gp gc op gr st dl wo : Nat → Int32} {n : Nat} {yc ya ys yd : Nat → Int32} {q : Nat} {zc zp zr zs zf : Nat → Int32} {z : Nat} {zm zt : Int64} {k : Nat} {g : Int32} {x : Int32} {d : Int32} (hI : iwC ad) (hn : n < 24) (hk : k < 30) : Met l yX0_enter wsX0_enter { frames := 0, cells := 0, slots := 0, locals := 0 } (va_Pc [.ref (ad 3), .int (nI k), .int g, .int x, .int d] (fun U => va_P (dC, dI) vwCl (wC cI cZ ad sm fe ex dy gp gc op gr st dl wo n yc ya ys yd q zc zp zr zs zf z zm zt) U.heap ∧ va_K (dC, dI) vwCl [(cI, .int), (cZ, .boolean)] U)) (va_Qi (fun r (_ : Unit) => r = nI n) (fun _ t => va_P (dC, dI) vwCl (wC cI cZ ad sm fe ex dy gp gc (upd op k (nI n)) (upd gr n g) (upd st n x) (upd dl n d) wo (n + 1) yc ya ys yd q zc zp zr zs zf z zm zt) t.heap) (awC ad)) 0 0 (awC ad) := by
  refine Met.ofW (cc := cX0_enter) (maxL := 6) (ret := (some .int)) (by decide) rfl ?_
  intro p e s m args below meth c s₁ B hml hv
  obtain ⟨rfl, hP, hK⟩ := hv
  have hx := B.exec
  have hb := B.bytes
  have hr := B.returns
  have hts := atoms_spec (ws := wsX0_enter) B.pre
  have hown : s.vm.findClass RX0 = some m.cls := findClass_of_methodNamed B.named
  have hlocks := B.notSynchronized
  have hS : va_S (awC ad) s.heap s.heap [] := va_S.rf
  have hl := lv_entry ([.ref (ad 3), .int (nI k), .int g, .int x, .int d]) (n := 6) (Nat.le_of_ble_eq_true rfl)
  rw [lg_entry_eq]
  generalize (lg_sl ([.ref (ad 3), .int (nI k), .int g, .int x, .int d]) ++ List.replicate (6 - (lg_sl ([.ref (ad 3), .int (nI k), .int g, .int x, .int d])).length) Slot.unset).toArray = ls at hl ⊢
  have hl : lv_has ls 6 [(0, .ref (ad 3)), (1, .int (nI k)), (2, .int g), (3, .int x), (4, .int d)] := hl
  have hiX0 : ∀ w ∈ wsX00, w ∈ wsX0_enter := by decide +kernel
  have hf28 := hts (.fieldLink RX0 28 "SettlementFund$ClaimBook" "size" "I") (by decide +kernel)
  have hf9 := hts (.fieldLink RX0 9 "SettlementFund$ClaimBook" "ofPerson" "[I") (by decide +kernel)
  have hf15 := hts (.fieldLink RX0 15 "SettlementFund$ClaimBook" "grade" "[I") (by decide +kernel)
  have hf18 := hts (.fieldLink RX0 18 "SettlementFund$ClaimBook" "state" "[I") (by decide +kernel)
  have hf21 := hts (.fieldLink RX0 21 "SettlementFund$ClaimBook" "deadline" "[I") (by decide +kernel)
  refine lv_aload_n hx hb dX0_enter_0 rfl (lv_at hl 0 rfl) ?_
  refine gC_3_5 hx hb hts hiX0 hown hK hP hf28 dX0_enter_1 ?_
  refine lv_istore (lv' := [(5, .int (nI n)), (0, .ref (ad 3)), (1, .int (nI k)), (2, .int g), (3, .int x), (4, .int d)]) hx hb dX0_enter_4 hl (by decide) rfl (fun ls hl => ?_)
  refine lv_aload_n hx hb dX0_enter_6 rfl (lv_at hl 1 rfl) ?_
  refine gC_3_0 hx hb hts hiX0 hown hK hP hf9 dX0_enter_7 ?_
  refine lv_iload_n hx hb dX0_enter_10 rfl (lv_at hl 2 rfl) ?_
  refine lv_iload hx hb dX0_enter_11 (lv_at hl 0 rfl) ?_
  refine sC_4 hx hb hK hP hI (fun _ h => h) hS (by omega) dX0_enter_13 (fun H locs hP hS => ?_)
  refine lv_aload_n hx hb dX0_enter_14 rfl (lv_at hl 1 rfl) ?_
  refine gC_3_1 hx hb hts hiX0 hown hK hP hf15 dX0_enter_15 ?_
  refine lv_iload hx hb dX0_enter_18 (lv_at hl 0 rfl) ?_
  refine lv_iload_n hx hb dX0_enter_20 rfl (lv_at hl 3 rfl) ?_
  refine sC_5 hx hb hK hP hI (fun _ h => h) hS (by omega) dX0_enter_21 (fun H locs hP hS => ?_)
  refine lv_aload_n hx hb dX0_enter_22 rfl (lv_at hl 1 rfl) ?_
  refine gC_3_2 hx hb hts hiX0 hown hK hP hf18 dX0_enter_23 ?_
  refine lv_iload hx hb dX0_enter_26 (lv_at hl 0 rfl) ?_
  refine lv_iload_n hx hb dX0_enter_28 rfl (lv_at hl 4 rfl) ?_
  refine sC_6 hx hb hK hP hI (fun _ h => h) hS (by omega) dX0_enter_29 (fun H locs hP hS => ?_)
  refine lv_aload_n hx hb dX0_enter_30 rfl (lv_at hl 1 rfl) ?_
  refine gC_3_3 hx hb hts hiX0 hown hK hP hf21 dX0_enter_31 ?_
  refine lv_iload hx hb dX0_enter_34 (lv_at hl 0 rfl) ?_
  refine lv_iload hx hb dX0_enter_36 (lv_at hl 5 rfl) ?_
  refine sC_7 hx hb hK hP hI (fun _ h => h) hS (by omega) dX0_enter_38 (fun H locs hP hS => ?_)
  refine lv_aload_n hx hb dX0_enter_39 rfl (lv_at hl 1 rfl) ?_
  refine lv_dup hx hb dX0_enter_40 rfl ?_
  refine gC_3_5 hx hb hts hiX0 hown hK hP hf28 dX0_enter_41 ?_
  refine lv_iconst (v := nI 1) hx hb dX0_enter_44 (by decide) ?_
  refine lv_iadd hx hb dX0_enter_45 ?_
  refine zt_i (y := nI (n + 1)) (nI_add _ _) ?_
  refine uC_3_5 hx hb hts hiX0 hown hK hP hf28 hI (fun _ h => h) hS dX0_enter_46 (fun H locs hP hS => ?_)
  refine lv_iload hx hb dX0_enter_49 (lv_at hl 0 rfl) ?_
  exact W.iret (v := nI n) hx hb hr (fun t ht hW => ⟨⟨nI n, (), rfl, rfl, by (try dsimp only); rw [ht]; exact hP⟩, hS.F ht⟩) hS.2.2 dX0_enter_51
section
variable {p : Program} {e : Env} {R : Room} {s : State} {m : MethodId} {args : Array Value} {below : List Frame} {meth : Method} {c : Code} {H : Heap} {locs : List Loc} {cells slots : Nat} {Q : State → Prop} {cc : ByteArray} {pc : Nat} {ls : Array Slot} {rest : List Value} {own : String} {index nL : Nat} {Ts : List Cond} {H0 : Heap} {A0 : Nat → Prop}
theorem k_X0_enter (l : Launch) {dC : Nat → ClassId} {dI : Nat → Nat → Nat} {cI cZ : ClassId} {ad : Nat → Nat} {sm fe ex dy : Int32} {gp gc op gr st dl wo : Nat → Int32} {n : Nat} {yc ya ys yd : Nat → Int32} {q : Nat} {zc zp zr zs zf : Nat → Int32} {z : Nat} {zm zt : Int64} {k : Nat} {g : Int32} {x : Int32} {d : Int32} (hn : n < 24) (hk : k < 30) (hx : p.tables.exec = Jvm.exec) (hb : c.code = cc) (hml : c.maxLocals = nL) (hown : s.vm.findClass own = some m.cls) (hts : ∀ w ∈ Ts, w.before args s = true) (hK : va_K (dC, dI) vwCl [(cI, .int), (cZ, .boolean)] s) (hP : va_P (dC, dI) vwCl (wC cI cZ ad sm fe ex dy gp gc op gr st dl wo n yc ya ys yd q zc zp zr zs zf z zm zt) H) (hg : GoodIn Ts (wsV own index RX0 yX0_enter wsX0_enter)) (hR : 0 + 1 ≤ R.frames ∧ 8 + (6 + 11) + 0 ≤ R.locals) (hc : cells ≤ R.cells ∧ slots ≤ R.slots) (hl : ls.size = nL) (hw : (rest.map fun v => v.category).sum ≤ 8) (hdg : decode cc pc = .ok (.invokevirtual index, 3)) (hI : iwC ad) (hA : ∀ x, awC ad x → A0 x) (hS : va_S A0 H0 H locs) (kk : ∀ (H1 : Heap) (locs1 : List Loc), va_P (dC, dI) vwCl (wC cI cZ ad sm fe ex dy gp gc (upd op k (nI n)) (upd gr n g) (upd st n x) (upd dl n d) wo (n + 1) yc ya ys yd q zc zp zr zs zf z zm zt) H1 → va_S A0 H0 H1 locs1 → (∀ q : Nat, q < H.size → ¬ awC ad q → H1[q]? = H[q]?) → W p l e R s m args below meth c H1 locs1 cells slots Q (F0 m (pc + 3) ls (.int (nI n) :: rest))) : W p l e R s m args below meth c H locs cells slots Q (F0 m pc ls (.int d :: .int x :: .int g :: .int (nI k) :: .ref (ad 3) :: rest)) := va_calli (va_runV (As := [.int (nI k), .int g, .int x, .int d]) (rest := rest) ⟨hx, hb, hml, hown, hts⟩ (c_X0_enter (dC := dC) (dI := dI) (cI := cI) (cZ := cZ) (ad := ad) (sm := sm) (fe := fe) (ex := ex) (dy := dy) (gp := gp) (gc := gc) (op := op) (gr := gr) (st := st) (dl := dl) (wo := wo) (n := n) (yc := yc) (ya := ya) (ys := ys) (yd := yd) (q := q) (zc := zc) (zp := zp) (zr := zr) (zs := zs) (zf := zf) (z := z) (zm := zm) (zt := zt) (k := k) (g := g) (x := x) (d := d) l hI hn hk) (cwV 4 hts hg rfl rfl rfl (by decide +kernel) hR) ⟨fun a U g mk q => ⟨q.1, q.2.1, va_K.moved (u := U) (U := U.calling g mk a) (Vm.Alike.refl U.vm) q.2.2⟩, rC_3 hK hP, fun U hU hW => ⟨rfl, by rw [hU]; exact hP, va_K.moved hW.alike hK⟩⟩ rfl rfl hl rfl (lv_room hw) hdg hc) hS (fun q _ h => hA q h) hA (fun r u t H1 locs1 ht _ hu hB hz hk hS1 => by subst hu; exact kk H1 locs1 (by rw [ht] at hB; exact hB) hS1 hk)
end
set_option maxHeartbeats 4000000 in
set_option maxRecDepth 100000 in
theorem c_X0_join (l : Launch) {dC : Nat → ClassId} {dI : Nat → Nat → Nat} {cI cZ : ClassId} {ad : Nat → Nat} {sm fe ex dy : Int32} {gp gc op gr st dl wo : Nat → Int32} {n : Nat} {yc ya ys yd : Nat → Int32} {q : Nat} {zc zp zr zs zf : Nat → Int32} {z : Nat} {zm zt : Int64} {k : Nat} {g : Int32} {b : Int32} (hI : iwC ad) (hn : n ≤ 24) (hk : k < n) : Met l yX0_join wsX0_join { frames := 1, cells := 0, slots := 0, locals := 21 } (va_Pc [.ref (ad 3), .int (nI k), .int g, .int b] (fun U => va_P (dC, dI) vwCl (wC cI cZ ad sm fe ex dy gp gc op gr st dl wo n yc ya ys yd q zc zp zr zs zf z zm zt) U.heap ∧ va_K (dC, dI) vwCl [(cI, .int), (cZ, .boolean)] U)) (va_Qv (fun _ : Unit => True) (fun _ t => va_P (dC, dI) vwCl (wC cI cZ ad sm fe ex dy gp gc op (upd gr k (maxI (gr k) g)) (joinS st k b) dl wo n yc ya ys yd q zc zp zr zs zf z zm zt) t.heap) (awC ad)) 0 0 (awC ad) := by
  refine Met.ofW (cc := cX0_join) (maxL := 4) (ret := none) (by decide) rfl ?_
  intro p e s m args below meth c s₁ B hml hv
  obtain ⟨rfl, hP, hK⟩ := hv
  have hx := B.exec
  have hb := B.bytes
  have hr := B.returns
  have hts := atoms_spec (ws := wsX0_join) B.pre
  have hown : s.vm.findClass RX0 = some m.cls := findClass_of_methodNamed B.named
  have hlocks := B.notSynchronized
  have hS : va_S (awC ad) s.heap s.heap [] := va_S.rf
  have hl := lv_entry ([.ref (ad 3), .int (nI k), .int g, .int b]) (n := 4) (Nat.le_of_ble_eq_true rfl)
  rw [lg_entry_eq]
  generalize (lg_sl ([.ref (ad 3), .int (nI k), .int g, .int b]) ++ List.replicate (4 - (lg_sl ([.ref (ad 3), .int (nI k), .int g, .int b])).length) Slot.unset).toArray = ls at hl ⊢
  have hl : lv_has ls 4 [(0, .ref (ad 3)), (1, .int (nI k)), (2, .int g), (3, .int b)] := hl
  have hiX0 : ∀ w ∈ wsX00, w ∈ wsX0_join := by decide +kernel
  have hf15 := hts (.fieldLink RX0 15 "SettlementFund$ClaimBook" "grade" "[I") (by decide +kernel)
  have hmxs := hts (.static Lib.Math.max.name) (by decide +kernel)
  have hmxi := hts (.initialized "java/lang/Math") (by decide +kernel)
  have hmxc := hts (.code Lib.Math.max.name Lib.Math.max.code 2 (some .int)) (by decide +kernel)
  have hmxl := hts (.methodLink RX0 32 Lib.Math.max.name) (by decide +kernel)
  have hf18 := hts (.fieldLink RX0 18 "SettlementFund$ClaimBook" "state" "[I") (by decide +kernel)
  refine lv_aload_n hx hb dX0_join_0 rfl (lv_at hl 0 rfl) ?_
  refine gC_3_1 hx hb hts hiX0 hown hK hP hf15 dX0_join_1 ?_
  refine lv_iload_n hx hb dX0_join_4 rfl (lv_at hl 1 rfl) ?_
  refine lv_aload_n hx hb dX0_join_5 rfl (lv_at hl 0 rfl) ?_
  refine gC_3_1 hx hb hts hiX0 hown hK hP hf15 dX0_join_6 ?_
  refine lv_iload_n hx hb dX0_join_9 rfl (lv_at hl 1 rfl) ?_
  refine lC_5 hx hb hK hP (by omega) dX0_join_10 ?_
  refine lv_iload_n hx hb dX0_join_11 rfl (lv_at hl 2 rfl) ?_
  refine va_mmax hx hb (hml.trans hl.1.symm) hown hmxl hmxs hmxi hmxc (Nat.le_of_ble_eq_true rfl) (Nat.le_of_ble_eq_true rfl) (Nat.zero_le _) (Nat.zero_le _) dX0_join_12 ?_
  refine sC_5 hx hb hK hP hI (fun _ h => h) hS (by omega) dX0_join_15 (fun H locs hP hS => ?_)
  refine lv_iload_n hx hb dX0_join_16 rfl (lv_at hl 3 rfl) ?_
  refine lv_if_ne (tgt := 47) hx hb dX0_join_17 (by decide) (fun c_17 => ?_) (fun c_17 => ?_)
  · have e_1 : upd gr k (if gr k < g then g else gr k) = upd gr k (maxI (gr k) g) := by first | rfl | (simp [joinS, c_17]; done)
    rw [e_1] at hP
    have e_2 : st = joinS st k b := by first | rfl | (simp [joinS, c_17]; done)
    rw [e_2] at hP
    exact W.vret hx hb hr (fun t ht hW => ⟨⟨(), rfl, trivial, by (try dsimp only); rw [ht]; exact hP⟩, hS.F ht⟩) hS.2.2 dX0_join_47
  · refine lv_aload_n hx hb dX0_join_20 rfl (lv_at hl 0 rfl) ?_
    refine gC_3_2 hx hb hts hiX0 hown hK hP hf18 dX0_join_21 ?_
    refine lv_iload_n hx hb dX0_join_24 rfl (lv_at hl 1 rfl) ?_
    refine lC_6 hx hb hK hP (by omega) dX0_join_25 ?_
    refine lv_iconst (v := nI 1) hx hb dX0_join_26 (by decide) ?_
    refine lv_icmp_eq (tgt := 40) hx hb dX0_join_27 (by decide) (fun c_27 => ?_) (fun c_27 => ?_)
    · refine lv_aload_n hx hb dX0_join_40 rfl (lv_at hl 0 rfl) ?_
      refine gC_3_2 hx hb hts hiX0 hown hK hP hf18 dX0_join_41 ?_
      refine lv_iload_n hx hb dX0_join_44 rfl (lv_at hl 1 rfl) ?_
      refine lv_iconst (v := nI 0) hx hb dX0_join_45 (by decide) ?_
      refine sC_6 hx hb hK hP hI (fun _ h => h) hS (by omega) dX0_join_46 (fun H locs hP hS => ?_)
      have e_3 : upd gr k (if gr k < g then g else gr k) = upd gr k (maxI (gr k) g) := by first | rfl | (simp [joinS, c_17, c_27]; done)
      rw [e_3] at hP
      have e_4 : upd st k (nI 0) = joinS st k b := by first | rfl | (simp [joinS, c_17, c_27]; done)
      rw [e_4] at hP
      exact W.vret hx hb hr (fun t ht hW => ⟨⟨(), rfl, trivial, by (try dsimp only); rw [ht]; exact hP⟩, hS.F ht⟩) hS.2.2 dX0_join_47
    · refine lv_aload_n hx hb dX0_join_30 rfl (lv_at hl 0 rfl) ?_
      refine gC_3_2 hx hb hts hiX0 hown hK hP hf18 dX0_join_31 ?_
      refine lv_iload_n hx hb dX0_join_34 rfl (lv_at hl 1 rfl) ?_
      refine lC_6 hx hb hK hP (by omega) dX0_join_35 ?_
      refine lv_iconst (v := nI 2) hx hb dX0_join_36 (by decide) ?_
      refine lv_icmp_ne (tgt := 47) hx hb dX0_join_37 (by decide) (fun c_37 => ?_) (fun c_37 => ?_)
      · have e_5 : upd gr k (if gr k < g then g else gr k) = upd gr k (maxI (gr k) g) := by first | rfl | (simp [joinS, c_17, c_27, c_37]; done)
        rw [e_5] at hP
        have e_6 : st = joinS st k b := by first | rfl | (simp [joinS, c_17, c_27, c_37]; done)
        rw [e_6] at hP
        exact W.vret hx hb hr (fun t ht hW => ⟨⟨(), rfl, trivial, by (try dsimp only); rw [ht]; exact hP⟩, hS.F ht⟩) hS.2.2 dX0_join_47
      · refine lv_aload_n hx hb dX0_join_40 rfl (lv_at hl 0 rfl) ?_
        refine gC_3_2 hx hb hts hiX0 hown hK hP hf18 dX0_join_41 ?_
        refine lv_iload_n hx hb dX0_join_44 rfl (lv_at hl 1 rfl) ?_
        refine lv_iconst (v := nI 0) hx hb dX0_join_45 (by decide) ?_
        refine sC_6 hx hb hK hP hI (fun _ h => h) hS (by omega) dX0_join_46 (fun H locs hP hS => ?_)
        have e_7 : upd gr k (if gr k < g then g else gr k) = upd gr k (maxI (gr k) g) := by first | rfl | (simp [joinS, c_17, c_27, c_37]; done)
        rw [e_7] at hP
        have e_8 : upd st k (nI 0) = joinS st k b := by first | rfl | (simp [joinS, c_17, c_27, c_37]; done)
        rw [e_8] at hP
        exact W.vret hx hb hr (fun t ht hW => ⟨⟨(), rfl, trivial, by (try dsimp only); rw [ht]; exact hP⟩, hS.F ht⟩) hS.2.2 dX0_join_47
section
variable {p : Program} {e : Env} {R : Room} {s : State} {m : MethodId} {args : Array Value} {below : List Frame} {meth : Method} {c : Code} {H : Heap} {locs : List Loc} {cells slots : Nat} {Q : State → Prop} {cc : ByteArray} {pc : Nat} {ls : Array Slot} {rest : List Value} {own : String} {index nL : Nat} {Ts : List Cond} {H0 : Heap} {A0 : Nat → Prop}
theorem k_X0_join (l : Launch) {dC : Nat → ClassId} {dI : Nat → Nat → Nat} {cI cZ : ClassId} {ad : Nat → Nat} {sm fe ex dy : Int32} {gp gc op gr st dl wo : Nat → Int32} {n : Nat} {yc ya ys yd : Nat → Int32} {q : Nat} {zc zp zr zs zf : Nat → Int32} {z : Nat} {zm zt : Int64} {k : Nat} {g : Int32} {b : Int32} (hn : n ≤ 24) (hk : k < n) (hx : p.tables.exec = Jvm.exec) (hb : c.code = cc) (hml : c.maxLocals = nL) (hown : s.vm.findClass own = some m.cls) (hts : ∀ w ∈ Ts, w.before args s = true) (hK : va_K (dC, dI) vwCl [(cI, .int), (cZ, .boolean)] s) (hP : va_P (dC, dI) vwCl (wC cI cZ ad sm fe ex dy gp gc op gr st dl wo n yc ya ys yd q zc zp zr zs zf z zm zt) H) (hg : GoodIn Ts (wsV own index RX0 yX0_join wsX0_join)) (hR : 1 + 1 ≤ R.frames ∧ 8 + (4 + 11) + 21 ≤ R.locals) (hc : cells ≤ R.cells ∧ slots ≤ R.slots) (hl : ls.size = nL) (hw : (rest.map fun v => v.category).sum ≤ 8) (hdg : decode cc pc = .ok (.invokevirtual index, 3)) (hI : iwC ad) (hA : ∀ x, awC ad x → A0 x) (hS : va_S A0 H0 H locs) (kk : ∀ (H1 : Heap) (locs1 : List Loc), va_P (dC, dI) vwCl (wC cI cZ ad sm fe ex dy gp gc op (upd gr k (maxI (gr k) g)) (joinS st k b) dl wo n yc ya ys yd q zc zp zr zs zf z zm zt) H1 → va_S A0 H0 H1 locs1 → (∀ q : Nat, q < H.size → ¬ awC ad q → H1[q]? = H[q]?) → W p l e R s m args below meth c H1 locs1 cells slots Q (F0 m (pc + 3) ls (rest))) : W p l e R s m args below meth c H locs cells slots Q (F0 m pc ls (.int b :: .int g :: .int (nI k) :: .ref (ad 3) :: rest)) := va_callv (va_runV (As := [.int (nI k), .int g, .int b]) (rest := rest) ⟨hx, hb, hml, hown, hts⟩ (c_X0_join (dC := dC) (dI := dI) (cI := cI) (cZ := cZ) (ad := ad) (sm := sm) (fe := fe) (ex := ex) (dy := dy) (gp := gp) (gc := gc) (op := op) (gr := gr) (st := st) (dl := dl) (wo := wo) (n := n) (yc := yc) (ya := ya) (ys := ys) (yd := yd) (q := q) (zc := zc) (zp := zp) (zr := zr) (zs := zs) (zf := zf) (z := z) (zm := zm) (zt := zt) (k := k) (g := g) (b := b) l hI hn hk) (cwV 3 hts hg rfl rfl rfl (by decide +kernel) hR) ⟨fun a U g mk q => ⟨q.1, q.2.1, va_K.moved (u := U) (U := U.calling g mk a) (Vm.Alike.refl U.vm) q.2.2⟩, rC_3 hK hP, fun U hU hW => ⟨rfl, by rw [hU]; exact hP, va_K.moved hW.alike hK⟩⟩ rfl rfl hl rfl (lv_room hw) hdg hc) hS (fun q _ h => hA q h) hA (fun u t H1 locs1 ht _ hu hB hz hk hS1 => kk H1 locs1 (by rw [ht] at hB; exact hB) hS1 hk)
end
set_option maxHeartbeats 4000000 in
set_option maxRecDepth 100000 in
theorem c_X0_denyLate (l : Launch) {dC : Nat → ClassId} {dI : Nat → Nat → Nat} {cI cZ : ClassId} {ad : Nat → Nat} {sm fe ex dy : Int32} {gp gc op gr st dl wo : Nat → Int32} {n : Nat} {yc ya ys yd : Nat → Int32} {q : Nat} {zc zp zr zs zf : Nat → Int32} {z : Nat} {zm zt : Int64} {d : Int32} (hI : iwC ad) (hn : n ≤ 24) : Met l yX0_denyLate wsX0_denyLate { frames := 0, cells := 0, slots := 0, locals := 0 } (va_Pc [.ref (ad 3), .int d] (fun U => va_P (dC, dI) vwCl (wC cI cZ ad sm fe ex dy gp gc op gr st dl wo n yc ya ys yd q zc zp zr zs zf z zm zt) U.heap ∧ va_K (dC, dI) vwCl [(cI, .int), (cZ, .boolean)] U)) (va_Qv (fun _ : Unit => True) (fun _ t => va_P (dC, dI) vwCl (wC cI cZ ad sm fe ex dy gp gc op gr (denyF st dl d n) dl wo n yc ya ys yd q zc zp zr zs zf z zm zt) t.heap) (awC ad)) 0 0 (awC ad) := by
  refine Met.ofW (cc := cX0_denyLate) (maxL := 3) (ret := none) (by decide) rfl ?_
  intro p e s m args below meth c s₁ B hml hv
  obtain ⟨rfl, hP, hK⟩ := hv
  have hx := B.exec
  have hb := B.bytes
  have hr := B.returns
  have hts := atoms_spec (ws := wsX0_denyLate) B.pre
  have hown : s.vm.findClass RX0 = some m.cls := findClass_of_methodNamed B.named
  have hlocks := B.notSynchronized
  have hS : va_S (awC ad) s.heap s.heap [] := va_S.rf
  have hl := lv_entry ([.ref (ad 3), .int d]) (n := 3) (Nat.le_of_ble_eq_true rfl)
  rw [lg_entry_eq]
  generalize (lg_sl ([.ref (ad 3), .int d]) ++ List.replicate (3 - (lg_sl ([.ref (ad 3), .int d])).length) Slot.unset).toArray = ls at hl ⊢
  have hl : lv_has ls 3 [(0, .ref (ad 3)), (1, .int d)] := hl
  have hiX0 : ∀ w ∈ wsX00, w ∈ wsX0_denyLate := by decide +kernel
  have hf28 := hts (.fieldLink RX0 28 "SettlementFund$ClaimBook" "size" "I") (by decide +kernel)
  have hf18 := hts (.fieldLink RX0 18 "SettlementFund$ClaimBook" "state" "[I") (by decide +kernel)
  have hf21 := hts (.fieldLink RX0 21 "SettlementFund$ClaimBook" "deadline" "[I") (by decide +kernel)
  refine lv_iconst (v := nI 0) hx hb dX0_denyLate_0 (by decide) ?_
  refine lv_istore_n (lv' := [(2, .int (nI 0)), (0, .ref (ad 3)), (1, .int d)]) hx hb dX0_denyLate_1 rfl hl (by decide) rfl (fun ls hl => ?_)
  have e_1 : st = denyF st dl d 0 := by first | rfl | (simp [denyF]; done) | rw [show n = i by omega]
  rw [e_1] at hP
  refine zl_rw (fun a9 : Nat => wC cI cZ ad sm fe ex dy gp gc op gr (denyF st dl d a9) dl wo n yc ya ys yd q zc zp zr zs zf z zm zt) (fun a9 : Nat => [(0, .ref (ad 3)), (1, .int d), (2, .int (nI a9))]) (fun a9 : Nat => a9 ≤ n) (fun a9 : Nat => n - a9) 0 (Nat.zero_le _) hP hS (lv_sub hl [1, 2, 0] rfl) ?_
  intro a9 hi_2 ih_2 H locs hP hS ls hl
  obtain ⟨i, rfl⟩ : ∃ z, z = a9 := ⟨_, rfl⟩
  have hi_2 : i ≤ n := hi_2
  have hl : lv_has ls 3 [(0, .ref (ad 3)), (1, .int d), (2, .int (nI i))] := hl
  have hP : va_P (dC, dI) vwCl (wC cI cZ ad sm fe ex dy gp gc op gr (denyF st dl d i) dl wo n yc ya ys yd q zc zp zr zs zf z zm zt) H := hP
  refine lv_iload_n hx hb dX0_denyLate_2 rfl (lv_at hl 2 rfl) ?_
  refine lv_aload_n hx hb dX0_denyLate_3 rfl (lv_at hl 0 rfl) ?_
  refine gC_3_5 hx hb hts hiX0 hown hK hP hf28 dX0_denyLate_4 ?_
  refine zb_ge (tgt := 43) hx hb (by omega) (by omega) dX0_denyLate_7 (by decide) (fun c_7 => ?_) (fun c_7 => ?_)
  · have e_2 : denyF st dl d i = denyF st dl d n := by first | rfl | (simp [denyF, c_7]; done) | rw [show n = i by omega]
    rw [e_2] at hP
    exact W.vret hx hb hr (fun t ht hW => ⟨⟨(), rfl, trivial, by (try dsimp only); rw [ht]; exact hP⟩, hS.F ht⟩) hS.2.2 dX0_denyLate_43
  · refine lv_aload_n hx hb dX0_denyLate_10 rfl (lv_at hl 0 rfl) ?_
    refine gC_3_2 hx hb hts hiX0 hown hK hP hf18 dX0_denyLate_11 ?_
    refine lv_iload_n hx hb dX0_denyLate_14 rfl (lv_at hl 2 rfl) ?_
    refine lC_6 hx hb hK hP (by omega) dX0_denyLate_15 ?_
    refine lv_iconst (v := nI 1) hx hb dX0_denyLate_16 (by decide) ?_
    refine lv_icmp_ne (tgt := 37) hx hb dX0_denyLate_17 (by decide) (fun c_17 => ?_) (fun c_17 => ?_)
    · refine lv_iinc (v := nI (i + 1)) (lv' := [(2, .int (nI (i + 1))), (0, .ref (ad 3)), (1, .int d)]) hx hb dX0_denyLate_37 hl (k := 2) rfl (zz_inc _) (by decide) rfl (fun ls hl => ?_)
      refine lv_goto (tgt := 2) hx hb dX0_denyLate_40 (by decide) ?_
      have e_3 : denyF st dl d i = denyF st dl d (i + 1) := by first | rfl | (simp [denyF, c_7, c_17]; done) | rw [show n = i by omega]
      rw [e_3] at hP
      exact ih_2 (i + 1) (by omega) (by omega) H locs hP hS ls (lv_sub hl [1, 2, 0] rfl)
    · refine lv_aload_n hx hb dX0_denyLate_20 rfl (lv_at hl 0 rfl) ?_
      refine gC_3_3 hx hb hts hiX0 hown hK hP hf21 dX0_denyLate_21 ?_
      refine lv_iload_n hx hb dX0_denyLate_24 rfl (lv_at hl 2 rfl) ?_
      refine lC_7 hx hb hK hP (by omega) dX0_denyLate_25 ?_
      refine lv_iload_n hx hb dX0_denyLate_26 rfl (lv_at hl 1 rfl) ?_
      refine lv_icmp_ge (tgt := 37) hx hb dX0_denyLate_27 (by decide) (fun c_27 => ?_) (fun c_27 => ?_)
      · refine lv_iinc (v := nI (i + 1)) (lv' := [(2, .int (nI (i + 1))), (0, .ref (ad 3)), (1, .int d)]) hx hb dX0_denyLate_37 hl (k := 2) rfl (zz_inc _) (by decide) rfl (fun ls hl => ?_)
        refine lv_goto (tgt := 2) hx hb dX0_denyLate_40 (by decide) ?_
        have e_4 : denyF st dl d i = denyF st dl d (i + 1) := by first | rfl | (simp [denyF, c_7, c_17, c_27]; done) | rw [show n = i by omega]
        rw [e_4] at hP
        exact ih_2 (i + 1) (by omega) (by omega) H locs hP hS ls (lv_sub hl [1, 2, 0] rfl)
      · refine lv_aload_n hx hb dX0_denyLate_30 rfl (lv_at hl 0 rfl) ?_
        refine gC_3_2 hx hb hts hiX0 hown hK hP hf18 dX0_denyLate_31 ?_
        refine lv_iload_n hx hb dX0_denyLate_34 rfl (lv_at hl 2 rfl) ?_
        refine lv_iconst (v := nI 2) hx hb dX0_denyLate_35 (by decide) ?_
        refine sC_6 hx hb hK hP hI (fun _ h => h) hS (by omega) dX0_denyLate_36 (fun H locs hP hS => ?_)
        refine lv_iinc (v := nI (i + 1)) (lv' := [(2, .int (nI (i + 1))), (0, .ref (ad 3)), (1, .int d)]) hx hb dX0_denyLate_37 hl (k := 2) rfl (zz_inc _) (by decide) rfl (fun ls hl => ?_)
        refine lv_goto (tgt := 2) hx hb dX0_denyLate_40 (by decide) ?_
        have e_5 : upd (denyF st dl d i) i (nI 2) = denyF st dl d (i + 1) := by first | rfl | (simp [denyF, c_7, c_17, c_27]; done) | rw [show n = i by omega]
        rw [e_5] at hP
        exact ih_2 (i + 1) (by omega) (by omega) H locs hP hS ls (lv_sub hl [1, 2, 0] rfl)
section
variable {p : Program} {e : Env} {R : Room} {s : State} {m : MethodId} {args : Array Value} {below : List Frame} {meth : Method} {c : Code} {H : Heap} {locs : List Loc} {cells slots : Nat} {Q : State → Prop} {cc : ByteArray} {pc : Nat} {ls : Array Slot} {rest : List Value} {own : String} {index nL : Nat} {Ts : List Cond} {H0 : Heap} {A0 : Nat → Prop}
theorem k_X0_denyLate (l : Launch) {dC : Nat → ClassId} {dI : Nat → Nat → Nat} {cI cZ : ClassId} {ad : Nat → Nat} {sm fe ex dy : Int32} {gp gc op gr st dl wo : Nat → Int32} {n : Nat} {yc ya ys yd : Nat → Int32} {q : Nat} {zc zp zr zs zf : Nat → Int32} {z : Nat} {zm zt : Int64} {d : Int32} (hn : n ≤ 24) (hx : p.tables.exec = Jvm.exec) (hb : c.code = cc) (hml : c.maxLocals = nL) (hown : s.vm.findClass own = some m.cls) (hts : ∀ w ∈ Ts, w.before args s = true) (hK : va_K (dC, dI) vwCl [(cI, .int), (cZ, .boolean)] s) (hP : va_P (dC, dI) vwCl (wC cI cZ ad sm fe ex dy gp gc op gr st dl wo n yc ya ys yd q zc zp zr zs zf z zm zt) H) (hg : GoodIn Ts (wsV own index RX0 yX0_denyLate wsX0_denyLate)) (hR : 0 + 1 ≤ R.frames ∧ 8 + (3 + 11) + 0 ≤ R.locals) (hc : cells ≤ R.cells ∧ slots ≤ R.slots) (hl : ls.size = nL) (hw : (rest.map fun v => v.category).sum ≤ 8) (hdg : decode cc pc = .ok (.invokevirtual index, 3)) (hI : iwC ad) (hA : ∀ x, awC ad x → A0 x) (hS : va_S A0 H0 H locs) (kk : ∀ (H1 : Heap) (locs1 : List Loc), va_P (dC, dI) vwCl (wC cI cZ ad sm fe ex dy gp gc op gr (denyF st dl d n) dl wo n yc ya ys yd q zc zp zr zs zf z zm zt) H1 → va_S A0 H0 H1 locs1 → (∀ q : Nat, q < H.size → ¬ awC ad q → H1[q]? = H[q]?) → W p l e R s m args below meth c H1 locs1 cells slots Q (F0 m (pc + 3) ls (rest))) : W p l e R s m args below meth c H locs cells slots Q (F0 m pc ls (.int d :: .ref (ad 3) :: rest)) := va_callv (va_runV (As := [.int d]) (rest := rest) ⟨hx, hb, hml, hown, hts⟩ (c_X0_denyLate (dC := dC) (dI := dI) (cI := cI) (cZ := cZ) (ad := ad) (sm := sm) (fe := fe) (ex := ex) (dy := dy) (gp := gp) (gc := gc) (op := op) (gr := gr) (st := st) (dl := dl) (wo := wo) (n := n) (yc := yc) (ya := ya) (ys := ys) (yd := yd) (q := q) (zc := zc) (zp := zp) (zr := zr) (zs := zs) (zf := zf) (z := z) (zm := zm) (zt := zt) (d := d) l hI hn) (cwV 1 hts hg rfl rfl rfl (by decide +kernel) hR) ⟨fun a U g mk q => ⟨q.1, q.2.1, va_K.moved (u := U) (U := U.calling g mk a) (Vm.Alike.refl U.vm) q.2.2⟩, rC_3 hK hP, fun U hU hW => ⟨rfl, by rw [hU]; exact hP, va_K.moved hW.alike hK⟩⟩ rfl rfl hl rfl (lv_room hw) hdg hc) hS (fun q _ h => hA q h) hA (fun u t H1 locs1 ht _ hu hB hz hk hS1 => kk H1 locs1 (by rw [ht] at hB; exact hB) hS1 hk)
end
set_option maxHeartbeats 4000000 in
set_option maxRecDepth 100000 in
theorem c_X0_tally (l : Launch) {dC : Nat → ClassId} {dI : Nat → Nat → Nat} {cI cZ : ClassId} {ad : Nat → Nat} {sm fe ex dy : Int32} {gp gc op gr st dl wo : Nat → Int32} {n : Nat} {yc ya ys yd : Nat → Int32} {q : Nat} {zc zp zr zs zf : Nat → Int32} {z : Nat} {zm zt : Int64} {w : Int32} (hn : n ≤ 24) : Met l yX0_tally wsX0_tally { frames := 0, cells := 0, slots := 0, locals := 0 } (va_Pc [.ref (ad 3), .int w] (fun U => va_P (dC, dI) vwCl (wC cI cZ ad sm fe ex dy gp gc op gr st dl wo n yc ya ys yd q zc zp zr zs zf z zm zt) U.heap ∧ va_K (dC, dI) vwCl [(cI, .int), (cZ, .boolean)] U)) (vp_Si (fun r => r = nI (tallyN st w n))) 0 0 (fun _ => False) := by
  refine Met.ofW (cc := cX0_tally) (maxL := 4) (ret := (some .int)) (by decide) rfl ?_
  intro p e s m args below meth c s₁ B hml hv
  obtain ⟨rfl, hP, hK⟩ := hv
  have hx := B.exec
  have hb := B.bytes
  have hr := B.returns
  have hts := atoms_spec (ws := wsX0_tally) B.pre
  have hown : s.vm.findClass RX0 = some m.cls := findClass_of_methodNamed B.named
  have hlocks := B.notSynchronized
  have hl := lv_entry ([.ref (ad 3), .int w]) (n := 4) (Nat.le_of_ble_eq_true rfl)
  rw [lg_entry_eq]
  generalize (lg_sl ([.ref (ad 3), .int w]) ++ List.replicate (4 - (lg_sl ([.ref (ad 3), .int w])).length) Slot.unset).toArray = ls at hl ⊢
  have hl : lv_has ls 4 [(0, .ref (ad 3)), (1, .int w)] := hl
  have hiX0 : ∀ w ∈ wsX00, w ∈ wsX0_tally := by decide +kernel
  have hf28 := hts (.fieldLink RX0 28 "SettlementFund$ClaimBook" "size" "I") (by decide +kernel)
  have hf18 := hts (.fieldLink RX0 18 "SettlementFund$ClaimBook" "state" "[I") (by decide +kernel)
  refine lv_iconst (v := nI 0) hx hb dX0_tally_0 (by decide) ?_
  refine lv_istore_n (lv' := [(2, .int (nI 0)), (0, .ref (ad 3)), (1, .int w)]) hx hb dX0_tally_1 rfl hl (by decide) rfl (fun ls hl => ?_)
  refine lv_iconst (v := nI 0) hx hb dX0_tally_2 (by decide) ?_
  refine lv_istore_n (lv' := [(3, .int (nI 0)), (2, .int (nI 0)), (0, .ref (ad 3)), (1, .int w)]) hx hb dX0_tally_3 rfl hl (by decide) rfl (fun ls hl => ?_)
  have e_1 : nI 0 = nI (tallyN st w 0) := by first | rfl | (simp [tallyN]; done)
  rw [e_1] at hl
  refine zl_ro (fun a9 : Nat => [(0, .ref (ad 3)), (1, .int w), (2, .int (nI (tallyN st w a9))), (3, .int (nI a9))]) (fun a9 : Nat => a9 ≤ n) (fun a9 : Nat => n - a9) 0 (Nat.zero_le _) (lv_sub hl [2, 3, 1, 0] rfl) ?_
  intro a9 hi_4 ih_4 ls hl
  obtain ⟨i, rfl⟩ : ∃ z, z = a9 := ⟨_, rfl⟩
  have hi_4 : i ≤ n := hi_4
  have hl : lv_has ls 4 [(0, .ref (ad 3)), (1, .int w), (2, .int (nI (tallyN st w i))), (3, .int (nI i))] := hl
  refine lv_iload_n hx hb dX0_tally_4 rfl (lv_at hl 3 rfl) ?_
  refine lv_aload_n hx hb dX0_tally_5 rfl (lv_at hl 0 rfl) ?_
  refine gC_3_5 hx hb hts hiX0 hown hK hP hf28 dX0_tally_6 ?_
  refine zb_ge (tgt := 31) hx hb (by omega) (by omega) dX0_tally_9 (by decide) (fun c_9 => ?_) (fun c_9 => ?_)
  · refine lv_iload_n hx hb dX0_tally_31 rfl (lv_at hl 2 rfl) ?_
    exact W.iret (v := nI (tallyN st w i)) hx hb hr (fun t ht hW => ⟨nI (tallyN st w i), rfl, by rw [show n = i by omega], ht⟩) (fun _ h => nomatch h) dX0_tally_32
  · refine lv_aload_n hx hb dX0_tally_12 rfl (lv_at hl 0 rfl) ?_
    refine gC_3_2 hx hb hts hiX0 hown hK hP hf18 dX0_tally_13 ?_
    refine lv_iload_n hx hb dX0_tally_16 rfl (lv_at hl 3 rfl) ?_
    refine lC_6 hx hb hK hP (by omega) dX0_tally_17 ?_
    refine lv_iload_n hx hb dX0_tally_18 rfl (lv_at hl 1 rfl) ?_
    refine lv_icmp_ne (tgt := 25) hx hb dX0_tally_19 (by decide) (fun c_19 => ?_) (fun c_19 => ?_)
    · refine lv_iinc (v := nI (i + 1)) (lv' := [(3, .int (nI (i + 1))), (0, .ref (ad 3)), (1, .int w), (2, .int (nI (tallyN st w i)))]) hx hb dX0_tally_25 hl (k := 3) rfl (zz_inc _) (by decide) rfl (fun ls hl => ?_)
      refine lv_goto (tgt := 4) hx hb dX0_tally_28 (by decide) ?_
      have e_2 : nI (tallyN st w i) = nI (tallyN st w (i + 1)) := by first | rfl | (simp [tallyN, c_9, c_19]; done)
      rw [e_2] at hl
      exact ih_4 (i + 1) (by omega) (by omega) ls (lv_sub hl [1, 2, 3, 0] rfl)
    · refine lv_iinc (v := nI (tallyN st w i + 1)) (lv' := [(2, .int (nI (tallyN st w i + 1))), (0, .ref (ad 3)), (1, .int w), (3, .int (nI i))]) hx hb dX0_tally_22 hl (k := 2) rfl (zz_inc _) (by decide) rfl (fun ls hl => ?_)
      refine lv_iinc (v := nI (i + 1)) (lv' := [(3, .int (nI (i + 1))), (2, .int (nI (tallyN st w i + 1))), (0, .ref (ad 3)), (1, .int w)]) hx hb dX0_tally_25 hl (k := 3) rfl (zz_inc _) (by decide) rfl (fun ls hl => ?_)
      refine lv_goto (tgt := 4) hx hb dX0_tally_28 (by decide) ?_
      have e_3 : nI (tallyN st w i + 1) = nI (tallyN st w (i + 1)) := by first | rfl | (simp [tallyN, c_9, c_19]; done)
      rw [e_3] at hl
      exact ih_4 (i + 1) (by omega) (by omega) ls (lv_sub hl [2, 3, 1, 0] rfl)
section
variable {p : Program} {e : Env} {R : Room} {s : State} {m : MethodId} {args : Array Value} {below : List Frame} {meth : Method} {c : Code} {H : Heap} {locs : List Loc} {cells slots : Nat} {Q : State → Prop} {cc : ByteArray} {pc : Nat} {ls : Array Slot} {rest : List Value} {own : String} {index nL : Nat} {Ts : List Cond} {H0 : Heap} {A0 : Nat → Prop}
theorem k_X0_tally (l : Launch) {dC : Nat → ClassId} {dI : Nat → Nat → Nat} {cI cZ : ClassId} {ad : Nat → Nat} {sm fe ex dy : Int32} {gp gc op gr st dl wo : Nat → Int32} {n : Nat} {yc ya ys yd : Nat → Int32} {q : Nat} {zc zp zr zs zf : Nat → Int32} {z : Nat} {zm zt : Int64} {w : Int32} (hn : n ≤ 24) (hx : p.tables.exec = Jvm.exec) (hb : c.code = cc) (hml : c.maxLocals = nL) (hown : s.vm.findClass own = some m.cls) (hts : ∀ w ∈ Ts, w.before args s = true) (hK : va_K (dC, dI) vwCl [(cI, .int), (cZ, .boolean)] s) (hP : va_P (dC, dI) vwCl (wC cI cZ ad sm fe ex dy gp gc op gr st dl wo n yc ya ys yd q zc zp zr zs zf z zm zt) H) (hg : GoodIn Ts (wsV own index RX0 yX0_tally wsX0_tally)) (hR : 0 + 1 ≤ R.frames ∧ 8 + (4 + 11) + 0 ≤ R.locals) (hc : cells ≤ R.cells ∧ slots ≤ R.slots) (hl : ls.size = nL) (hw : (rest.map fun v => v.category).sum ≤ 8) (hdg : decode cc pc = .ok (.invokevirtual index, 3)) (kk : W p l e R s m args below meth c H locs cells slots Q (F0 m (pc + 3) ls (.int (nI (tallyN st w n)) :: rest))) : W p l e R s m args below meth c H locs cells slots Q (F0 m pc ls (.int w :: .ref (ad 3) :: rest)) := zc_ro (W.runV (As := [.int w]) (rest := rest) ⟨hx, hb, hml, hown, hts⟩ (c_X0_tally (dC := dC) (dI := dI) (cI := cI) (cZ := cZ) (ad := ad) (sm := sm) (fe := fe) (ex := ex) (dy := dy) (gp := gp) (gc := gc) (op := op) (gr := gr) (st := st) (dl := dl) (wo := wo) (n := n) (yc := yc) (ya := ya) (ys := ys) (yd := yd) (q := q) (zc := zc) (zp := zp) (zr := zr) (zs := zs) (zf := zf) (z := z) (zm := zm) (zt := zt) (w := w) l hn) (cwV 1 hts hg rfl rfl rfl (by decide +kernel) hR) ⟨fun a U g mk q => ⟨q.1, q.2.1, va_K.moved (u := U) (U := U.calling g mk a) (Vm.Alike.refl U.vm) q.2.2⟩, rC_3 hK hP, fun U hU hW => ⟨rfl, by rw [hU]; exact hP, va_K.moved hW.alike hK⟩⟩ rfl rfl hl rfl (lv_room hw) hdg hc) (fun r h => by subst h; exact kk)
end
end
section
/-! plain functions: the payments' book -/
def anyB (p : Nat → Bool) : Nat → Bool
  | 0 => false
  | i + 1 => anyB p i || p i
theorem anyB_of {p : Nat → Bool} : ∀ {n i : Nat}, i < n → p i = true → anyB p n = true
  | 0, _, h, _ => absurd h (Nat.not_lt_zero _)
  | n + 1, i, h, hp => by
    show (anyB p n || p n) = true
    rcases Nat.lt_or_ge i n with q | q
    · rw [anyB_of q hp]; rfl
    · have e : i = n := by omega
      subst e
      rw [hp, Bool.or_true]
def voidF (ys yd : Nat → Int32) (d : Int32) : Nat → (Nat → Int32)
  | 0 => ys
  | i + 1 => if voidF ys yd d i i = 0 ∧ ¬ d - yd i ≤ nI 30 then upd (voidF ys yd d i) i (nI 2) else voidF ys yd d i
def sumForI (yc ya ys : Nat → Int32) (w : Int32) : Nat → Int32
  | 0 => nI 0
  | i + 1 => if yc i = w ∧ ¬ ys i = nI 2 then sumForI yc ya ys w i + ya i else sumForI yc ya ys w i
def sumAllI (ya ys : Nat → Int32) : Nat → Int32
  | 0 => nI 0
  | i + 1 => if ¬ ys i = nI 2 then sumAllI ya ys i + ya i else sumAllI ya ys i
def openB (ys : Nat → Int32) (q : Nat) : Bool := anyB (fun k => decide (ys k = 0)) q
def vdB (yc ys : Nat → Int32) (w : Int32) (q : Nat) : Bool := anyB (fun k => decide (yc k = w) && decide (ys k = nI 2)) q

set_option maxHeartbeats 4000000 in
set_option maxRecDepth 100000 in
theorem c_X1_has_ok (l : Launch) {dC : Nat → ClassId} {dI : Nat → Nat → Nat} {cI cZ : ClassId} {ad : Nat → Nat} {sm fe ex dy : Int32} {gp gc op gr st dl wo : Nat → Int32} {n : Nat} {yc ya ys yd : Nat → Int32} {q : Nat} {zc zp zr zs zf : Nat → Int32} {z : Nat} {zm zt : Int64} {k : Nat} (hq : q ≤ 100) (hk : k < q) : Met l yX1_has wsX1_has { frames := 0, cells := 0, slots := 0, locals := 0 } (va_Pc [.ref (ad 9), .int (nI k)] (fun U => va_P (dC, dI) vwCl (wC cI cZ ad sm fe ex dy gp gc op gr st dl wo n yc ya ys yd q zc zp zr zs zf z zm zt) U.heap ∧ va_K (dC, dI) vwCl [(cI, .int), (cZ, .boolean)] U)) (vp_Si (fun r => r = nI 1)) 0 0 (fun _ => False) := by
  refine Met.ofW (cc := cX1_has) (maxL := 2) (ret := (some .boolean)) (by decide) rfl ?_
  intro p e s m args below meth c s₁ B hml hv
  obtain ⟨rfl, hP, hK⟩ := hv
  have hx := B.exec
  have hb := B.bytes
  have hr := B.returns
  have hts := atoms_spec (ws := wsX1_has) B.pre
  have hown : s.vm.findClass RX1 = some m.cls := findClass_of_methodNamed B.named
  have hlocks := B.notSynchronized
  have hl := lv_entry ([.ref (ad 9), .int (nI k)]) (n := 2) (Nat.le_of_ble_eq_true rfl)
  rw [lg_entry_eq]
  generalize (lg_sl ([.ref (ad 9), .int (nI k)]) ++ List.replicate (2 - (lg_sl ([.ref (ad 9), .int (nI k)])).length) Slot.unset).toArray = ls at hl ⊢
  have hl : lv_has ls 2 [(0, .ref (ad 9)), (1, .int (nI k))] := hl
  have hiX1 : ∀ w ∈ wsX10, w ∈ wsX1_has := by decide +kernel
  have hf24 := hts (.fieldLink RX1 24 "SettlementFund$PaymentBook" "size" "I") (by decide +kernel)
  refine lv_iload_n hx hb dX1_has_0 rfl (lv_at hl 1 rfl) ?_
  refine zi_lt (tgt := 16) hx hb (by omega) dX1_has_1 (by decide) (fun c_1 => (show False by exact c_1).elim) (fun c_1 => ?_)
  refine lv_iload_n hx hb dX1_has_4 rfl (lv_at hl 1 rfl) ?_
  refine lv_aload_n hx hb dX1_has_5 rfl (lv_at hl 0 rfl) ?_
  refine gC_9_4 hx hb hts hiX1 hown hK hP hf24 dX1_has_6 ?_
  refine zb_ge (tgt := 16) hx hb (by omega) (by omega) dX1_has_9 (by decide) (fun c_9 => (show False by omega).elim) (fun c_9 => ?_)
  refine lv_iconst (v := nI 1) hx hb dX1_has_12 (by decide) ?_
  refine lv_goto (tgt := 17) hx hb dX1_has_13 (by decide) ?_
  exact W.zret (v := nI 1) hx hb hr (rfl) (fun t ht hW => ⟨nI 1, rfl, rfl, ht⟩) (fun _ h => nomatch h) dX1_has_17
section
variable {p : Program} {e : Env} {R : Room} {s : State} {m : MethodId} {args : Array Value} {below : List Frame} {meth : Method} {c : Code} {H : Heap} {locs : List Loc} {cells slots : Nat} {Q : State → Prop} {cc : ByteArray} {pc : Nat} {ls : Array Slot} {rest : List Value} {own : String} {index nL : Nat} {Ts : List Cond} {H0 : Heap} {A0 : Nat → Prop}
theorem k_X1_has_ok (l : Launch) {dC : Nat → ClassId} {dI : Nat → Nat → Nat} {cI cZ : ClassId} {ad : Nat → Nat} {sm fe ex dy : Int32} {gp gc op gr st dl wo : Nat → Int32} {n : Nat} {yc ya ys yd : Nat → Int32} {q : Nat} {zc zp zr zs zf : Nat → Int32} {z : Nat} {zm zt : Int64} {k : Nat} (hq : q ≤ 100) (hk : k < q) (hx : p.tables.exec = Jvm.exec) (hb : c.code = cc) (hml : c.maxLocals = nL) (hown : s.vm.findClass own = some m.cls) (hts : ∀ w ∈ Ts, w.before args s = true) (hK : va_K (dC, dI) vwCl [(cI, .int), (cZ, .boolean)] s) (hP : va_P (dC, dI) vwCl (wC cI cZ ad sm fe ex dy gp gc op gr st dl wo n yc ya ys yd q zc zp zr zs zf z zm zt) H) (hg : GoodIn Ts (wsV own index RX1 yX1_has wsX1_has)) (hR : 0 + 1 ≤ R.frames ∧ 8 + (2 + 11) + 0 ≤ R.locals) (hc : cells ≤ R.cells ∧ slots ≤ R.slots) (hl : ls.size = nL) (hw : (rest.map fun v => v.category).sum ≤ 8) (hdg : decode cc pc = .ok (.invokevirtual index, 3)) (kk : W p l e R s m args below meth c H locs cells slots Q (F0 m (pc + 3) ls (.int (nI 1) :: rest))) : W p l e R s m args below meth c H locs cells slots Q (F0 m pc ls (.int (nI k) :: .ref (ad 9) :: rest)) := zc_ro (W.runV (As := [.int (nI k)]) (rest := rest) ⟨hx, hb, hml, hown, hts⟩ (c_X1_has_ok (dC := dC) (dI := dI) (cI := cI) (cZ := cZ) (ad := ad) (sm := sm) (fe := fe) (ex := ex) (dy := dy) (gp := gp) (gc := gc) (op := op) (gr := gr) (st := st) (dl := dl) (wo := wo) (n := n) (yc := yc) (ya := ya) (ys := ys) (yd := yd) (q := q) (zc := zc) (zp := zp) (zr := zr) (zs := zs) (zf := zf) (z := z) (zm := zm) (zt := zt) (k := k) l hq hk) (cwV 1 hts hg rfl rfl rfl (by decide +kernel) hR) ⟨fun a U g mk q => ⟨q.1, q.2.1, va_K.moved (u := U) (U := U.calling g mk a) (Vm.Alike.refl U.vm) q.2.2⟩, rC_9 hK hP, fun U hU hW => ⟨rfl, by rw [hU]; exact hP, va_K.moved hW.alike hK⟩⟩ rfl rfl hl rfl (lv_room hw) hdg hc) (fun r h => by subst h; exact kk)
end
set_option maxHeartbeats 4000000 in
set_option maxRecDepth 100000 in
theorem c_X1_has_no (l : Launch) {dC : Nat → ClassId} {dI : Nat → Nat → Nat} {cI cZ : ClassId} {ad : Nat → Nat} {sm fe ex dy : Int32} {gp gc op gr st dl wo : Nat → Int32} {n : Nat} {yc ya ys yd : Nat → Int32} {q : Nat} {zc zp zr zs zf : Nat → Int32} {z : Nat} {zm zt : Int64} {x : Int32} (hq : q ≤ 100) (hk : ¬ vp_in x q) : Met l yX1_has wsX1_has { frames := 0, cells := 0, slots := 0, locals := 0 } (va_Pc [.ref (ad 9), .int x] (fun U => va_P (dC, dI) vwCl (wC cI cZ ad sm fe ex dy gp gc op gr st dl wo n yc ya ys yd q zc zp zr zs zf z zm zt) U.heap ∧ va_K (dC, dI) vwCl [(cI, .int), (cZ, .boolean)] U)) (vp_Si (fun r => r = nI 0)) 0 0 (fun _ => False) := by
  refine Met.ofW (cc := cX1_has) (maxL := 2) (ret := (some .boolean)) (by decide) rfl ?_
  intro p e s m args below meth c s₁ B hml hv
  obtain ⟨rfl, hP, hK⟩ := hv
  have hx := B.exec
  have hb := B.bytes
  have hr := B.returns
  have hts := atoms_spec (ws := wsX1_has) B.pre
  have hown : s.vm.findClass RX1 = some m.cls := findClass_of_methodNamed B.named
  have hlocks := B.notSynchronized
  have hl := lv_entry ([.ref (ad 9), .int x]) (n := 2) (Nat.le_of_ble_eq_true rfl)
  rw [lg_entry_eq]
  generalize (lg_sl ([.ref (ad 9), .int x]) ++ List.replicate (2 - (lg_sl ([.ref (ad 9), .int x])).length) Slot.unset).toArray = ls at hl ⊢
  have hl : lv_has ls 2 [(0, .ref (ad 9)), (1, .int x)] := hl
  have hiX1 : ∀ w ∈ wsX10, w ∈ wsX1_has := by decide +kernel
  have hf24 := hts (.fieldLink RX1 24 "SettlementFund$PaymentBook" "size" "I") (by decide +kernel)
  refine lv_iload_n hx hb dX1_has_0 rfl (lv_at hl 1 rfl) ?_
  refine lv_if_lt (tgt := 16) hx hb dX1_has_1 (by decide) (fun c_1 => ?_) (fun c_1 => ?_)
  · refine lv_iconst (v := nI 0) hx hb dX1_has_16 (by decide) ?_
    exact W.zret (v := nI 0) hx hb hr (rfl) (fun t ht hW => ⟨nI 0, rfl, rfl, ht⟩) (fun _ h => nomatch h) dX1_has_17
  · refine lv_iload_n hx hb dX1_has_4 rfl (lv_at hl 1 rfl) ?_
    refine lv_aload_n hx hb dX1_has_5 rfl (lv_at hl 0 rfl) ?_
    refine gC_9_4 hx hb hts hiX1 hown hK hP hf24 dX1_has_6 ?_
    refine lv_icmp_ge (tgt := 16) hx hb dX1_has_9 (by decide) (fun c_9 => ?_) (fun c_9 => (show False by exact zz_out (by omega) hk c_1 c_9).elim)
    refine lv_iconst (v := nI 0) hx hb dX1_has_16 (by decide) ?_
    exact W.zret (v := nI 0) hx hb hr (rfl) (fun t ht hW => ⟨nI 0, rfl, rfl, ht⟩) (fun _ h => nomatch h) dX1_has_17
section
variable {p : Program} {e : Env} {R : Room} {s : State} {m : MethodId} {args : Array Value} {below : List Frame} {meth : Method} {c : Code} {H : Heap} {locs : List Loc} {cells slots : Nat} {Q : State → Prop} {cc : ByteArray} {pc : Nat} {ls : Array Slot} {rest : List Value} {own : String} {index nL : Nat} {Ts : List Cond} {H0 : Heap} {A0 : Nat → Prop}
theorem k_X1_has_no (l : Launch) {dC : Nat → ClassId} {dI : Nat → Nat → Nat} {cI cZ : ClassId} {ad : Nat → Nat} {sm fe ex dy : Int32} {gp gc op gr st dl wo : Nat → Int32} {n : Nat} {yc ya ys yd : Nat → Int32} {q : Nat} {zc zp zr zs zf : Nat → Int32} {z : Nat} {zm zt : Int64} {x : Int32} (hq : q ≤ 100) (hk : ¬ vp_in x q) (hx : p.tables.exec = Jvm.exec) (hb : c.code = cc) (hml : c.maxLocals = nL) (hown : s.vm.findClass own = some m.cls) (hts : ∀ w ∈ Ts, w.before args s = true) (hK : va_K (dC, dI) vwCl [(cI, .int), (cZ, .boolean)] s) (hP : va_P (dC, dI) vwCl (wC cI cZ ad sm fe ex dy gp gc op gr st dl wo n yc ya ys yd q zc zp zr zs zf z zm zt) H) (hg : GoodIn Ts (wsV own index RX1 yX1_has wsX1_has)) (hR : 0 + 1 ≤ R.frames ∧ 8 + (2 + 11) + 0 ≤ R.locals) (hc : cells ≤ R.cells ∧ slots ≤ R.slots) (hl : ls.size = nL) (hw : (rest.map fun v => v.category).sum ≤ 8) (hdg : decode cc pc = .ok (.invokevirtual index, 3)) (kk : W p l e R s m args below meth c H locs cells slots Q (F0 m (pc + 3) ls (.int (nI 0) :: rest))) : W p l e R s m args below meth c H locs cells slots Q (F0 m pc ls (.int x :: .ref (ad 9) :: rest)) := zc_ro (W.runV (As := [.int x]) (rest := rest) ⟨hx, hb, hml, hown, hts⟩ (c_X1_has_no (dC := dC) (dI := dI) (cI := cI) (cZ := cZ) (ad := ad) (sm := sm) (fe := fe) (ex := ex) (dy := dy) (gp := gp) (gc := gc) (op := op) (gr := gr) (st := st) (dl := dl) (wo := wo) (n := n) (yc := yc) (ya := ya) (ys := ys) (yd := yd) (q := q) (zc := zc) (zp := zp) (zr := zr) (zs := zs) (zf := zf) (z := z) (zm := zm) (zt := zt) (x := x) l hq hk) (cwV 1 hts hg rfl rfl rfl (by decide +kernel) hR) ⟨fun a U g mk q => ⟨q.1, q.2.1, va_K.moved (u := U) (U := U.calling g mk a) (Vm.Alike.refl U.vm) q.2.2⟩, rC_9 hK hP, fun U hU hW => ⟨rfl, by rw [hU]; exact hP, va_K.moved hW.alike hK⟩⟩ rfl rfl hl rfl (lv_room hw) hdg hc) (fun r h => by subst h; exact kk)
end
set_option maxHeartbeats 4000000 in
set_option maxRecDepth 100000 in
theorem c_X1_hasPlacesFor (l : Launch) {dC : Nat → ClassId} {dI : Nat → Nat → Nat} {cI cZ : ClassId} {ad : Nat → Nat} {sm fe ex dy : Int32} {gp gc op gr st dl wo : Nat → Int32} {n : Nat} {yc ya ys yd : Nat → Int32} {q : Nat} {zc zp zr zs zf : Nat → Int32} {z : Nat} {zm zt : Int64} {k : Nat} (hq : q ≤ 100) (hk : k < 1000) : Met l yX1_hasPlacesFor wsX1_hasPlacesFor { frames := 0, cells := 0, slots := 0, locals := 0 } (va_Pc [.ref (ad 9), .int (nI k)] (fun U => va_P (dC, dI) vwCl (wC cI cZ ad sm fe ex dy gp gc op gr st dl wo n yc ya ys yd q zc zp zr zs zf z zm zt) U.heap ∧ va_K (dC, dI) vwCl [(cI, .int), (cZ, .boolean)] U)) (vp_Si (fun r => r = nI (if k ≤ 100 - q then 1 else 0))) 0 0 (fun _ => False) := by
  refine Met.ofW (cc := cX1_hasPlacesFor) (maxL := 2) (ret := (some .boolean)) (by decide) rfl ?_
  intro p e s m args below meth c s₁ B hml hv
  obtain ⟨rfl, hP, hK⟩ := hv
  have hx := B.exec
  have hb := B.bytes
  have hr := B.returns
  have hts := atoms_spec (ws := wsX1_hasPlacesFor) B.pre
  have hown : s.vm.findClass RX1 = some m.cls := findClass_of_methodNamed B.named
  have hlocks := B.notSynchronized
  have hl := lv_entry ([.ref (ad 9), .int (nI k)]) (n := 2) (Nat.le_of_ble_eq_true rfl)
  rw [lg_entry_eq]
  generalize (lg_sl ([.ref (ad 9), .int (nI k)]) ++ List.replicate (2 - (lg_sl ([.ref (ad 9), .int (nI k)])).length) Slot.unset).toArray = ls at hl ⊢
  have hl : lv_has ls 2 [(0, .ref (ad 9)), (1, .int (nI k))] := hl
  have hiX1 : ∀ w ∈ wsX10, w ∈ wsX1_hasPlacesFor := by decide +kernel
  have hf24 := hts (.fieldLink RX1 24 "SettlementFund$PaymentBook" "size" "I") (by decide +kernel)
  refine lv_iload_n hx hb dX1_hasPlacesFor_0 rfl (lv_at hl 1 rfl) ?_
  refine lv_bipush (v := nI 100) hx hb dX1_hasPlacesFor_1 (by decide) ?_
  refine lv_aload_n hx hb dX1_hasPlacesFor_3 rfl (lv_at hl 0 rfl) ?_
  refine gC_9_4 hx hb hts hiX1 hown hK hP hf24 dX1_hasPlacesFor_4 ?_
  refine lv_isub hx hb dX1_hasPlacesFor_7 ?_
  refine zt_i (y := nI (100 - q)) (pk_sub (by omega)) ?_
  refine zb_gt (tgt := 15) hx hb (by omega) (by omega) dX1_hasPlacesFor_8 (by decide) (fun c_8 => ?_) (fun c_8 => ?_)
  · refine lv_iconst (v := nI 0) hx hb dX1_hasPlacesFor_15 (by decide) ?_
    exact W.zret (v := nI 0) hx hb hr (rfl) (fun t ht hW => ⟨nI 0, rfl, by rw [if_neg (by omega)], ht⟩) (fun _ h => nomatch h) dX1_hasPlacesFor_16
  · refine lv_iconst (v := nI 1) hx hb dX1_hasPlacesFor_11 (by decide) ?_
    refine lv_goto (tgt := 16) hx hb dX1_hasPlacesFor_12 (by decide) ?_
    exact W.zret (v := nI 1) hx hb hr (rfl) (fun t ht hW => ⟨nI 1, rfl, by rw [if_pos (by omega)], ht⟩) (fun _ h => nomatch h) dX1_hasPlacesFor_16
section
variable {p : Program} {e : Env} {R : Room} {s : State} {m : MethodId} {args : Array Value} {below : List Frame} {meth : Method} {c : Code} {H : Heap} {locs : List Loc} {cells slots : Nat} {Q : State → Prop} {cc : ByteArray} {pc : Nat} {ls : Array Slot} {rest : List Value} {own : String} {index nL : Nat} {Ts : List Cond} {H0 : Heap} {A0 : Nat → Prop}
theorem k_X1_hasPlacesFor (l : Launch) {dC : Nat → ClassId} {dI : Nat → Nat → Nat} {cI cZ : ClassId} {ad : Nat → Nat} {sm fe ex dy : Int32} {gp gc op gr st dl wo : Nat → Int32} {n : Nat} {yc ya ys yd : Nat → Int32} {q : Nat} {zc zp zr zs zf : Nat → Int32} {z : Nat} {zm zt : Int64} {k : Nat} (hq : q ≤ 100) (hk : k < 1000) (hx : p.tables.exec = Jvm.exec) (hb : c.code = cc) (hml : c.maxLocals = nL) (hown : s.vm.findClass own = some m.cls) (hts : ∀ w ∈ Ts, w.before args s = true) (hK : va_K (dC, dI) vwCl [(cI, .int), (cZ, .boolean)] s) (hP : va_P (dC, dI) vwCl (wC cI cZ ad sm fe ex dy gp gc op gr st dl wo n yc ya ys yd q zc zp zr zs zf z zm zt) H) (hg : GoodIn Ts (wsV own index RX1 yX1_hasPlacesFor wsX1_hasPlacesFor)) (hR : 0 + 1 ≤ R.frames ∧ 8 + (2 + 11) + 0 ≤ R.locals) (hc : cells ≤ R.cells ∧ slots ≤ R.slots) (hl : ls.size = nL) (hw : (rest.map fun v => v.category).sum ≤ 8) (hdg : decode cc pc = .ok (.invokevirtual index, 3)) (kk : W p l e R s m args below meth c H locs cells slots Q (F0 m (pc + 3) ls (.int (nI (if k ≤ 100 - q then 1 else 0)) :: rest))) : W p l e R s m args below meth c H locs cells slots Q (F0 m pc ls (.int (nI k) :: .ref (ad 9) :: rest)) := zc_ro (W.runV (As := [.int (nI k)]) (rest := rest) ⟨hx, hb, hml, hown, hts⟩ (c_X1_hasPlacesFor (dC := dC) (dI := dI) (cI := cI) (cZ := cZ) (ad := ad) (sm := sm) (fe := fe) (ex := ex) (dy := dy) (gp := gp) (gc := gc) (op := op) (gr := gr) (st := st) (dl := dl) (wo := wo) (n := n) (yc := yc) (ya := ya) (ys := ys) (yd := yd) (q := q) (zc := zc) (zp := zp) (zr := zr) (zs := zs) (zf := zf) (z := z) (zm := zm) (zt := zt) (k := k) l hq hk) (cwV 1 hts hg rfl rfl rfl (by decide +kernel) hR) ⟨fun a U g mk q => ⟨q.1, q.2.1, va_K.moved (u := U) (U := U.calling g mk a) (Vm.Alike.refl U.vm) q.2.2⟩, rC_9 hK hP, fun U hU hW => ⟨rfl, by rw [hU]; exact hP, va_K.moved hW.alike hK⟩⟩ rfl rfl hl rfl (lv_room hw) hdg hc) (fun r h => by subst h; exact kk)
end
set_option maxHeartbeats 4000000 in
set_option maxRecDepth 100000 in
theorem c_X1_add (l : Launch) {dC : Nat → ClassId} {dI : Nat → Nat → Nat} {cI cZ : ClassId} {ad : Nat → Nat} {sm fe ex dy : Int32} {gp gc op gr st dl wo : Nat → Int32} {n : Nat} {yc ya ys yd : Nat → Int32} {q : Nat} {zc zp zr zs zf : Nat → Int32} {z : Nat} {zm zt : Int64} {cl : Int32} {am : Int32} {d : Int32} (hI : iwC ad) (hq : q < 100) : Met l yX1_add wsX1_add { frames := 1, cells := 0, slots := 0, locals := 21 } (va_Pc [.ref (ad 9), .int cl, .int am, .int d] (fun U => va_P (dC, dI) vwCl (wC cI cZ ad sm fe ex dy gp gc op gr st dl wo n yc ya ys yd q zc zp zr zs zf z zm zt) U.heap ∧ va_K (dC, dI) vwCl [(cI, .int), (cZ, .boolean)] U)) (va_Qv (fun _ : Unit => True) (fun _ t => va_P (dC, dI) vwCl (wC cI cZ ad sm fe ex dy gp gc op gr st dl wo n (upd yc q cl) (upd ya q am) (upd ys q (nI 0)) (upd yd q d) (q + 1) zc zp zr zs zf z zm zt) t.heap) (awC ad)) 0 0 (awC ad) := by
  refine Met.ofW (cc := cX1_add) (maxL := 4) (ret := none) (by decide) rfl ?_
  intro p e s m args below meth c s₁ B hml hv
  obtain ⟨rfl, hP, hK⟩ := hv
  have hx := B.exec
  have hb := B.bytes
  have hr := B.returns
  have hts := atoms_spec (ws := wsX1_add) B.pre
  have hown : s.vm.findClass RX1 = some m.cls := findClass_of_methodNamed B.named
  have hlocks := B.notSynchronized
  have hS : va_S (awC ad) s.heap s.heap [] := va_S.rf
  have hl := lv_entry ([.ref (ad 9), .int cl, .int am, .int d]) (n := 4) (Nat.le_of_ble_eq_true rfl)
  rw [lg_entry_eq]
  generalize (lg_sl ([.ref (ad 9), .int cl, .int am, .int d]) ++ List.replicate (4 - (lg_sl ([.ref (ad 9), .int cl, .int am, .int d])).length) Slot.unset).toArray = ls at hl ⊢
  have hl : lv_has ls 4 [(0, .ref (ad 9)), (1, .int cl), (2, .int am), (3, .int d)] := hl
  have hiX1 : ∀ w ∈ wsX10, w ∈ wsX1_add := by decide +kernel
  have hf9 := hts (.fieldLink RX1 9 "SettlementFund$PaymentBook" "claim" "[I") (by decide +kernel)
  have hf24 := hts (.fieldLink RX1 24 "SettlementFund$PaymentBook" "size" "I") (by decide +kernel)
  have hf15 := hts (.fieldLink RX1 15 "SettlementFund$PaymentBook" "amount" "[I") (by decide +kernel)
  have hf18 := hts (.fieldLink RX1 18 "SettlementFund$PaymentBook" "state" "[I") (by decide +kernel)
  have hf21 := hts (.fieldLink RX1 21 "SettlementFund$PaymentBook" "dayMade" "[I") (by decide +kernel)
  refine lv_aload_n hx hb dX1_add_0 rfl (lv_at hl 0 rfl) ?_
  refine lv_iconst (v := nI 1) hx hb dX1_add_1 (by decide) ?_
  refine k_X1_hasPlacesFor l (k := 1) (hq := by omega) (hk := by decide) hx hb hml hown hts hK hP gX1_add_X1_hasPlacesFor ⟨Nat.le_of_ble_eq_true rfl, Nat.le_of_ble_eq_true rfl⟩ ⟨Nat.le_of_ble_eq_true rfl, Nat.le_of_ble_eq_true rfl⟩ hl.1 (Nat.le_of_ble_eq_true rfl) dX1_add_2 ?_
  refine zi_eq (tgt := 58) hx hb (by split <;> decide) dX1_add_5 (by decide) (fun c_5 => (show False by rw [if_pos (by omega)] at c_5; exact absurd c_5 (by decide)).elim) (fun c_5 => ?_)
  refine lv_aload_n hx hb dX1_add_8 rfl (lv_at hl 0 rfl) ?_
  refine gC_9_0 hx hb hts hiX1 hown hK hP hf9 dX1_add_9 ?_
  refine lv_aload_n hx hb dX1_add_12 rfl (lv_at hl 0 rfl) ?_
  refine gC_9_4 hx hb hts hiX1 hown hK hP hf24 dX1_add_13 ?_
  refine lv_iload_n hx hb dX1_add_16 rfl (lv_at hl 1 rfl) ?_
  refine sC_10 hx hb hK hP hI (fun _ h => h) hS (by omega) dX1_add_17 (fun H locs hP hS => ?_)
  refine lv_aload_n hx hb dX1_add_18 rfl (lv_at hl 0 rfl) ?_
  refine gC_9_1 hx hb hts hiX1 hown hK hP hf15 dX1_add_19 ?_
  refine lv_aload_n hx hb dX1_add_22 rfl (lv_at hl 0 rfl) ?_
  refine gC_9_4 hx hb hts hiX1 hown hK hP hf24 dX1_add_23 ?_
  refine lv_iload_n hx hb dX1_add_26 rfl (lv_at hl 2 rfl) ?_
  refine sC_11 hx hb hK hP hI (fun _ h => h) hS (by omega) dX1_add_27 (fun H locs hP hS => ?_)
  refine lv_aload_n hx hb dX1_add_28 rfl (lv_at hl 0 rfl) ?_
  refine gC_9_2 hx hb hts hiX1 hown hK hP hf18 dX1_add_29 ?_
  refine lv_aload_n hx hb dX1_add_32 rfl (lv_at hl 0 rfl) ?_
  refine gC_9_4 hx hb hts hiX1 hown hK hP hf24 dX1_add_33 ?_
  refine lv_iconst (v := nI 0) hx hb dX1_add_36 (by decide) ?_
  refine sC_12 hx hb hK hP hI (fun _ h => h) hS (by omega) dX1_add_37 (fun H locs hP hS => ?_)
  refine lv_aload_n hx hb dX1_add_38 rfl (lv_at hl 0 rfl) ?_
  refine gC_9_3 hx hb hts hiX1 hown hK hP hf21 dX1_add_39 ?_
  refine lv_aload_n hx hb dX1_add_42 rfl (lv_at hl 0 rfl) ?_
  refine gC_9_4 hx hb hts hiX1 hown hK hP hf24 dX1_add_43 ?_
  refine lv_iload_n hx hb dX1_add_46 rfl (lv_at hl 3 rfl) ?_
  refine sC_13 hx hb hK hP hI (fun _ h => h) hS (by omega) dX1_add_47 (fun H locs hP hS => ?_)
  refine lv_aload_n hx hb dX1_add_48 rfl (lv_at hl 0 rfl) ?_
  refine lv_dup hx hb dX1_add_49 rfl ?_
  refine gC_9_4 hx hb hts hiX1 hown hK hP hf24 dX1_add_50 ?_
  refine lv_iconst (v := nI 1) hx hb dX1_add_53 (by decide) ?_
  refine lv_iadd hx hb dX1_add_54 ?_
  refine zt_i (y := nI (q + 1)) (nI_add _ _) ?_
  refine uC_9_4 hx hb hts hiX1 hown hK hP hf24 hI (fun _ h => h) hS dX1_add_55 (fun H locs hP hS => ?_)
  exact W.vret hx hb hr (fun t ht hW => ⟨⟨(), rfl, trivial, by (try dsimp only); rw [ht]; exact hP⟩, hS.F ht⟩) hS.2.2 dX1_add_58
section
variable {p : Program} {e : Env} {R : Room} {s : State} {m : MethodId} {args : Array Value} {below : List Frame} {meth : Method} {c : Code} {H : Heap} {locs : List Loc} {cells slots : Nat} {Q : State → Prop} {cc : ByteArray} {pc : Nat} {ls : Array Slot} {rest : List Value} {own : String} {index nL : Nat} {Ts : List Cond} {H0 : Heap} {A0 : Nat → Prop}
theorem k_X1_add (l : Launch) {dC : Nat → ClassId} {dI : Nat → Nat → Nat} {cI cZ : ClassId} {ad : Nat → Nat} {sm fe ex dy : Int32} {gp gc op gr st dl wo : Nat → Int32} {n : Nat} {yc ya ys yd : Nat → Int32} {q : Nat} {zc zp zr zs zf : Nat → Int32} {z : Nat} {zm zt : Int64} {cl : Int32} {am : Int32} {d : Int32} (hq : q < 100) (hx : p.tables.exec = Jvm.exec) (hb : c.code = cc) (hml : c.maxLocals = nL) (hown : s.vm.findClass own = some m.cls) (hts : ∀ w ∈ Ts, w.before args s = true) (hK : va_K (dC, dI) vwCl [(cI, .int), (cZ, .boolean)] s) (hP : va_P (dC, dI) vwCl (wC cI cZ ad sm fe ex dy gp gc op gr st dl wo n yc ya ys yd q zc zp zr zs zf z zm zt) H) (hg : GoodIn Ts (wsV own index RX1 yX1_add wsX1_add)) (hR : 1 + 1 ≤ R.frames ∧ 8 + (4 + 11) + 21 ≤ R.locals) (hc : cells ≤ R.cells ∧ slots ≤ R.slots) (hl : ls.size = nL) (hw : (rest.map fun v => v.category).sum ≤ 8) (hdg : decode cc pc = .ok (.invokevirtual index, 3)) (hI : iwC ad) (hA : ∀ x, awC ad x → A0 x) (hS : va_S A0 H0 H locs) (kk : ∀ (H1 : Heap) (locs1 : List Loc), va_P (dC, dI) vwCl (wC cI cZ ad sm fe ex dy gp gc op gr st dl wo n (upd yc q cl) (upd ya q am) (upd ys q (nI 0)) (upd yd q d) (q + 1) zc zp zr zs zf z zm zt) H1 → va_S A0 H0 H1 locs1 → (∀ q : Nat, q < H.size → ¬ awC ad q → H1[q]? = H[q]?) → W p l e R s m args below meth c H1 locs1 cells slots Q (F0 m (pc + 3) ls (rest))) : W p l e R s m args below meth c H locs cells slots Q (F0 m pc ls (.int d :: .int am :: .int cl :: .ref (ad 9) :: rest)) := va_callv (va_runV (As := [.int cl, .int am, .int d]) (rest := rest) ⟨hx, hb, hml, hown, hts⟩ (c_X1_add (dC := dC) (dI := dI) (cI := cI) (cZ := cZ) (ad := ad) (sm := sm) (fe := fe) (ex := ex) (dy := dy) (gp := gp) (gc := gc) (op := op) (gr := gr) (st := st) (dl := dl) (wo := wo) (n := n) (yc := yc) (ya := ya) (ys := ys) (yd := yd) (q := q) (zc := zc) (zp := zp) (zr := zr) (zs := zs) (zf := zf) (z := z) (zm := zm) (zt := zt) (cl := cl) (am := am) (d := d) l hI hq) (cwV 3 hts hg rfl rfl rfl (by decide +kernel) hR) ⟨fun a U g mk q => ⟨q.1, q.2.1, va_K.moved (u := U) (U := U.calling g mk a) (Vm.Alike.refl U.vm) q.2.2⟩, rC_9 hK hP, fun U hU hW => ⟨rfl, by rw [hU]; exact hP, va_K.moved hW.alike hK⟩⟩ rfl rfl hl rfl (lv_room hw) hdg hc) hS (fun q _ h => hA q h) hA (fun u t H1 locs1 ht _ hu hB hz hk hS1 => kk H1 locs1 (by rw [ht] at hB; exact hB) hS1 hk)
end
set_option maxHeartbeats 4000000 in
set_option maxRecDepth 100000 in
theorem c_X1_voidLate (l : Launch) {dC : Nat → ClassId} {dI : Nat → Nat → Nat} {cI cZ : ClassId} {ad : Nat → Nat} {sm fe ex dy : Int32} {gp gc op gr st dl wo : Nat → Int32} {n : Nat} {yc ya ys yd : Nat → Int32} {q : Nat} {zc zp zr zs zf : Nat → Int32} {z : Nat} {zm zt : Int64} {d : Int32} (hI : iwC ad) (hq : q ≤ 100) : Met l yX1_voidLate wsX1_voidLate { frames := 0, cells := 0, slots := 0, locals := 0 } (va_Pc [.ref (ad 9), .int d] (fun U => va_P (dC, dI) vwCl (wC cI cZ ad sm fe ex dy gp gc op gr st dl wo n yc ya ys yd q zc zp zr zs zf z zm zt) U.heap ∧ va_K (dC, dI) vwCl [(cI, .int), (cZ, .boolean)] U)) (va_Qv (fun _ : Unit => True) (fun _ t => va_P (dC, dI) vwCl (wC cI cZ ad sm fe ex dy gp gc op gr st dl wo n yc ya (voidF ys yd d q) yd q zc zp zr zs zf z zm zt) t.heap) (awC ad)) 0 0 (awC ad) := by
  refine Met.ofW (cc := cX1_voidLate) (maxL := 3) (ret := none) (by decide) rfl ?_
  intro p e s m args below meth c s₁ B hml hv
  obtain ⟨rfl, hP, hK⟩ := hv
  have hx := B.exec
  have hb := B.bytes
  have hr := B.returns
  have hts := atoms_spec (ws := wsX1_voidLate) B.pre
  have hown : s.vm.findClass RX1 = some m.cls := findClass_of_methodNamed B.named
  have hlocks := B.notSynchronized
  have hS : va_S (awC ad) s.heap s.heap [] := va_S.rf
  have hl := lv_entry ([.ref (ad 9), .int d]) (n := 3) (Nat.le_of_ble_eq_true rfl)
  rw [lg_entry_eq]
  generalize (lg_sl ([.ref (ad 9), .int d]) ++ List.replicate (3 - (lg_sl ([.ref (ad 9), .int d])).length) Slot.unset).toArray = ls at hl ⊢
  have hl : lv_has ls 3 [(0, .ref (ad 9)), (1, .int d)] := hl
  have hiX1 : ∀ w ∈ wsX10, w ∈ wsX1_voidLate := by decide +kernel
  have hf24 := hts (.fieldLink RX1 24 "SettlementFund$PaymentBook" "size" "I") (by decide +kernel)
  have hf18 := hts (.fieldLink RX1 18 "SettlementFund$PaymentBook" "state" "[I") (by decide +kernel)
  have hf21 := hts (.fieldLink RX1 21 "SettlementFund$PaymentBook" "dayMade" "[I") (by decide +kernel)
  refine lv_iconst (v := nI 0) hx hb dX1_voidLate_0 (by decide) ?_
  refine lv_istore_n (lv' := [(2, .int (nI 0)), (0, .ref (ad 9)), (1, .int d)]) hx hb dX1_voidLate_1 rfl hl (by decide) rfl (fun ls hl => ?_)
  have e_1 : ys = voidF ys yd d 0 := by first | rfl | (simp [voidF]; done) | rw [show q = i by omega]
  rw [e_1] at hP
  refine zl_rw (fun a9 : Nat => wC cI cZ ad sm fe ex dy gp gc op gr st dl wo n yc ya (voidF ys yd d a9) yd q zc zp zr zs zf z zm zt) (fun a9 : Nat => [(0, .ref (ad 9)), (1, .int d), (2, .int (nI a9))]) (fun a9 : Nat => a9 ≤ q) (fun a9 : Nat => q - a9) 0 (Nat.zero_le _) hP hS (lv_sub hl [1, 2, 0] rfl) ?_
  intro a9 hi_2 ih_2 H locs hP hS ls hl
  obtain ⟨i, rfl⟩ : ∃ z, z = a9 := ⟨_, rfl⟩
  have hi_2 : i ≤ q := hi_2
  have hl : lv_has ls 3 [(0, .ref (ad 9)), (1, .int d), (2, .int (nI i))] := hl
  have hP : va_P (dC, dI) vwCl (wC cI cZ ad sm fe ex dy gp gc op gr st dl wo n yc ya (voidF ys yd d i) yd q zc zp zr zs zf z zm zt) H := hP
  refine lv_iload_n hx hb dX1_voidLate_2 rfl (lv_at hl 2 rfl) ?_
  refine lv_aload_n hx hb dX1_voidLate_3 rfl (lv_at hl 0 rfl) ?_
  refine gC_9_4 hx hb hts hiX1 hown hK hP hf24 dX1_voidLate_4 ?_
  refine zb_ge (tgt := 45) hx hb (by omega) (by omega) dX1_voidLate_7 (by decide) (fun c_7 => ?_) (fun c_7 => ?_)
  · have e_2 : voidF ys yd d i = voidF ys yd d q := by first | rfl | (simp [voidF, c_7]; done) | rw [show q = i by omega]
    rw [e_2] at hP
    exact W.vret hx hb hr (fun t ht hW => ⟨⟨(), rfl, trivial, by (try dsimp only); rw [ht]; exact hP⟩, hS.F ht⟩) hS.2.2 dX1_voidLate_45
  · refine lv_aload_n hx hb dX1_voidLate_10 rfl (lv_at hl 0 rfl) ?_
    refine gC_9_2 hx hb hts hiX1 hown hK hP hf18 dX1_voidLate_11 ?_
    refine lv_iload_n hx hb dX1_voidLate_14 rfl (lv_at hl 2 rfl) ?_
    refine lC_12 hx hb hK hP (by omega) dX1_voidLate_15 ?_
    refine lv_if_ne (tgt := 39) hx hb dX1_voidLate_16 (by decide) (fun c_16 => ?_) (fun c_16 => ?_)
    · refine lv_iinc (v := nI (i + 1)) (lv' := [(2, .int (nI (i + 1))), (0, .ref (ad 9)), (1, .int d)]) hx hb dX1_voidLate_39 hl (k := 2) rfl (zz_inc _) (by decide) rfl (fun ls hl => ?_)
      refine lv_goto (tgt := 2) hx hb dX1_voidLate_42 (by decide) ?_
      have e_3 : voidF ys yd d i = voidF ys yd d (i + 1) := by first | rfl | (simp [voidF, c_7, c_16]; done) | rw [show q = i by omega]
      rw [e_3] at hP
      exact ih_2 (i + 1) (by omega) (by omega) H locs hP hS ls (lv_sub hl [1, 2, 0] rfl)
    · refine lv_iload_n hx hb dX1_voidLate_19 rfl (lv_at hl 1 rfl) ?_
      refine lv_aload_n hx hb dX1_voidLate_20 rfl (lv_at hl 0 rfl) ?_
      refine gC_9_3 hx hb hts hiX1 hown hK hP hf21 dX1_voidLate_21 ?_
      refine lv_iload_n hx hb dX1_voidLate_24 rfl (lv_at hl 2 rfl) ?_
      refine lC_13 hx hb hK hP (by omega) dX1_voidLate_25 ?_
      refine lv_isub hx hb dX1_voidLate_26 ?_
      refine lv_bipush (v := nI 30) hx hb dX1_voidLate_27 (by decide) ?_
      refine lv_icmp_le (tgt := 39) hx hb dX1_voidLate_29 (by decide) (fun c_29 => ?_) (fun c_29 => ?_)
      · refine lv_iinc (v := nI (i + 1)) (lv' := [(2, .int (nI (i + 1))), (0, .ref (ad 9)), (1, .int d)]) hx hb dX1_voidLate_39 hl (k := 2) rfl (zz_inc _) (by decide) rfl (fun ls hl => ?_)
        refine lv_goto (tgt := 2) hx hb dX1_voidLate_42 (by decide) ?_
        have e_4 : voidF ys yd d i = voidF ys yd d (i + 1) := by first | rfl | (simp [voidF, c_7, c_16, c_29]; done) | rw [show q = i by omega]
        rw [e_4] at hP
        exact ih_2 (i + 1) (by omega) (by omega) H locs hP hS ls (lv_sub hl [1, 2, 0] rfl)
      · refine lv_aload_n hx hb dX1_voidLate_32 rfl (lv_at hl 0 rfl) ?_
        refine gC_9_2 hx hb hts hiX1 hown hK hP hf18 dX1_voidLate_33 ?_
        refine lv_iload_n hx hb dX1_voidLate_36 rfl (lv_at hl 2 rfl) ?_
        refine lv_iconst (v := nI 2) hx hb dX1_voidLate_37 (by decide) ?_
        refine sC_12 hx hb hK hP hI (fun _ h => h) hS (by omega) dX1_voidLate_38 (fun H locs hP hS => ?_)
        refine lv_iinc (v := nI (i + 1)) (lv' := [(2, .int (nI (i + 1))), (0, .ref (ad 9)), (1, .int d)]) hx hb dX1_voidLate_39 hl (k := 2) rfl (zz_inc _) (by decide) rfl (fun ls hl => ?_)
        refine lv_goto (tgt := 2) hx hb dX1_voidLate_42 (by decide) ?_
        have e_5 : upd (voidF ys yd d i) i (nI 2) = voidF ys yd d (i + 1) := by first | rfl | (simp [voidF, c_7, c_16, c_29]; done) | rw [show q = i by omega]
        rw [e_5] at hP
        exact ih_2 (i + 1) (by omega) (by omega) H locs hP hS ls (lv_sub hl [1, 2, 0] rfl)
section
variable {p : Program} {e : Env} {R : Room} {s : State} {m : MethodId} {args : Array Value} {below : List Frame} {meth : Method} {c : Code} {H : Heap} {locs : List Loc} {cells slots : Nat} {Q : State → Prop} {cc : ByteArray} {pc : Nat} {ls : Array Slot} {rest : List Value} {own : String} {index nL : Nat} {Ts : List Cond} {H0 : Heap} {A0 : Nat → Prop}
theorem k_X1_voidLate (l : Launch) {dC : Nat → ClassId} {dI : Nat → Nat → Nat} {cI cZ : ClassId} {ad : Nat → Nat} {sm fe ex dy : Int32} {gp gc op gr st dl wo : Nat → Int32} {n : Nat} {yc ya ys yd : Nat → Int32} {q : Nat} {zc zp zr zs zf : Nat → Int32} {z : Nat} {zm zt : Int64} {d : Int32} (hq : q ≤ 100) (hx : p.tables.exec = Jvm.exec) (hb : c.code = cc) (hml : c.maxLocals = nL) (hown : s.vm.findClass own = some m.cls) (hts : ∀ w ∈ Ts, w.before args s = true) (hK : va_K (dC, dI) vwCl [(cI, .int), (cZ, .boolean)] s) (hP : va_P (dC, dI) vwCl (wC cI cZ ad sm fe ex dy gp gc op gr st dl wo n yc ya ys yd q zc zp zr zs zf z zm zt) H) (hg : GoodIn Ts (wsV own index RX1 yX1_voidLate wsX1_voidLate)) (hR : 0 + 1 ≤ R.frames ∧ 8 + (3 + 11) + 0 ≤ R.locals) (hc : cells ≤ R.cells ∧ slots ≤ R.slots) (hl : ls.size = nL) (hw : (rest.map fun v => v.category).sum ≤ 8) (hdg : decode cc pc = .ok (.invokevirtual index, 3)) (hI : iwC ad) (hA : ∀ x, awC ad x → A0 x) (hS : va_S A0 H0 H locs) (kk : ∀ (H1 : Heap) (locs1 : List Loc), va_P (dC, dI) vwCl (wC cI cZ ad sm fe ex dy gp gc op gr st dl wo n yc ya (voidF ys yd d q) yd q zc zp zr zs zf z zm zt) H1 → va_S A0 H0 H1 locs1 → (∀ q : Nat, q < H.size → ¬ awC ad q → H1[q]? = H[q]?) → W p l e R s m args below meth c H1 locs1 cells slots Q (F0 m (pc + 3) ls (rest))) : W p l e R s m args below meth c H locs cells slots Q (F0 m pc ls (.int d :: .ref (ad 9) :: rest)) := va_callv (va_runV (As := [.int d]) (rest := rest) ⟨hx, hb, hml, hown, hts⟩ (c_X1_voidLate (dC := dC) (dI := dI) (cI := cI) (cZ := cZ) (ad := ad) (sm := sm) (fe := fe) (ex := ex) (dy := dy) (gp := gp) (gc := gc) (op := op) (gr := gr) (st := st) (dl := dl) (wo := wo) (n := n) (yc := yc) (ya := ya) (ys := ys) (yd := yd) (q := q) (zc := zc) (zp := zp) (zr := zr) (zs := zs) (zf := zf) (z := z) (zm := zm) (zt := zt) (d := d) l hI hq) (cwV 1 hts hg rfl rfl rfl (by decide +kernel) hR) ⟨fun a U g mk q => ⟨q.1, q.2.1, va_K.moved (u := U) (U := U.calling g mk a) (Vm.Alike.refl U.vm) q.2.2⟩, rC_9 hK hP, fun U hU hW => ⟨rfl, by rw [hU]; exact hP, va_K.moved hW.alike hK⟩⟩ rfl rfl hl rfl (lv_room hw) hdg hc) hS (fun q _ h => hA q h) hA (fun u t H1 locs1 ht _ hu hB hz hk hS1 => kk H1 locs1 (by rw [ht] at hB; exact hB) hS1 hk)
end
set_option maxHeartbeats 4000000 in
set_option maxRecDepth 100000 in
theorem c_X1_hasOpen (l : Launch) {dC : Nat → ClassId} {dI : Nat → Nat → Nat} {cI cZ : ClassId} {ad : Nat → Nat} {sm fe ex dy : Int32} {gp gc op gr st dl wo : Nat → Int32} {n : Nat} {yc ya ys yd : Nat → Int32} {q : Nat} {zc zp zr zs zf : Nat → Int32} {z : Nat} {zm zt : Int64}  (hq : q ≤ 100) : Met l yX1_hasOpen wsX1_hasOpen { frames := 0, cells := 0, slots := 0, locals := 0 } (va_Pc [.ref (ad 9)] (fun U => va_P (dC, dI) vwCl (wC cI cZ ad sm fe ex dy gp gc op gr st dl wo n yc ya ys yd q zc zp zr zs zf z zm zt) U.heap ∧ va_K (dC, dI) vwCl [(cI, .int), (cZ, .boolean)] U)) (vp_Si (fun r => r = nI (if openB ys q = true then 1 else 0))) 0 0 (fun _ => False) := by
  refine Met.ofW (cc := cX1_hasOpen) (maxL := 2) (ret := (some .boolean)) (by decide) rfl ?_
  intro p e s m args below meth c s₁ B hml hv
  obtain ⟨rfl, hP, hK⟩ := hv
  have hx := B.exec
  have hb := B.bytes
  have hr := B.returns
  have hts := atoms_spec (ws := wsX1_hasOpen) B.pre
  have hown : s.vm.findClass RX1 = some m.cls := findClass_of_methodNamed B.named
  have hlocks := B.notSynchronized
  have hl := lv_entry ([.ref (ad 9)]) (n := 2) (Nat.le_of_ble_eq_true rfl)
  rw [lg_entry_eq]
  generalize (lg_sl ([.ref (ad 9)]) ++ List.replicate (2 - (lg_sl ([.ref (ad 9)])).length) Slot.unset).toArray = ls at hl ⊢
  have hl : lv_has ls 2 [(0, .ref (ad 9))] := hl
  have hiX1 : ∀ w ∈ wsX10, w ∈ wsX1_hasOpen := by decide +kernel
  have hf24 := hts (.fieldLink RX1 24 "SettlementFund$PaymentBook" "size" "I") (by decide +kernel)
  have hf18 := hts (.fieldLink RX1 18 "SettlementFund$PaymentBook" "state" "[I") (by decide +kernel)
  refine lv_iconst (v := nI 0) hx hb dX1_hasOpen_0 (by decide) ?_
  refine lv_istore_n (lv' := [(1, .int (nI 0)), (0, .ref (ad 9))]) hx hb dX1_hasOpen_1 rfl hl (by decide) rfl (fun ls hl => ?_)
  refine zl_ro (fun a9 : Nat => [(0, .ref (ad 9)), (1, .int (nI a9))]) (fun a9 : Nat => a9 ≤ q ∧ openB ys a9 = false) (fun a9 : Nat => q - a9) 0 (⟨Nat.zero_le _, rfl⟩) (lv_sub hl [1, 0] rfl) ?_
  intro a9 hi_2 ih_2 ls hl
  obtain ⟨i, rfl⟩ : ∃ z, z = a9 := ⟨_, rfl⟩
  have hi_2 : i ≤ q ∧ openB ys i = false := hi_2
  obtain ⟨hi, ho⟩ := hi_2
  have hl : lv_has ls 2 [(0, .ref (ad 9)), (1, .int (nI i))] := hl
  refine lv_iload_n hx hb dX1_hasOpen_2 rfl (lv_at hl 1 rfl) ?_
  refine lv_aload_n hx hb dX1_hasOpen_3 rfl (lv_at hl 0 rfl) ?_
  refine gC_9_4 hx hb hts hiX1 hown hK hP hf24 dX1_hasOpen_4 ?_
  refine zb_ge (tgt := 27) hx hb (by omega) (by omega) dX1_hasOpen_7 (by decide) (fun c_7 => ?_) (fun c_7 => ?_)
  · refine lv_iconst (v := nI 0) hx hb dX1_hasOpen_27 (by decide) ?_
    exact W.zret (v := nI 0) hx hb hr (rfl) (fun t ht hW => ⟨nI 0, rfl, by rw [show q = i by omega, ho]; rfl, ht⟩) (fun _ h => nomatch h) dX1_hasOpen_28
  · refine lv_aload_n hx hb dX1_hasOpen_10 rfl (lv_at hl 0 rfl) ?_
    refine gC_9_2 hx hb hts hiX1 hown hK hP hf18 dX1_hasOpen_11 ?_
    refine lv_iload_n hx hb dX1_hasOpen_14 rfl (lv_at hl 1 rfl) ?_
    refine lC_12 hx hb hK hP (by omega) dX1_hasOpen_15 ?_
    refine lv_if_ne (tgt := 21) hx hb dX1_hasOpen_16 (by decide) (fun c_16 => ?_) (fun c_16 => ?_)
    · refine lv_iinc (v := nI (i + 1)) (lv' := [(1, .int (nI (i + 1))), (0, .ref (ad 9))]) hx hb dX1_hasOpen_21 hl (k := 1) rfl (zz_inc _) (by decide) rfl (fun ls hl => ?_)
      refine lv_goto (tgt := 2) hx hb dX1_hasOpen_24 (by decide) ?_
      exact ih_2 (i + 1) (⟨by omega, by unfold openB anyB; unfold openB at ho; rw [ho]; simp [c_16]⟩) (by omega) ls (lv_sub hl [1, 0] rfl)
    · refine lv_iconst (v := nI 1) hx hb dX1_hasOpen_19 (by decide) ?_
      exact W.zret (v := nI 1) hx hb hr (rfl) (fun t ht hW => ⟨nI 1, rfl, by rw [if_pos (show openB ys q = true from anyB_of (i := i) (by omega) (by simp [c_16]))], ht⟩) (fun _ h => nomatch h) dX1_hasOpen_20
section
variable {p : Program} {e : Env} {R : Room} {s : State} {m : MethodId} {args : Array Value} {below : List Frame} {meth : Method} {c : Code} {H : Heap} {locs : List Loc} {cells slots : Nat} {Q : State → Prop} {cc : ByteArray} {pc : Nat} {ls : Array Slot} {rest : List Value} {own : String} {index nL : Nat} {Ts : List Cond} {H0 : Heap} {A0 : Nat → Prop}
theorem k_X1_hasOpen (l : Launch) {dC : Nat → ClassId} {dI : Nat → Nat → Nat} {cI cZ : ClassId} {ad : Nat → Nat} {sm fe ex dy : Int32} {gp gc op gr st dl wo : Nat → Int32} {n : Nat} {yc ya ys yd : Nat → Int32} {q : Nat} {zc zp zr zs zf : Nat → Int32} {z : Nat} {zm zt : Int64}  (hq : q ≤ 100) (hx : p.tables.exec = Jvm.exec) (hb : c.code = cc) (hml : c.maxLocals = nL) (hown : s.vm.findClass own = some m.cls) (hts : ∀ w ∈ Ts, w.before args s = true) (hK : va_K (dC, dI) vwCl [(cI, .int), (cZ, .boolean)] s) (hP : va_P (dC, dI) vwCl (wC cI cZ ad sm fe ex dy gp gc op gr st dl wo n yc ya ys yd q zc zp zr zs zf z zm zt) H) (hg : GoodIn Ts (wsV own index RX1 yX1_hasOpen wsX1_hasOpen)) (hR : 0 + 1 ≤ R.frames ∧ 8 + (2 + 11) + 0 ≤ R.locals) (hc : cells ≤ R.cells ∧ slots ≤ R.slots) (hl : ls.size = nL) (hw : (rest.map fun v => v.category).sum ≤ 8) (hdg : decode cc pc = .ok (.invokevirtual index, 3)) (kk : W p l e R s m args below meth c H locs cells slots Q (F0 m (pc + 3) ls (.int (nI (if openB ys q = true then 1 else 0)) :: rest))) : W p l e R s m args below meth c H locs cells slots Q (F0 m pc ls (.ref (ad 9) :: rest)) := zc_ro (W.runV (As := []) (rest := rest) ⟨hx, hb, hml, hown, hts⟩ (c_X1_hasOpen (dC := dC) (dI := dI) (cI := cI) (cZ := cZ) (ad := ad) (sm := sm) (fe := fe) (ex := ex) (dy := dy) (gp := gp) (gc := gc) (op := op) (gr := gr) (st := st) (dl := dl) (wo := wo) (n := n) (yc := yc) (ya := ya) (ys := ys) (yd := yd) (q := q) (zc := zc) (zp := zp) (zr := zr) (zs := zs) (zf := zf) (z := z) (zm := zm) (zt := zt) l hq) (cwV 0 hts hg rfl rfl rfl (by decide +kernel) hR) ⟨fun a U g mk q => ⟨q.1, q.2.1, va_K.moved (u := U) (U := U.calling g mk a) (Vm.Alike.refl U.vm) q.2.2⟩, rC_9 hK hP, fun U hU hW => ⟨rfl, by rw [hU]; exact hP, va_K.moved hW.alike hK⟩⟩ rfl rfl hl rfl (lv_room hw) hdg hc) (fun r h => by subst h; exact kk)
end
set_option maxHeartbeats 4000000 in
set_option maxRecDepth 100000 in
theorem c_X1_hasVoidFor (l : Launch) {dC : Nat → ClassId} {dI : Nat → Nat → Nat} {cI cZ : ClassId} {ad : Nat → Nat} {sm fe ex dy : Int32} {gp gc op gr st dl wo : Nat → Int32} {n : Nat} {yc ya ys yd : Nat → Int32} {q : Nat} {zc zp zr zs zf : Nat → Int32} {z : Nat} {zm zt : Int64} {w : Int32} (hq : q ≤ 100) : Met l yX1_hasVoidFor wsX1_hasVoidFor { frames := 0, cells := 0, slots := 0, locals := 0 } (va_Pc [.ref (ad 9), .int w] (fun U => va_P (dC, dI) vwCl (wC cI cZ ad sm fe ex dy gp gc op gr st dl wo n yc ya ys yd q zc zp zr zs zf z zm zt) U.heap ∧ va_K (dC, dI) vwCl [(cI, .int), (cZ, .boolean)] U)) (vp_Si (fun r => r = nI (if vdB yc ys w q = true then 1 else 0))) 0 0 (fun _ => False) := by
  refine Met.ofW (cc := cX1_hasVoidFor) (maxL := 3) (ret := (some .boolean)) (by decide) rfl ?_
  intro p e s m args below meth c s₁ B hml hv
  obtain ⟨rfl, hP, hK⟩ := hv
  have hx := B.exec
  have hb := B.bytes
  have hr := B.returns
  have hts := atoms_spec (ws := wsX1_hasVoidFor) B.pre
  have hown : s.vm.findClass RX1 = some m.cls := findClass_of_methodNamed B.named
  have hlocks := B.notSynchronized
  have hl := lv_entry ([.ref (ad 9), .int w]) (n := 3) (Nat.le_of_ble_eq_true rfl)
  rw [lg_entry_eq]
  generalize (lg_sl ([.ref (ad 9), .int w]) ++ List.replicate (3 - (lg_sl ([.ref (ad 9), .int w])).length) Slot.unset).toArray = ls at hl ⊢
  have hl : lv_has ls 3 [(0, .ref (ad 9)), (1, .int w)] := hl
  have hiX1 : ∀ w ∈ wsX10, w ∈ wsX1_hasVoidFor := by decide +kernel
  have hf24 := hts (.fieldLink RX1 24 "SettlementFund$PaymentBook" "size" "I") (by decide +kernel)
  have hf9 := hts (.fieldLink RX1 9 "SettlementFund$PaymentBook" "claim" "[I") (by decide +kernel)
  have hf18 := hts (.fieldLink RX1 18 "SettlementFund$PaymentBook" "state" "[I") (by decide +kernel)
  refine lv_iconst (v := nI 0) hx hb dX1_hasVoidFor_0 (by decide) ?_
  refine lv_istore_n (lv' := [(2, .int (nI 0)), (0, .ref (ad 9)), (1, .int w)]) hx hb dX1_hasVoidFor_1 rfl hl (by decide) rfl (fun ls hl => ?_)
  refine zl_ro (fun a9 : Nat => [(0, .ref (ad 9)), (1, .int w), (2, .int (nI a9))]) (fun a9 : Nat => a9 ≤ q ∧ vdB yc ys w a9 = false) (fun a9 : Nat => q - a9) 0 (⟨Nat.zero_le _, rfl⟩) (lv_sub hl [1, 2, 0] rfl) ?_
  intro a9 hi_2 ih_2 ls hl
  obtain ⟨i, rfl⟩ : ∃ z, z = a9 := ⟨_, rfl⟩
  have hi_2 : i ≤ q ∧ vdB yc ys w i = false := hi_2
  obtain ⟨hi, ho⟩ := hi_2
  have hl : lv_has ls 3 [(0, .ref (ad 9)), (1, .int w), (2, .int (nI i))] := hl
  refine lv_iload_n hx hb dX1_hasVoidFor_2 rfl (lv_at hl 2 rfl) ?_
  refine lv_aload_n hx hb dX1_hasVoidFor_3 rfl (lv_at hl 0 rfl) ?_
  refine gC_9_4 hx hb hts hiX1 hown hK hP hf24 dX1_hasVoidFor_4 ?_
  refine zb_ge (tgt := 38) hx hb (by omega) (by omega) dX1_hasVoidFor_7 (by decide) (fun c_7 => ?_) (fun c_7 => ?_)
  · refine lv_iconst (v := nI 0) hx hb dX1_hasVoidFor_38 (by decide) ?_
    exact W.zret (v := nI 0) hx hb hr (rfl) (fun t ht hW => ⟨nI 0, rfl, by rw [show q = i by omega, ho]; rfl, ht⟩) (fun _ h => nomatch h) dX1_hasVoidFor_39
  · refine lv_aload_n hx hb dX1_hasVoidFor_10 rfl (lv_at hl 0 rfl) ?_
    refine gC_9_0 hx hb hts hiX1 hown hK hP hf9 dX1_hasVoidFor_11 ?_
    refine lv_iload_n hx hb dX1_hasVoidFor_14 rfl (lv_at hl 2 rfl) ?_
    refine lC_10 hx hb hK hP (by omega) dX1_hasVoidFor_15 ?_
    refine lv_iload_n hx hb dX1_hasVoidFor_16 rfl (lv_at hl 1 rfl) ?_
    refine lv_icmp_ne (tgt := 32) hx hb dX1_hasVoidFor_17 (by decide) (fun c_17 => ?_) (fun c_17 => ?_)
    · refine lv_iinc (v := nI (i + 1)) (lv' := [(2, .int (nI (i + 1))), (0, .ref (ad 9)), (1, .int w)]) hx hb dX1_hasVoidFor_32 hl (k := 2) rfl (zz_inc _) (by decide) rfl (fun ls hl => ?_)
      refine lv_goto (tgt := 2) hx hb dX1_hasVoidFor_35 (by decide) ?_
      exact ih_2 (i + 1) (⟨by omega, by unfold vdB anyB; unfold vdB at ho; rw [ho]; simp [c_17]⟩) (by omega) ls (lv_sub hl [1, 2, 0] rfl)
    · refine lv_aload_n hx hb dX1_hasVoidFor_20 rfl (lv_at hl 0 rfl) ?_
      refine gC_9_2 hx hb hts hiX1 hown hK hP hf18 dX1_hasVoidFor_21 ?_
      refine lv_iload_n hx hb dX1_hasVoidFor_24 rfl (lv_at hl 2 rfl) ?_
      refine lC_12 hx hb hK hP (by omega) dX1_hasVoidFor_25 ?_
      refine lv_iconst (v := nI 2) hx hb dX1_hasVoidFor_26 (by decide) ?_
      refine lv_icmp_ne (tgt := 32) hx hb dX1_hasVoidFor_27 (by decide) (fun c_27 => ?_) (fun c_27 => ?_)
      · refine lv_iinc (v := nI (i + 1)) (lv' := [(2, .int (nI (i + 1))), (0, .ref (ad 9)), (1, .int w)]) hx hb dX1_hasVoidFor_32 hl (k := 2) rfl (zz_inc _) (by decide) rfl (fun ls hl => ?_)
        refine lv_goto (tgt := 2) hx hb dX1_hasVoidFor_35 (by decide) ?_
        exact ih_2 (i + 1) (⟨by omega, by unfold vdB anyB; unfold vdB at ho; rw [ho]; simp [c_17, c_27]⟩) (by omega) ls (lv_sub hl [1, 2, 0] rfl)
      · refine lv_iconst (v := nI 1) hx hb dX1_hasVoidFor_30 (by decide) ?_
        exact W.zret (v := nI 1) hx hb hr (rfl) (fun t ht hW => ⟨nI 1, rfl, by rw [if_pos (show vdB yc ys w q = true from anyB_of (i := i) (by omega) (by simp [c_17, c_27]))], ht⟩) (fun _ h => nomatch h) dX1_hasVoidFor_31
section
variable {p : Program} {e : Env} {R : Room} {s : State} {m : MethodId} {args : Array Value} {below : List Frame} {meth : Method} {c : Code} {H : Heap} {locs : List Loc} {cells slots : Nat} {Q : State → Prop} {cc : ByteArray} {pc : Nat} {ls : Array Slot} {rest : List Value} {own : String} {index nL : Nat} {Ts : List Cond} {H0 : Heap} {A0 : Nat → Prop}
theorem k_X1_hasVoidFor (l : Launch) {dC : Nat → ClassId} {dI : Nat → Nat → Nat} {cI cZ : ClassId} {ad : Nat → Nat} {sm fe ex dy : Int32} {gp gc op gr st dl wo : Nat → Int32} {n : Nat} {yc ya ys yd : Nat → Int32} {q : Nat} {zc zp zr zs zf : Nat → Int32} {z : Nat} {zm zt : Int64} {w : Int32} (hq : q ≤ 100) (hx : p.tables.exec = Jvm.exec) (hb : c.code = cc) (hml : c.maxLocals = nL) (hown : s.vm.findClass own = some m.cls) (hts : ∀ w ∈ Ts, w.before args s = true) (hK : va_K (dC, dI) vwCl [(cI, .int), (cZ, .boolean)] s) (hP : va_P (dC, dI) vwCl (wC cI cZ ad sm fe ex dy gp gc op gr st dl wo n yc ya ys yd q zc zp zr zs zf z zm zt) H) (hg : GoodIn Ts (wsV own index RX1 yX1_hasVoidFor wsX1_hasVoidFor)) (hR : 0 + 1 ≤ R.frames ∧ 8 + (3 + 11) + 0 ≤ R.locals) (hc : cells ≤ R.cells ∧ slots ≤ R.slots) (hl : ls.size = nL) (hw : (rest.map fun v => v.category).sum ≤ 8) (hdg : decode cc pc = .ok (.invokevirtual index, 3)) (kk : W p l e R s m args below meth c H locs cells slots Q (F0 m (pc + 3) ls (.int (nI (if vdB yc ys w q = true then 1 else 0)) :: rest))) : W p l e R s m args below meth c H locs cells slots Q (F0 m pc ls (.int w :: .ref (ad 9) :: rest)) := zc_ro (W.runV (As := [.int w]) (rest := rest) ⟨hx, hb, hml, hown, hts⟩ (c_X1_hasVoidFor (dC := dC) (dI := dI) (cI := cI) (cZ := cZ) (ad := ad) (sm := sm) (fe := fe) (ex := ex) (dy := dy) (gp := gp) (gc := gc) (op := op) (gr := gr) (st := st) (dl := dl) (wo := wo) (n := n) (yc := yc) (ya := ya) (ys := ys) (yd := yd) (q := q) (zc := zc) (zp := zp) (zr := zr) (zs := zs) (zf := zf) (z := z) (zm := zm) (zt := zt) (w := w) l hq) (cwV 1 hts hg rfl rfl rfl (by decide +kernel) hR) ⟨fun a U g mk q => ⟨q.1, q.2.1, va_K.moved (u := U) (U := U.calling g mk a) (Vm.Alike.refl U.vm) q.2.2⟩, rC_9 hK hP, fun U hU hW => ⟨rfl, by rw [hU]; exact hP, va_K.moved hW.alike hK⟩⟩ rfl rfl hl rfl (lv_room hw) hdg hc) (fun r h => by subst h; exact kk)
end
set_option maxHeartbeats 4000000 in
set_option maxRecDepth 100000 in
theorem c_X1_sumFor (l : Launch) {dC : Nat → ClassId} {dI : Nat → Nat → Nat} {cI cZ : ClassId} {ad : Nat → Nat} {sm fe ex dy : Int32} {gp gc op gr st dl wo : Nat → Int32} {n : Nat} {yc ya ys yd : Nat → Int32} {q : Nat} {zc zp zr zs zf : Nat → Int32} {z : Nat} {zm zt : Int64} {w : Int32} (hq : q ≤ 100) : Met l yX1_sumFor wsX1_sumFor { frames := 0, cells := 0, slots := 0, locals := 0 } (va_Pc [.ref (ad 9), .int w] (fun U => va_P (dC, dI) vwCl (wC cI cZ ad sm fe ex dy gp gc op gr st dl wo n yc ya ys yd q zc zp zr zs zf z zm zt) U.heap ∧ va_K (dC, dI) vwCl [(cI, .int), (cZ, .boolean)] U)) (vp_Si (fun r => r = sumForI yc ya ys w q)) 0 0 (fun _ => False) := by
  refine Met.ofW (cc := cX1_sumFor) (maxL := 4) (ret := (some .int)) (by decide) rfl ?_
  intro p e s m args below meth c s₁ B hml hv
  obtain ⟨rfl, hP, hK⟩ := hv
  have hx := B.exec
  have hb := B.bytes
  have hr := B.returns
  have hts := atoms_spec (ws := wsX1_sumFor) B.pre
  have hown : s.vm.findClass RX1 = some m.cls := findClass_of_methodNamed B.named
  have hlocks := B.notSynchronized
  have hl := lv_entry ([.ref (ad 9), .int w]) (n := 4) (Nat.le_of_ble_eq_true rfl)
  rw [lg_entry_eq]
  generalize (lg_sl ([.ref (ad 9), .int w]) ++ List.replicate (4 - (lg_sl ([.ref (ad 9), .int w])).length) Slot.unset).toArray = ls at hl ⊢
  have hl : lv_has ls 4 [(0, .ref (ad 9)), (1, .int w)] := hl
  have hiX1 : ∀ w ∈ wsX10, w ∈ wsX1_sumFor := by decide +kernel
  have hf24 := hts (.fieldLink RX1 24 "SettlementFund$PaymentBook" "size" "I") (by decide +kernel)
  have hf9 := hts (.fieldLink RX1 9 "SettlementFund$PaymentBook" "claim" "[I") (by decide +kernel)
  have hf18 := hts (.fieldLink RX1 18 "SettlementFund$PaymentBook" "state" "[I") (by decide +kernel)
  have hf15 := hts (.fieldLink RX1 15 "SettlementFund$PaymentBook" "amount" "[I") (by decide +kernel)
  refine lv_iconst (v := nI 0) hx hb dX1_sumFor_0 (by decide) ?_
  refine lv_istore_n (lv' := [(2, .int (nI 0)), (0, .ref (ad 9)), (1, .int w)]) hx hb dX1_sumFor_1 rfl hl (by decide) rfl (fun ls hl => ?_)
  refine lv_iconst (v := nI 0) hx hb dX1_sumFor_2 (by decide) ?_
  refine lv_istore_n (lv' := [(3, .int (nI 0)), (2, .int (nI 0)), (0, .ref (ad 9)), (1, .int w)]) hx hb dX1_sumFor_3 rfl hl (by decide) rfl (fun ls hl => ?_)
  have e_1 : nI 0 = sumForI yc ya ys w 0 := by first | rfl | (simp [sumForI]; done)
  rw [e_1] at hl
  refine zl_ro (fun a9 : Nat => [(0, .ref (ad 9)), (1, .int w), (2, .int (sumForI yc ya ys w a9)), (3, .int (nI a9))]) (fun a9 : Nat => a9 ≤ q) (fun a9 : Nat => q - a9) 0 (Nat.zero_le _) (lv_sub hl [2, 3, 1, 0] rfl) ?_
  intro a9 hi_4 ih_4 ls hl
  obtain ⟨i, rfl⟩ : ∃ z, z = a9 := ⟨_, rfl⟩
  have hi_4 : i ≤ q := hi_4
  have hl : lv_has ls 4 [(0, .ref (ad 9)), (1, .int w), (2, .int (sumForI yc ya ys w i)), (3, .int (nI i))] := hl
  refine lv_iload_n hx hb dX1_sumFor_4 rfl (lv_at hl 3 rfl) ?_
  refine lv_aload_n hx hb dX1_sumFor_5 rfl (lv_at hl 0 rfl) ?_
  refine gC_9_4 hx hb hts hiX1 hown hK hP hf24 dX1_sumFor_6 ?_
  refine zb_ge (tgt := 47) hx hb (by omega) (by omega) dX1_sumFor_9 (by decide) (fun c_9 => ?_) (fun c_9 => ?_)
  · refine lv_iload_n hx hb dX1_sumFor_47 rfl (lv_at hl 2 rfl) ?_
    exact W.iret (v := sumForI yc ya ys w i) hx hb hr (fun t ht hW => ⟨sumForI yc ya ys w i, rfl, by rw [show q = i by omega], ht⟩) (fun _ h => nomatch h) dX1_sumFor_48
  · refine lv_aload_n hx hb dX1_sumFor_12 rfl (lv_at hl 0 rfl) ?_
    refine gC_9_0 hx hb hts hiX1 hown hK hP hf9 dX1_sumFor_13 ?_
    refine lv_iload_n hx hb dX1_sumFor_16 rfl (lv_at hl 3 rfl) ?_
    refine lC_10 hx hb hK hP (by omega) dX1_sumFor_17 ?_
    refine lv_iload_n hx hb dX1_sumFor_18 rfl (lv_at hl 1 rfl) ?_
    refine lv_icmp_ne (tgt := 41) hx hb dX1_sumFor_19 (by decide) (fun c_19 => ?_) (fun c_19 => ?_)
    · refine lv_iinc (v := nI (i + 1)) (lv' := [(3, .int (nI (i + 1))), (0, .ref (ad 9)), (1, .int w), (2, .int (sumForI yc ya ys w i))]) hx hb dX1_sumFor_41 hl (k := 3) rfl (zz_inc _) (by decide) rfl (fun ls hl => ?_)
      refine lv_goto (tgt := 4) hx hb dX1_sumFor_44 (by decide) ?_
      have e_2 : sumForI yc ya ys w i = sumForI yc ya ys w (i + 1) := by first | rfl | (simp [sumForI, c_9, c_19]; done)
      rw [e_2] at hl
      exact ih_4 (i + 1) (by omega) (by omega) ls (lv_sub hl [1, 2, 3, 0] rfl)
    · refine lv_aload_n hx hb dX1_sumFor_22 rfl (lv_at hl 0 rfl) ?_
      refine gC_9_2 hx hb hts hiX1 hown hK hP hf18 dX1_sumFor_23 ?_
      refine lv_iload_n hx hb dX1_sumFor_26 rfl (lv_at hl 3 rfl) ?_
      refine lC_12 hx hb hK hP (by omega) dX1_sumFor_27 ?_
      refine lv_iconst (v := nI 2) hx hb dX1_sumFor_28 (by decide) ?_
      refine lv_icmp_eq (tgt := 41) hx hb dX1_sumFor_29 (by decide) (fun c_29 => ?_) (fun c_29 => ?_)
      · refine lv_iinc (v := nI (i + 1)) (lv' := [(3, .int (nI (i + 1))), (0, .ref (ad 9)), (1, .int w), (2, .int (sumForI yc ya ys w i))]) hx hb dX1_sumFor_41 hl (k := 3) rfl (zz_inc _) (by decide) rfl (fun ls hl => ?_)
        refine lv_goto (tgt := 4) hx hb dX1_sumFor_44 (by decide) ?_
        have e_3 : sumForI yc ya ys w i = sumForI yc ya ys w (i + 1) := by first | rfl | (simp [sumForI, c_9, c_19, c_29]; done)
        rw [e_3] at hl
        exact ih_4 (i + 1) (by omega) (by omega) ls (lv_sub hl [1, 2, 3, 0] rfl)
      · refine lv_iload_n hx hb dX1_sumFor_32 rfl (lv_at hl 2 rfl) ?_
        refine lv_aload_n hx hb dX1_sumFor_33 rfl (lv_at hl 0 rfl) ?_
        refine gC_9_1 hx hb hts hiX1 hown hK hP hf15 dX1_sumFor_34 ?_
        refine lv_iload_n hx hb dX1_sumFor_37 rfl (lv_at hl 3 rfl) ?_
        refine lC_11 hx hb hK hP (by omega) dX1_sumFor_38 ?_
        refine lv_iadd hx hb dX1_sumFor_39 ?_
        refine lv_istore_n (lv' := [(2, .int ((sumForI yc ya ys w i) + (ya i))), (0, .ref (ad 9)), (1, .int w), (3, .int (nI i))]) hx hb dX1_sumFor_40 rfl hl (by decide) rfl (fun ls hl => ?_)
        refine lv_iinc (v := nI (i + 1)) (lv' := [(3, .int (nI (i + 1))), (2, .int ((sumForI yc ya ys w i) + (ya i))), (0, .ref (ad 9)), (1, .int w)]) hx hb dX1_sumFor_41 hl (k := 3) rfl (zz_inc _) (by decide) rfl (fun ls hl => ?_)
        refine lv_goto (tgt := 4) hx hb dX1_sumFor_44 (by decide) ?_
        have e_4 : (sumForI yc ya ys w i) + (ya i) = sumForI yc ya ys w (i + 1) := by first | rfl | (simp [sumForI, c_9, c_19, c_29]; done)
        rw [e_4] at hl
        exact ih_4 (i + 1) (by omega) (by omega) ls (lv_sub hl [2, 3, 1, 0] rfl)
section
variable {p : Program} {e : Env} {R : Room} {s : State} {m : MethodId} {args : Array Value} {below : List Frame} {meth : Method} {c : Code} {H : Heap} {locs : List Loc} {cells slots : Nat} {Q : State → Prop} {cc : ByteArray} {pc : Nat} {ls : Array Slot} {rest : List Value} {own : String} {index nL : Nat} {Ts : List Cond} {H0 : Heap} {A0 : Nat → Prop}
theorem k_X1_sumFor (l : Launch) {dC : Nat → ClassId} {dI : Nat → Nat → Nat} {cI cZ : ClassId} {ad : Nat → Nat} {sm fe ex dy : Int32} {gp gc op gr st dl wo : Nat → Int32} {n : Nat} {yc ya ys yd : Nat → Int32} {q : Nat} {zc zp zr zs zf : Nat → Int32} {z : Nat} {zm zt : Int64} {w : Int32} (hq : q ≤ 100) (hx : p.tables.exec = Jvm.exec) (hb : c.code = cc) (hml : c.maxLocals = nL) (hown : s.vm.findClass own = some m.cls) (hts : ∀ w ∈ Ts, w.before args s = true) (hK : va_K (dC, dI) vwCl [(cI, .int), (cZ, .boolean)] s) (hP : va_P (dC, dI) vwCl (wC cI cZ ad sm fe ex dy gp gc op gr st dl wo n yc ya ys yd q zc zp zr zs zf z zm zt) H) (hg : GoodIn Ts (wsV own index RX1 yX1_sumFor wsX1_sumFor)) (hR : 0 + 1 ≤ R.frames ∧ 8 + (4 + 11) + 0 ≤ R.locals) (hc : cells ≤ R.cells ∧ slots ≤ R.slots) (hl : ls.size = nL) (hw : (rest.map fun v => v.category).sum ≤ 8) (hdg : decode cc pc = .ok (.invokevirtual index, 3)) (kk : W p l e R s m args below meth c H locs cells slots Q (F0 m (pc + 3) ls (.int (sumForI yc ya ys w q) :: rest))) : W p l e R s m args below meth c H locs cells slots Q (F0 m pc ls (.int w :: .ref (ad 9) :: rest)) := zc_ro (W.runV (As := [.int w]) (rest := rest) ⟨hx, hb, hml, hown, hts⟩ (c_X1_sumFor (dC := dC) (dI := dI) (cI := cI) (cZ := cZ) (ad := ad) (sm := sm) (fe := fe) (ex := ex) (dy := dy) (gp := gp) (gc := gc) (op := op) (gr := gr) (st := st) (dl := dl) (wo := wo) (n := n) (yc := yc) (ya := ya) (ys := ys) (yd := yd) (q := q) (zc := zc) (zp := zp) (zr := zr) (zs := zs) (zf := zf) (z := z) (zm := zm) (zt := zt) (w := w) l hq) (cwV 1 hts hg rfl rfl rfl (by decide +kernel) hR) ⟨fun a U g mk q => ⟨q.1, q.2.1, va_K.moved (u := U) (U := U.calling g mk a) (Vm.Alike.refl U.vm) q.2.2⟩, rC_9 hK hP, fun U hU hW => ⟨rfl, by rw [hU]; exact hP, va_K.moved hW.alike hK⟩⟩ rfl rfl hl rfl (lv_room hw) hdg hc) (fun r h => by subst h; exact kk)
end
set_option maxHeartbeats 4000000 in
set_option maxRecDepth 100000 in
theorem c_X1_sumOfAll (l : Launch) {dC : Nat → ClassId} {dI : Nat → Nat → Nat} {cI cZ : ClassId} {ad : Nat → Nat} {sm fe ex dy : Int32} {gp gc op gr st dl wo : Nat → Int32} {n : Nat} {yc ya ys yd : Nat → Int32} {q : Nat} {zc zp zr zs zf : Nat → Int32} {z : Nat} {zm zt : Int64}  (hq : q ≤ 100) : Met l yX1_sumOfAll wsX1_sumOfAll { frames := 0, cells := 0, slots := 0, locals := 0 } (va_Pc [.ref (ad 9)] (fun U => va_P (dC, dI) vwCl (wC cI cZ ad sm fe ex dy gp gc op gr st dl wo n yc ya ys yd q zc zp zr zs zf z zm zt) U.heap ∧ va_K (dC, dI) vwCl [(cI, .int), (cZ, .boolean)] U)) (vp_Si (fun r => r = sumAllI ya ys q)) 0 0 (fun _ => False) := by
  refine Met.ofW (cc := cX1_sumOfAll) (maxL := 3) (ret := (some .int)) (by decide) rfl ?_
  intro p e s m args below meth c s₁ B hml hv
  obtain ⟨rfl, hP, hK⟩ := hv
  have hx := B.exec
  have hb := B.bytes
  have hr := B.returns
  have hts := atoms_spec (ws := wsX1_sumOfAll) B.pre
  have hown : s.vm.findClass RX1 = some m.cls := findClass_of_methodNamed B.named
  have hlocks := B.notSynchronized
  have hl := lv_entry ([.ref (ad 9)]) (n := 3) (Nat.le_of_ble_eq_true rfl)
  rw [lg_entry_eq]
  generalize (lg_sl ([.ref (ad 9)]) ++ List.replicate (3 - (lg_sl ([.ref (ad 9)])).length) Slot.unset).toArray = ls at hl ⊢
  have hl : lv_has ls 3 [(0, .ref (ad 9))] := hl
  have hiX1 : ∀ w ∈ wsX10, w ∈ wsX1_sumOfAll := by decide +kernel
  have hf24 := hts (.fieldLink RX1 24 "SettlementFund$PaymentBook" "size" "I") (by decide +kernel)
  have hf18 := hts (.fieldLink RX1 18 "SettlementFund$PaymentBook" "state" "[I") (by decide +kernel)
  have hf15 := hts (.fieldLink RX1 15 "SettlementFund$PaymentBook" "amount" "[I") (by decide +kernel)
  refine lv_iconst (v := nI 0) hx hb dX1_sumOfAll_0 (by decide) ?_
  refine lv_istore_n (lv' := [(1, .int (nI 0)), (0, .ref (ad 9))]) hx hb dX1_sumOfAll_1 rfl hl (by decide) rfl (fun ls hl => ?_)
  refine lv_iconst (v := nI 0) hx hb dX1_sumOfAll_2 (by decide) ?_
  refine lv_istore_n (lv' := [(2, .int (nI 0)), (1, .int (nI 0)), (0, .ref (ad 9))]) hx hb dX1_sumOfAll_3 rfl hl (by decide) rfl (fun ls hl => ?_)
  have e_1 : nI 0 = sumAllI ya ys 0 := by first | rfl | (simp [sumAllI]; done)
  rw [e_1] at hl
  refine zl_ro (fun a9 : Nat => [(0, .ref (ad 9)), (1, .int (sumAllI ya ys a9)), (2, .int (nI a9))]) (fun a9 : Nat => a9 ≤ q) (fun a9 : Nat => q - a9) 0 (Nat.zero_le _) (lv_sub hl [2, 1, 0] rfl) ?_
  intro a9 hi_4 ih_4 ls hl
  obtain ⟨i, rfl⟩ : ∃ z, z = a9 := ⟨_, rfl⟩
  have hi_4 : i ≤ q := hi_4
  have hl : lv_has ls 3 [(0, .ref (ad 9)), (1, .int (sumAllI ya ys i)), (2, .int (nI i))] := hl
  refine lv_iload_n hx hb dX1_sumOfAll_4 rfl (lv_at hl 2 rfl) ?_
  refine lv_aload_n hx hb dX1_sumOfAll_5 rfl (lv_at hl 0 rfl) ?_
  refine gC_9_4 hx hb hts hiX1 hown hK hP hf24 dX1_sumOfAll_6 ?_
  refine zb_ge (tgt := 37) hx hb (by omega) (by omega) dX1_sumOfAll_9 (by decide) (fun c_9 => ?_) (fun c_9 => ?_)
  · refine lv_iload_n hx hb dX1_sumOfAll_37 rfl (lv_at hl 1 rfl) ?_
    exact W.iret (v := sumAllI ya ys i) hx hb hr (fun t ht hW => ⟨sumAllI ya ys i, rfl, by rw [show q = i by omega], ht⟩) (fun _ h => nomatch h) dX1_sumOfAll_38
  · refine lv_aload_n hx hb dX1_sumOfAll_12 rfl (lv_at hl 0 rfl) ?_
    refine gC_9_2 hx hb hts hiX1 hown hK hP hf18 dX1_sumOfAll_13 ?_
    refine lv_iload_n hx hb dX1_sumOfAll_16 rfl (lv_at hl 2 rfl) ?_
    refine lC_12 hx hb hK hP (by omega) dX1_sumOfAll_17 ?_
    refine lv_iconst (v := nI 2) hx hb dX1_sumOfAll_18 (by decide) ?_
    refine lv_icmp_eq (tgt := 31) hx hb dX1_sumOfAll_19 (by decide) (fun c_19 => ?_) (fun c_19 => ?_)
    · refine lv_iinc (v := nI (i + 1)) (lv' := [(2, .int (nI (i + 1))), (0, .ref (ad 9)), (1, .int (sumAllI ya ys i))]) hx hb dX1_sumOfAll_31 hl (k := 2) rfl (zz_inc _) (by decide) rfl (fun ls hl => ?_)
      refine lv_goto (tgt := 4) hx hb dX1_sumOfAll_34 (by decide) ?_
      have e_2 : sumAllI ya ys i = sumAllI ya ys (i + 1) := by first | rfl | (simp [sumAllI, c_9, c_19]; done)
      rw [e_2] at hl
      exact ih_4 (i + 1) (by omega) (by omega) ls (lv_sub hl [1, 2, 0] rfl)
    · refine lv_iload_n hx hb dX1_sumOfAll_22 rfl (lv_at hl 1 rfl) ?_
      refine lv_aload_n hx hb dX1_sumOfAll_23 rfl (lv_at hl 0 rfl) ?_
      refine gC_9_1 hx hb hts hiX1 hown hK hP hf15 dX1_sumOfAll_24 ?_
      refine lv_iload_n hx hb dX1_sumOfAll_27 rfl (lv_at hl 2 rfl) ?_
      refine lC_11 hx hb hK hP (by omega) dX1_sumOfAll_28 ?_
      refine lv_iadd hx hb dX1_sumOfAll_29 ?_
      refine lv_istore_n (lv' := [(1, .int ((sumAllI ya ys i) + (ya i))), (0, .ref (ad 9)), (2, .int (nI i))]) hx hb dX1_sumOfAll_30 rfl hl (by decide) rfl (fun ls hl => ?_)
      refine lv_iinc (v := nI (i + 1)) (lv' := [(2, .int (nI (i + 1))), (1, .int ((sumAllI ya ys i) + (ya i))), (0, .ref (ad 9))]) hx hb dX1_sumOfAll_31 hl (k := 2) rfl (zz_inc _) (by decide) rfl (fun ls hl => ?_)
      refine lv_goto (tgt := 4) hx hb dX1_sumOfAll_34 (by decide) ?_
      have e_3 : (sumAllI ya ys i) + (ya i) = sumAllI ya ys (i + 1) := by first | rfl | (simp [sumAllI, c_9, c_19]; done)
      rw [e_3] at hl
      exact ih_4 (i + 1) (by omega) (by omega) ls (lv_sub hl [2, 1, 0] rfl)
section
variable {p : Program} {e : Env} {R : Room} {s : State} {m : MethodId} {args : Array Value} {below : List Frame} {meth : Method} {c : Code} {H : Heap} {locs : List Loc} {cells slots : Nat} {Q : State → Prop} {cc : ByteArray} {pc : Nat} {ls : Array Slot} {rest : List Value} {own : String} {index nL : Nat} {Ts : List Cond} {H0 : Heap} {A0 : Nat → Prop}
theorem k_X1_sumOfAll (l : Launch) {dC : Nat → ClassId} {dI : Nat → Nat → Nat} {cI cZ : ClassId} {ad : Nat → Nat} {sm fe ex dy : Int32} {gp gc op gr st dl wo : Nat → Int32} {n : Nat} {yc ya ys yd : Nat → Int32} {q : Nat} {zc zp zr zs zf : Nat → Int32} {z : Nat} {zm zt : Int64}  (hq : q ≤ 100) (hx : p.tables.exec = Jvm.exec) (hb : c.code = cc) (hml : c.maxLocals = nL) (hown : s.vm.findClass own = some m.cls) (hts : ∀ w ∈ Ts, w.before args s = true) (hK : va_K (dC, dI) vwCl [(cI, .int), (cZ, .boolean)] s) (hP : va_P (dC, dI) vwCl (wC cI cZ ad sm fe ex dy gp gc op gr st dl wo n yc ya ys yd q zc zp zr zs zf z zm zt) H) (hg : GoodIn Ts (wsV own index RX1 yX1_sumOfAll wsX1_sumOfAll)) (hR : 0 + 1 ≤ R.frames ∧ 8 + (3 + 11) + 0 ≤ R.locals) (hc : cells ≤ R.cells ∧ slots ≤ R.slots) (hl : ls.size = nL) (hw : (rest.map fun v => v.category).sum ≤ 8) (hdg : decode cc pc = .ok (.invokevirtual index, 3)) (kk : W p l e R s m args below meth c H locs cells slots Q (F0 m (pc + 3) ls (.int (sumAllI ya ys q) :: rest))) : W p l e R s m args below meth c H locs cells slots Q (F0 m pc ls (.ref (ad 9) :: rest)) := zc_ro (W.runV (As := []) (rest := rest) ⟨hx, hb, hml, hown, hts⟩ (c_X1_sumOfAll (dC := dC) (dI := dI) (cI := cI) (cZ := cZ) (ad := ad) (sm := sm) (fe := fe) (ex := ex) (dy := dy) (gp := gp) (gc := gc) (op := op) (gr := gr) (st := st) (dl := dl) (wo := wo) (n := n) (yc := yc) (ya := ya) (ys := ys) (yd := yd) (q := q) (zc := zc) (zp := zp) (zr := zr) (zs := zs) (zf := zf) (z := z) (zm := zm) (zt := zt) l hq) (cwV 0 hts hg rfl rfl rfl (by decide +kernel) hR) ⟨fun a U g mk q => ⟨q.1, q.2.1, va_K.moved (u := U) (U := U.calling g mk a) (Vm.Alike.refl U.vm) q.2.2⟩, rC_9 hK hP, fun U hU hW => ⟨rfl, by rw [hU]; exact hP, va_K.moved hW.alike hK⟩⟩ rfl rfl hl rfl (lv_room hw) hdg hc) (fun r h => by subst h; exact kk)
end
end
section
theorem zz_end : True := trivial
end
