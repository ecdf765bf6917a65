theorem dX3_decide_35 : decode cX3_decide 35 = .ok (.iload_n 1, 1) := by decide +kernel
theorem dX3_decide_36 : decode cX3_decide 36 = .ok (.iload_n 2, 1) := by decide +kernel
theorem dX3_decide_37 : decode cX3_decide 37 = .ok (.ifCond .eq 7, 3) := by decide +kernel
theorem dX3_decide_40 : decode cX3_decide 40 = .ok (.iconst 0, 1) := by decide +kernel
theorem dX3_decide_41 : decode cX3_decide 41 = .ok (.goto 4, 3) := by decide +kernel
theorem dX3_decide_44 : decode cX3_decide 44 = .ok (.iconst 2, 1) := by decide +kernel
theorem dX3_decide_45 : decode cX3_decide 45 = .ok (.iastore, 1) := by decide +kernel
theorem dX3_decide_46 : decode cX3_decide 46 = .ok (.aload_n 0, 1) := by decide +kernel
theorem dX3_decide_47 : decode cX3_decide 47 = .ok (.getfield 19, 3) := by decide +kernel
theorem dX3_decide_50 : decode cX3_decide 50 = .ok (.iconst 3, 1) := by decide +kernel
theorem dX3_decide_51 : decode cX3_decide 51 = .ok (.invokevirtual 131, 3) := by decide +kernel
theorem dX3_decide_54 : decode cX3_decide 54 = .ok (.ireturn, 1) := by decide +kernel
set_option maxRecDepth 20000 in
theorem ggX3_round_X3_mustBeLeast : GoodIn wsX3_round wsX3_mustBeLeast := goodIn_ca (goodIn_r _ [10, 11, 12, 13, 14, 15, 9, 16] (by decide +kernel) (by decide +kernel)) (goodIn_sub (fun _ h => List.mem_cons_of_mem _ (List.mem_append_left _ (List.mem_append_right _ h))) (by decide +kernel))
set_option maxRecDepth 20000 in
theorem gX3_round_X3_mustBeLeast : GoodIn wsX3_round (wsV RX3 137 RX3 yX3_mustBeLeast wsX3_mustBeLeast) := goodIn_app (goodIn_of _ (by decide +kernel)) ggX3_round_X3_mustBeLeast
set_option maxRecDepth 20000 in
theorem ggX3_round_X0_tally : GoodIn wsX3_round wsX0_tally := goodIn_r _ [21, 22, 23, 192, 193, 194, 195, 196, 197] (by decide +kernel) (by decide +kernel)
set_option maxRecDepth 20000 in
theorem gX3_round_X0_tally : GoodIn wsX3_round (wsV RX3 131 RX0 yX0_tally wsX0_tally) := goodIn_app (goodIn_of _ (by decide +kernel)) ggX3_round_X0_tally
set_option maxRecDepth 20000 in
theorem ggX3_round_X3_moneyLeft : GoodIn wsX3_round wsX3_moneyLeft := goodIn_r _ [34, 35, 36, 4, 37, 38, 39, 9, 40, 41, 42, 43, 44, 45, 27, 46, 29, 30, 47, 183, 184, 185, 186, 187, 188, 189, 190, 191, 198, 199, 200, 201, 202] (by decide +kernel) (by decide +kernel)
set_option maxRecDepth 20000 in
theorem gX3_round_X3_moneyLeft : GoodIn wsX3_round (wsV RX3 63 RX3 yX3_moneyLeft wsX3_moneyLeft) := goodIn_app (goodIn_of _ (by decide +kernel)) ggX3_round_X3_moneyLeft
theorem dX3_round_0 : decode cX3_round 0 = .ok (.aload_n 0, 1) := by decide +kernel
theorem dX3_round_1 : decode cX3_round 1 = .ok (.iload_n 1, 1) := by decide +kernel
theorem dX3_round_2 : decode cX3_round 2 = .ok (.invokevirtual 137, 3) := by decide +kernel
theorem dX3_round_5 : decode cX3_round 5 = .ok (.aload_n 0, 1) := by decide +kernel
theorem dX3_round_6 : decode cX3_round 6 = .ok (.getfield 19, 3) := by decide +kernel
theorem dX3_round_9 : decode cX3_round 9 = .ok (.iconst 1, 1) := by decide +kernel
theorem dX3_round_10 : decode cX3_round 10 = .ok (.invokevirtual 131, 3) := by decide +kernel
theorem dX3_round_13 : decode cX3_round 13 = .ok (.ifCond .gt 14, 3) := by decide +kernel
theorem dX3_round_16 : decode cX3_round 16 = .ok (.aload_n 0, 1) := by decide +kernel
theorem dX3_round_17 : decode cX3_round 17 = .ok (.getfield 19, 3) := by decide +kernel
theorem dX3_round_20 : decode cX3_round 20 = .ok (.iconst 3, 1) := by decide +kernel
theorem dX3_round_21 : decode cX3_round 21 = .ok (.invokevirtual 131, 3) := by decide +kernel
theorem dX3_round_24 : decode cX3_round 24 = .ok (.ifCond .le 13, 3) := by decide +kernel
theorem dX3_round_27 : decode cX3_round 27 = .ok (.new 103, 3) := by decide +kernel
theorem dX3_round_30 : decode cX3_round 30 = .ok (.dup, 1) := by decide +kernel
theorem dX3_round_31 : decode cX3_round 31 = .ok (.ldc 140, 2) := by decide +kernel
theorem dX3_round_33 : decode cX3_round 33 = .ok (.invokespecial 107, 3) := by decide +kernel
theorem dX3_round_36 : decode cX3_round 36 = .ok (.athrow, 1) := by decide +kernel
theorem dX3_round_37 : decode cX3_round 37 = .ok (.aload_n 0, 1) := by decide +kernel
theorem dX3_round_38 : decode cX3_round 38 = .ok (.getfield 26, 3) := by decide +kernel
theorem dX3_round_41 : decode cX3_round 41 = .ok (.invokevirtual 142, 3) := by decide +kernel
theorem dX3_round_44 : decode cX3_round 44 = .ok (.ifCond .eq 13, 3) := by decide +kernel
theorem dX3_round_47 : decode cX3_round 47 = .ok (.new 103, 3) := by decide +kernel
theorem dX3_round_50 : decode cX3_round 50 = .ok (.dup, 1) := by decide +kernel
theorem dX3_round_51 : decode cX3_round 51 = .ok (.ldc 145, 2) := by decide +kernel
theorem dX3_round_53 : decode cX3_round 53 = .ok (.invokespecial 107, 3) := by decide +kernel
theorem dX3_round_56 : decode cX3_round 56 = .ok (.athrow, 1) := by decide +kernel
theorem dX3_round_57 : decode cX3_round 57 = .ok (.aload_n 0, 1) := by decide +kernel
theorem dX3_round_58 : decode cX3_round 58 = .ok (.invokevirtual 63, 3) := by decide +kernel
theorem dX3_round_61 : decode cX3_round 61 = .ok (.iconst 1, 1) := by decide +kernel
theorem dX3_round_62 : decode cX3_round 62 = .ok (.if_icmp .ge 13, 3) := by decide +kernel
theorem dX3_round_65 : decode cX3_round 65 = .ok (.new 103, 3) := by decide +kernel
theorem dX3_round_68 : decode cX3_round 68 = .ok (.dup, 1) := by decide +kernel
theorem dX3_round_69 : decode cX3_round 69 = .ok (.ldc 147, 2) := by decide +kernel
theorem dX3_round_71 : decode cX3_round 71 = .ok (.invokespecial 107, 3) := by decide +kernel
theorem dX3_round_74 : decode cX3_round 74 = .ok (.athrow, 1) := by decide +kernel
theorem dX3_round_75 : decode cX3_round 75 = .ok (.aload_n 0, 1) := by decide +kernel
theorem dX3_round_76 : decode cX3_round 76 = .ok (.iload_n 1, 1) := by decide +kernel
theorem dX3_round_77 : decode cX3_round 77 = .ok (.iconst 0, 1) := by decide +kernel
theorem dX3_round_78 : decode cX3_round 78 = .ok (.invokevirtual 149, 3) := by decide +kernel
theorem dX3_round_81 : decode cX3_round 81 = .ok (.aload_n 0, 1) := by decide +kernel
theorem dX3_round_82 : decode cX3_round 82 = .ok (.getfield 33, 3) := by decide +kernel
theorem dX3_round_85 : decode cX3_round 85 = .ok (.invokevirtual 153, 3) := by decide +kernel
theorem dX3_round_88 : decode cX3_round 88 = .ok (.istore_n 2, 1) := by decide +kernel
theorem dX3_round_89 : decode cX3_round 89 = .ok (.aload_n 0, 1) := by decide +kernel
theorem dX3_round_90 : decode cX3_round 90 = .ok (.getfield 26, 3) := by decide +kernel
theorem dX3_round_93 : decode cX3_round 93 = .ok (.iload_n 2, 1) := by decide +kernel
theorem dX3_round_94 : decode cX3_round 94 = .ok (.invokevirtual 156, 3) := by decide +kernel
theorem dX3_round_97 : decode cX3_round 97 = .ok (.ifCond .ne 13, 3) := by decide +kernel
theorem dX3_round_100 : decode cX3_round 100 = .ok (.new 103, 3) := by decide +kernel
theorem dX3_round_103 : decode cX3_round 103 = .ok (.dup, 1) := by decide +kernel
theorem dX3_round_104 : decode cX3_round 104 = .ok (.ldc 159, 2) := by decide +kernel
theorem dX3_round_106 : decode cX3_round 106 = .ok (.invokespecial 107, 3) := by decide +kernel
theorem dX3_round_109 : decode cX3_round 109 = .ok (.athrow, 1) := by decide +kernel
theorem dX3_round_110 : decode cX3_round 110 = .ok (.aload_n 0, 1) := by decide +kernel
theorem dX3_round_111 : decode cX3_round 111 = .ok (.invokevirtual 161, 3) := by decide +kernel
theorem dX3_round_114 : decode cX3_round 114 = .ok (.iload_n 2, 1) := by decide +kernel
theorem dX3_round_115 : decode cX3_round 115 = .ok (.ireturn, 1) := by decide +kernel
set_option maxRecDepth 20000 in
theorem ggX3_cash_X3_mustBePayment : GoodIn wsX3_cash wsX3_mustBePayment := goodIn_ca (goodIn_r _ [10, 11, 12, 3, 13, 14, 15, 16, 17, 18, 19, 20, 21, 22, 23, 24, 25, 26, 27, 28, 29, 30, 31, 32] (by decide +kernel) (by decide +kernel)) (goodIn_sub (fun _ h => List.mem_cons_of_mem _ (List.mem_append_right _ h)) (by decide +kernel))
set_option maxRecDepth 20000 in
theorem gX3_cash_X3_mustBePayment : GoodIn wsX3_cash (wsV RX3 164 RX3 yX3_mustBePayment wsX3_mustBePayment) := goodIn_app (goodIn_of _ (by decide +kernel)) ggX3_cash_X3_mustBePayment
theorem dX3_cash_0 : decode cX3_cash 0 = .ok (.aload_n 0, 1) := by decide +kernel
theorem dX3_cash_1 : decode cX3_cash 1 = .ok (.iload_n 1, 1) := by decide +kernel
theorem dX3_cash_2 : decode cX3_cash 2 = .ok (.invokevirtual 164, 3) := by decide +kernel
theorem dX3_cash_5 : decode cX3_cash 5 = .ok (.aload_n 0, 1) := by decide +kernel
theorem dX3_cash_6 : decode cX3_cash 6 = .ok (.getfield 26, 3) := by decide +kernel
theorem dX3_cash_9 : decode cX3_cash 9 = .ok (.getfield 167, 3) := by decide +kernel
theorem dX3_cash_12 : decode cX3_cash 12 = .ok (.iload_n 1, 1) := by decide +kernel
theorem dX3_cash_13 : decode cX3_cash 13 = .ok (.iaload, 1) := by decide +kernel
theorem dX3_cash_14 : decode cX3_cash 14 = .ok (.ifCond .eq 13, 3) := by decide +kernel
theorem dX3_cash_17 : decode cX3_cash 17 = .ok (.new 103, 3) := by decide +kernel
theorem dX3_cash_20 : decode cX3_cash 20 = .ok (.dup, 1) := by decide +kernel
theorem dX3_cash_21 : decode cX3_cash 21 = .ok (.ldc 168, 2) := by decide +kernel
theorem dX3_cash_23 : decode cX3_cash 23 = .ok (.invokespecial 107, 3) := by decide +kernel
theorem dX3_cash_26 : decode cX3_cash 26 = .ok (.athrow, 1) := by decide +kernel
theorem dX3_cash_27 : decode cX3_cash 27 = .ok (.aload_n 0, 1) := by decide +kernel
theorem dX3_cash_28 : decode cX3_cash 28 = .ok (.getfield 26, 3) := by decide +kernel
theorem dX3_cash_31 : decode cX3_cash 31 = .ok (.getfield 167, 3) := by decide +kernel
theorem dX3_cash_34 : decode cX3_cash 34 = .ok (.iload_n 1, 1) := by decide +kernel
theorem dX3_cash_35 : decode cX3_cash 35 = .ok (.iconst 1, 1) := by decide +kernel
theorem dX3_cash_36 : decode cX3_cash 36 = .ok (.iastore, 1) := by decide +kernel
theorem dX3_cash_37 : decode cX3_cash 37 = .ok (.aload_n 0, 1) := by decide +kernel
theorem dX3_cash_38 : decode cX3_cash 38 = .ok (.getfield 26, 3) := by decide +kernel
theorem dX3_cash_41 : decode cX3_cash 41 = .ok (.getfield 170, 3) := by decide +kernel
theorem dX3_cash_44 : decode cX3_cash 44 = .ok (.iload_n 1, 1) := by decide +kernel
theorem dX3_cash_45 : decode cX3_cash 45 = .ok (.iaload, 1) := by decide +kernel
theorem dX3_cash_46 : decode cX3_cash 46 = .ok (.ireturn, 1) := by decide +kernel
theorem dX3_today_0 : decode cX3_today 0 = .ok (.aload_n 0, 1) := by decide +kernel
theorem dX3_today_1 : decode cX3_today 1 = .ok (.getfield 76, 3) := by decide +kernel
theorem dX3_today_4 : decode cX3_today 4 = .ok (.ireturn, 1) := by decide +kernel
theorem dX3_claims_0 : decode cX3_claims 0 = .ok (.aload_n 0, 1) := by decide +kernel
theorem dX3_claims_1 : decode cX3_claims 1 = .ok (.getfield 19, 3) := by decide +kernel
theorem dX3_claims_4 : decode cX3_claims 4 = .ok (.getfield 173, 3) := by decide +kernel
theorem dX3_claims_7 : decode cX3_claims 7 = .ok (.ireturn, 1) := by decide +kernel
set_option maxRecDepth 20000 in
theorem ggX3_claimOf_X3_isOutside : GoodIn wsX3_claimOf wsX3_isOutside := goodIn_r _ [8] (by decide +kernel) (by decide +kernel)
set_option maxRecDepth 20000 in
theorem gX3_claimOf_X3_isOutside : GoodIn wsX3_claimOf (va_wsS RX3 39 yX3_isOutside wsX3_isOutside) := goodIn_app (goodIn_of _ (by decide +kernel)) ggX3_claimOf_X3_isOutside
theorem dX3_claimOf_0 : decode cX3_claimOf 0 = .ok (.iload_n 1, 1) := by decide +kernel
theorem dX3_claimOf_1 : decode cX3_claimOf 1 = .ok (.iconst 0, 1) := by decide +kernel
theorem dX3_claimOf_2 : decode cX3_claimOf 2 = .ok (.bipush 29, 2) := by decide +kernel
theorem dX3_claimOf_4 : decode cX3_claimOf 4 = .ok (.invokestatic 39, 3) := by decide +kernel
theorem dX3_claimOf_7 : decode cX3_claimOf 7 = .ok (.ifCond .eq 13, 3) := by decide +kernel
theorem dX3_claimOf_10 : decode cX3_claimOf 10 = .ok (.new 67, 3) := by decide +kernel
theorem dX3_claimOf_13 : decode cX3_claimOf 13 = .ok (.dup, 1) := by decide +kernel
theorem dX3_claimOf_14 : decode cX3_claimOf 14 = .ok (.ldc 176, 2) := by decide +kernel
theorem dX3_claimOf_16 : decode cX3_claimOf 16 = .ok (.invokespecial 71, 3) := by decide +kernel
theorem dX3_claimOf_19 : decode cX3_claimOf 19 = .ok (.athrow, 1) := by decide +kernel
theorem dX3_claimOf_20 : decode cX3_claimOf 20 = .ok (.aload_n 0, 1) := by decide +kernel
theorem dX3_claimOf_21 : decode cX3_claimOf 21 = .ok (.getfield 19, 3) := by decide +kernel
theorem dX3_claimOf_24 : decode cX3_claimOf 24 = .ok (.getfield 88, 3) := by decide +kernel
theorem dX3_claimOf_27 : decode cX3_claimOf 27 = .ok (.iload_n 1, 1) := by decide +kernel
theorem dX3_claimOf_28 : decode cX3_claimOf 28 = .ok (.iaload, 1) := by decide +kernel
theorem dX3_claimOf_29 : decode cX3_claimOf 29 = .ok (.ireturn, 1) := by decide +kernel
set_option maxRecDepth 20000 in
theorem ggX3_stateOf_X3_mustBeClaim : GoodIn wsX3_stateOf wsX3_mustBeClaim := goodIn_ca (goodIn_r _ [7, 8, 9, 1, 10, 11, 12, 13, 14, 15, 16, 17, 18, 19, 20, 21, 22, 23, 24, 25, 26, 27, 28, 29, 30] (by decide +kernel) (by decide +kernel)) (goodIn_sub (fun _ h => List.mem_cons_of_mem _ (List.mem_append_right _ h)) (by decide +kernel))
set_option maxRecDepth 20000 in
theorem gX3_stateOf_X3_mustBeClaim : GoodIn wsX3_stateOf (wsV RX3 112 RX3 yX3_mustBeClaim wsX3_mustBeClaim) := goodIn_app (goodIn_of _ (by decide +kernel)) ggX3_stateOf_X3_mustBeClaim
theorem dX3_stateOf_0 : decode cX3_stateOf 0 = .ok (.aload_n 0, 1) := by decide +kernel
theorem dX3_stateOf_1 : decode cX3_stateOf 1 = .ok (.iload_n 1, 1) := by decide +kernel
theorem dX3_stateOf_2 : decode cX3_stateOf 2 = .ok (.invokevirtual 112, 3) := by decide +kernel
theorem dX3_stateOf_5 : decode cX3_stateOf 5 = .ok (.aload_n 0, 1) := by decide +kernel
theorem dX3_stateOf_6 : decode cX3_stateOf 6 = .ok (.getfield 19, 3) := by decide +kernel
theorem dX3_stateOf_9 : decode cX3_stateOf 9 = .ok (.getfield 115, 3) := by decide +kernel
theorem dX3_stateOf_12 : decode cX3_stateOf 12 = .ok (.iload_n 1, 1) := by decide +kernel
theorem dX3_stateOf_13 : decode cX3_stateOf 13 = .ok (.iaload, 1) := by decide +kernel
theorem dX3_stateOf_14 : decode cX3_stateOf 14 = .ok (.ireturn, 1) := by decide +kernel
set_option maxRecDepth 20000 in
theorem ggX3_gradeOf_X3_mustBeClaim : GoodIn wsX3_gradeOf wsX3_mustBeClaim := goodIn_ca (goodIn_r _ [7, 8, 9, 1, 10, 11, 12, 13, 14, 15, 16, 17, 18, 19, 20, 21, 22, 23, 24, 25, 26, 27, 28, 29, 30] (by decide +kernel) (by decide +kernel)) (goodIn_sub (fun _ h => List.mem_cons_of_mem _ (List.mem_append_right _ h)) (by decide +kernel))
set_option maxRecDepth 20000 in
theorem gX3_gradeOf_X3_mustBeClaim : GoodIn wsX3_gradeOf (wsV RX3 112 RX3 yX3_mustBeClaim wsX3_mustBeClaim) := goodIn_app (goodIn_of _ (by decide +kernel)) ggX3_gradeOf_X3_mustBeClaim
theorem dX3_gradeOf_0 : decode cX3_gradeOf 0 = .ok (.aload_n 0, 1) := by decide +kernel
theorem dX3_gradeOf_1 : decode cX3_gradeOf 1 = .ok (.iload_n 1, 1) := by decide +kernel
theorem dX3_gradeOf_2 : decode cX3_gradeOf 2 = .ok (.invokevirtual 112, 3) := by decide +kernel
theorem dX3_gradeOf_5 : decode cX3_gradeOf 5 = .ok (.aload_n 0, 1) := by decide +kernel
theorem dX3_gradeOf_6 : decode cX3_gradeOf 6 = .ok (.getfield 19, 3) := by decide +kernel
theorem dX3_gradeOf_9 : decode cX3_gradeOf 9 = .ok (.getfield 178, 3) := by decide +kernel
theorem dX3_gradeOf_12 : decode cX3_gradeOf 12 = .ok (.iload_n 1, 1) := by decide +kernel
theorem dX3_gradeOf_13 : decode cX3_gradeOf 13 = .ok (.iaload, 1) := by decide +kernel
theorem dX3_gradeOf_14 : decode cX3_gradeOf 14 = .ok (.ireturn, 1) := by decide +kernel
set_option maxRecDepth 20000 in
theorem ggX3_room_X3_mustBeClaim : GoodIn wsX3_room wsX3_mustBeClaim := goodIn_ca (goodIn_r _ [9, 10, 11, 2, 12, 13, 14, 15, 16, 17, 30, 31, 32, 33, 34, 35, 36, 37, 38, 39, 40, 41, 42, 43, 44] (by decide +kernel) (by decide +kernel)) (goodIn_sub (fun _ h => List.mem_cons_of_mem _ (List.mem_append_right _ h)) (by decide +kernel))
set_option maxRecDepth 20000 in
theorem gX3_room_X3_mustBeClaim : GoodIn wsX3_room (wsV RX3 112 RX3 yX3_mustBeClaim wsX3_mustBeClaim) := goodIn_app (goodIn_of _ (by decide +kernel)) ggX3_room_X3_mustBeClaim
theorem dX3_room_0 : decode cX3_room 0 = .ok (.aload_n 0, 1) := by decide +kernel
theorem dX3_room_1 : decode cX3_room 1 = .ok (.iload_n 1, 1) := by decide +kernel
theorem dX3_room_2 : decode cX3_room 2 = .ok (.invokevirtual 112, 3) := by decide +kernel
theorem dX3_room_5 : decode cX3_room 5 = .ok (.aload_n 0, 1) := by decide +kernel
theorem dX3_room_6 : decode cX3_room 6 = .ok (.getfield 13, 3) := by decide +kernel
theorem dX3_room_9 : decode cX3_room 9 = .ok (.aload_n 0, 1) := by decide +kernel
theorem dX3_room_10 : decode cX3_room 10 = .ok (.getfield 19, 3) := by decide +kernel
theorem dX3_room_13 : decode cX3_room 13 = .ok (.getfield 178, 3) := by decide +kernel
theorem dX3_room_16 : decode cX3_room 16 = .ok (.iload_n 1, 1) := by decide +kernel
theorem dX3_room_17 : decode cX3_room 17 = .ok (.iaload, 1) := by decide +kernel
theorem dX3_room_18 : decode cX3_room 18 = .ok (.invokestatic 181, 3) := by decide +kernel
theorem dX3_room_21 : decode cX3_room 21 = .ok (.aload_n 0, 1) := by decide +kernel
theorem dX3_room_22 : decode cX3_room 22 = .ok (.getfield 26, 3) := by decide +kernel
theorem dX3_room_25 : decode cX3_room 25 = .ok (.iload_n 1, 1) := by decide +kernel
theorem dX3_room_26 : decode cX3_room 26 = .ok (.invokevirtual 185, 3) := by decide +kernel
theorem dX3_room_29 : decode cX3_room 29 = .ok (.isub, 1) := by decide +kernel
theorem dX3_room_30 : decode cX3_room 30 = .ok (.istore_n 2, 1) := by decide +kernel
theorem dX3_room_31 : decode cX3_room 31 = .ok (.iload_n 2, 1) := by decide +kernel
theorem dX3_room_32 : decode cX3_room 32 = .ok (.ifCond .ge 7, 3) := by decide +kernel
theorem dX3_room_35 : decode cX3_room 35 = .ok (.iconst 0, 1) := by decide +kernel
theorem dX3_room_36 : decode cX3_room 36 = .ok (.goto 4, 3) := by decide +kernel
theorem dX3_room_39 : decode cX3_room 39 = .ok (.iload_n 2, 1) := by decide +kernel
theorem dX3_room_40 : decode cX3_room 40 = .ok (.ireturn, 1) := by decide +kernel
set_option maxRecDepth 20000 in
theorem ggX3_paidTo_X3_mustBeClaim : GoodIn wsX3_paidTo wsX3_mustBeClaim := goodIn_ca (goodIn_r _ [6, 7, 8, 9, 10, 11, 12, 13, 14, 15, 25, 26, 27, 28, 29, 30, 31, 32, 33, 34, 35, 36, 37, 38, 39] (by decide +kernel) (by decide +kernel)) (goodIn_sub (fun _ h => List.mem_cons_of_mem _ (List.mem_append_right _ h)) (by decide +kernel))
set_option maxRecDepth 20000 in
theorem gX3_paidTo_X3_mustBeClaim : GoodIn wsX3_paidTo (wsV RX3 112 RX3 yX3_mustBeClaim wsX3_mustBeClaim) := goodIn_app (goodIn_of _ (by decide +kernel)) ggX3_paidTo_X3_mustBeClaim
theorem dX3_paidTo_0 : decode cX3_paidTo 0 = .ok (.aload_n 0, 1) := by decide +kernel
theorem dX3_paidTo_1 : decode cX3_paidTo 1 = .ok (.iload_n 1, 1) := by decide +kernel
theorem dX3_paidTo_2 : decode cX3_paidTo 2 = .ok (.invokevirtual 112, 3) := by decide +kernel
theorem dX3_paidTo_5 : decode cX3_paidTo 5 = .ok (.aload_n 0, 1) := by decide +kernel
theorem dX3_paidTo_6 : decode cX3_paidTo 6 = .ok (.getfield 26, 3) := by decide +kernel
theorem dX3_paidTo_9 : decode cX3_paidTo 9 = .ok (.iload_n 1, 1) := by decide +kernel
theorem dX3_paidTo_10 : decode cX3_paidTo 10 = .ok (.invokevirtual 185, 3) := by decide +kernel
theorem dX3_paidTo_13 : decode cX3_paidTo 13 = .ok (.ireturn, 1) := by decide +kernel
set_option maxRecDepth 20000 in
theorem ggX3_count_X3_isOutside : GoodIn wsX3_count wsX3_isOutside := goodIn_r _ [7] (by decide +kernel) (by decide +kernel)
set_option maxRecDepth 20000 in
theorem gX3_count_X3_isOutside : GoodIn wsX3_count (va_wsS RX3 39 yX3_isOutside wsX3_isOutside) := goodIn_app (goodIn_of _ (by decide +kernel)) ggX3_count_X3_isOutside
set_option maxRecDepth 20000 in
theorem ggX3_count_X0_tally : GoodIn wsX3_count wsX0_tally := goodIn_r _ [12, 13, 14, 24, 25, 26, 27, 28, 29] (by decide +kernel) (by decide +kernel)
set_option maxRecDepth 20000 in
theorem gX3_count_X0_tally : GoodIn wsX3_count (wsV RX3 131 RX0 yX0_tally wsX0_tally) := goodIn_app (goodIn_of _ (by decide +kernel)) ggX3_count_X0_tally
theorem dX3_count_0 : decode cX3_count 0 = .ok (.iload_n 1, 1) := by decide +kernel
theorem dX3_count_1 : decode cX3_count 1 = .ok (.iconst 0, 1) := by decide +kernel
theorem dX3_count_2 : decode cX3_count 2 = .ok (.iconst 3, 1) := by decide +kernel
theorem dX3_count_3 : decode cX3_count 3 = .ok (.invokestatic 39, 3) := by decide +kernel
theorem dX3_count_6 : decode cX3_count 6 = .ok (.ifCond .eq 13, 3) := by decide +kernel
theorem dX3_count_9 : decode cX3_count 9 = .ok (.new 43, 3) := by decide +kernel
theorem dX3_count_12 : decode cX3_count 12 = .ok (.dup, 1) := by decide +kernel
theorem dX3_count_13 : decode cX3_count 13 = .ok (.ldc 188, 2) := by decide +kernel
theorem dX3_count_15 : decode cX3_count 15 = .ok (.invokespecial 47, 3) := by decide +kernel
theorem dX3_count_18 : decode cX3_count 18 = .ok (.athrow, 1) := by decide +kernel
theorem dX3_count_19 : decode cX3_count 19 = .ok (.aload_n 0, 1) := by decide +kernel
theorem dX3_count_20 : decode cX3_count 20 = .ok (.getfield 19, 3) := by decide +kernel
theorem dX3_count_23 : decode cX3_count 23 = .ok (.iload_n 1, 1) := by decide +kernel
theorem dX3_count_24 : decode cX3_count 24 = .ok (.invokevirtual 131, 3) := by decide +kernel
theorem dX3_count_27 : decode cX3_count 27 = .ok (.ireturn, 1) := by decide +kernel
set_option maxRecDepth 20000 in
theorem ggX3_moneyLeft_X3_fee : GoodIn wsX3_moneyLeft wsX3_fee := goodIn_r _ [8, 1, 9, 10, 19, 20, 21, 22, 23, 24, 25, 26, 27] (by decide +kernel) (by decide +kernel)
set_option maxRecDepth 20000 in
theorem gX3_moneyLeft_X3_fee : GoodIn wsX3_moneyLeft (wsV RX3 190 RX3 yX3_fee wsX3_fee) := goodIn_app (goodIn_of _ (by decide +kernel)) ggX3_moneyLeft_X3_fee
set_option maxRecDepth 20000 in
theorem ggX3_moneyLeft_X1_sumOfAll : GoodIn wsX3_moneyLeft wsX1_sumOfAll := goodIn_r _ [15, 16, 17, 18, 28, 29, 30, 31, 32] (by decide +kernel) (by decide +kernel)
set_option maxRecDepth 20000 in
theorem gX3_moneyLeft_X1_sumOfAll : GoodIn wsX3_moneyLeft (wsV RX3 193 RX1 yX1_sumOfAll wsX1_sumOfAll) := goodIn_app (goodIn_of _ (by decide +kernel)) ggX3_moneyLeft_X1_sumOfAll
theorem dX3_moneyLeft_0 : decode cX3_moneyLeft 0 = .ok (.aload_n 0, 1) := by decide +kernel
theorem dX3_moneyLeft_1 : decode cX3_moneyLeft 1 = .ok (.getfield 53, 3) := by decide +kernel
theorem dX3_moneyLeft_4 : decode cX3_moneyLeft 4 = .ok (.aload_n 0, 1) := by decide +kernel
theorem dX3_moneyLeft_5 : decode cX3_moneyLeft 5 = .ok (.invokevirtual 190, 3) := by decide +kernel
theorem dX3_moneyLeft_8 : decode cX3_moneyLeft 8 = .ok (.isub, 1) := by decide +kernel
theorem dX3_moneyLeft_9 : decode cX3_moneyLeft 9 = .ok (.aload_n 0, 1) := by decide +kernel
theorem dX3_moneyLeft_10 : decode cX3_moneyLeft 10 = .ok (.getfield 60, 3) := by decide +kernel
theorem dX3_moneyLeft_13 : decode cX3_moneyLeft 13 = .ok (.isub, 1) := by decide +kernel
theorem dX3_moneyLeft_14 : decode cX3_moneyLeft 14 = .ok (.aload_n 0, 1) := by decide +kernel
theorem dX3_moneyLeft_15 : decode cX3_moneyLeft 15 = .ok (.getfield 26, 3) := by decide +kernel
theorem dX3_moneyLeft_18 : decode cX3_moneyLeft 18 = .ok (.invokevirtual 193, 3) := by decide +kernel
theorem dX3_moneyLeft_21 : decode cX3_moneyLeft 21 = .ok (.isub, 1) := by decide +kernel
theorem dX3_moneyLeft_22 : decode cX3_moneyLeft 22 = .ok (.ireturn, 1) := by decide +kernel
theorem dX3_fee_0 : decode cX3_fee 0 = .ok (.aload_n 0, 1) := by decide +kernel
theorem dX3_fee_1 : decode cX3_fee 1 = .ok (.getfield 53, 3) := by decide +kernel
theorem dX3_fee_4 : decode cX3_fee 4 = .ok (.i2l, 1) := by decide +kernel
theorem dX3_fee_5 : decode cX3_fee 5 = .ok (.aload_n 0, 1) := by decide +kernel
theorem dX3_fee_6 : decode cX3_fee 6 = .ok (.getfield 57, 3) := by decide +kernel
theorem dX3_fee_9 : decode cX3_fee 9 = .ok (.i2l, 1) := by decide +kernel
theorem dX3_fee_10 : decode cX3_fee 10 = .ok (.lmul, 1) := by decide +kernel
theorem dX3_fee_11 : decode cX3_fee 11 = .ok (.ldc2_w 196, 3) := by decide +kernel
theorem dX3_fee_14 : decode cX3_fee 14 = .ok (.ldiv, 1) := by decide +kernel
theorem dX3_fee_15 : decode cX3_fee 15 = .ok (.l2i, 1) := by decide +kernel
theorem dX3_fee_16 : decode cX3_fee 16 = .ok (.ireturn, 1) := by decide +kernel
theorem dX3_payments_0 : decode cX3_payments 0 = .ok (.aload_n 0, 1) := by decide +kernel
theorem dX3_payments_1 : decode cX3_payments 1 = .ok (.getfield 26, 3) := by decide +kernel
theorem dX3_payments_4 : decode cX3_payments 4 = .ok (.getfield 198, 3) := by decide +kernel
theorem dX3_payments_7 : decode cX3_payments 7 = .ok (.ireturn, 1) := by decide +kernel
set_option maxRecDepth 20000 in
theorem ggX3_paymentTo_X3_mustBePayment : GoodIn wsX3_paymentTo wsX3_mustBePayment := goodIn_ca (goodIn_r _ [7, 8, 9, 1, 10, 11, 12, 13, 14, 15, 16, 17, 18, 19, 20, 21, 22, 23, 24, 25, 26, 27, 28, 29] (by decide +kernel) (by decide +kernel)) (goodIn_sub (fun _ h => List.mem_cons_of_mem _ (List.mem_append_right _ h)) (by decide +kernel))
set_option maxRecDepth 20000 in
theorem gX3_paymentTo_X3_mustBePayment : GoodIn wsX3_paymentTo (wsV RX3 164 RX3 yX3_mustBePayment wsX3_mustBePayment) := goodIn_app (goodIn_of _ (by decide +kernel)) ggX3_paymentTo_X3_mustBePayment
theorem dX3_paymentTo_0 : decode cX3_paymentTo 0 = .ok (.aload_n 0, 1) := by decide +kernel
theorem dX3_paymentTo_1 : decode cX3_paymentTo 1 = .ok (.iload_n 1, 1) := by decide +kernel
theorem dX3_paymentTo_2 : decode cX3_paymentTo 2 = .ok (.invokevirtual 164, 3) := by decide +kernel
theorem dX3_paymentTo_5 : decode cX3_paymentTo 5 = .ok (.aload_n 0, 1) := by decide +kernel
theorem dX3_paymentTo_6 : decode cX3_paymentTo 6 = .ok (.getfield 26, 3) := by decide +kernel
theorem dX3_paymentTo_9 : decode cX3_paymentTo 9 = .ok (.getfield 199, 3) := by decide +kernel
theorem dX3_paymentTo_12 : decode cX3_paymentTo 12 = .ok (.iload_n 1, 1) := by decide +kernel
theorem dX3_paymentTo_13 : decode cX3_paymentTo 13 = .ok (.iaload, 1) := by decide +kernel
theorem dX3_paymentTo_14 : decode cX3_paymentTo 14 = .ok (.ireturn, 1) := by decide +kernel
set_option maxRecDepth 20000 in
theorem ggX3_amountOf_X3_mustBePayment : GoodIn wsX3_amountOf wsX3_mustBePayment := goodIn_ca (goodIn_r _ [7, 8, 9, 1, 10, 11, 12, 13, 14, 15, 16, 17, 18, 19, 20, 21, 22, 23, 24, 25, 26, 27, 28, 29] (by decide +kernel) (by decide +kernel)) (goodIn_sub (fun _ h => List.mem_cons_of_mem _ (List.mem_append_right _ h)) (by decide +kernel))
set_option maxRecDepth 20000 in
theorem gX3_amountOf_X3_mustBePayment : GoodIn wsX3_amountOf (wsV RX3 164 RX3 yX3_mustBePayment wsX3_mustBePayment) := goodIn_app (goodIn_of _ (by decide +kernel)) ggX3_amountOf_X3_mustBePayment
theorem dX3_amountOf_0 : decode cX3_amountOf 0 = .ok (.aload_n 0, 1) := by decide +kernel
theorem dX3_amountOf_1 : decode cX3_amountOf 1 = .ok (.iload_n 1, 1) := by decide +kernel
theorem dX3_amountOf_2 : decode cX3_amountOf 2 = .ok (.invokevirtual 164, 3) := by decide +kernel
theorem dX3_amountOf_5 : decode cX3_amountOf 5 = .ok (.aload_n 0, 1) := by decide +kernel
theorem dX3_amountOf_6 : decode cX3_amountOf 6 = .ok (.getfield 26, 3) := by decide +kernel
theorem dX3_amountOf_9 : decode cX3_amountOf 9 = .ok (.getfield 170, 3) := by decide +kernel
theorem dX3_amountOf_12 : decode cX3_amountOf 12 = .ok (.iload_n 1, 1) := by decide +kernel
theorem dX3_amountOf_13 : decode cX3_amountOf 13 = .ok (.iaload, 1) := by decide +kernel
theorem dX3_amountOf_14 : decode cX3_amountOf 14 = .ok (.ireturn, 1) := by decide +kernel
set_option maxRecDepth 20000 in
theorem ggX3_paymentState_X3_mustBePayment : GoodIn wsX3_paymentState wsX3_mustBePayment := goodIn_ca (goodIn_r _ [7, 8, 9, 1, 10, 11, 12, 13, 14, 15, 16, 17, 18, 19, 20, 21, 22, 23, 24, 25, 26, 27, 28, 29] (by decide +kernel) (by decide +kernel)) (goodIn_sub (fun _ h => List.mem_cons_of_mem _ (List.mem_append_right _ h)) (by decide +kernel))
set_option maxRecDepth 20000 in
theorem gX3_paymentState_X3_mustBePayment : GoodIn wsX3_paymentState (wsV RX3 164 RX3 yX3_mustBePayment wsX3_mustBePayment) := goodIn_app (goodIn_of _ (by decide +kernel)) ggX3_paymentState_X3_mustBePayment
theorem dX3_paymentState_0 : decode cX3_paymentState 0 = .ok (.aload_n 0, 1) := by decide +kernel
theorem dX3_paymentState_1 : decode cX3_paymentState 1 = .ok (.iload_n 1, 1) := by decide +kernel
theorem dX3_paymentState_2 : decode cX3_paymentState 2 = .ok (.invokevirtual 164, 3) := by decide +kernel
theorem dX3_paymentState_5 : decode cX3_paymentState 5 = .ok (.aload_n 0, 1) := by decide +kernel
theorem dX3_paymentState_6 : decode cX3_paymentState 6 = .ok (.getfield 26, 3) := by decide +kernel
theorem dX3_paymentState_9 : decode cX3_paymentState 9 = .ok (.getfield 167, 3) := by decide +kernel
theorem dX3_paymentState_12 : decode cX3_paymentState 12 = .ok (.iload_n 1, 1) := by decide +kernel
theorem dX3_paymentState_13 : decode cX3_paymentState 13 = .ok (.iaload, 1) := by decide +kernel
theorem dX3_paymentState_14 : decode cX3_paymentState 14 = .ok (.ireturn, 1) := by decide +kernel
set_option maxRecDepth 20000 in
theorem ggX3_shareOf_X3_shareFor : GoodIn wsX3_shareOf wsX3_shareFor := goodIn_ca (goodIn_ca (goodIn_r _ [5, 6, 7, 8, 9, 4, 10, 11, 12, 13, 14, 15, 16, 17, 18, 19, 20, 21, 22, 23, 24, 25, 26, 27, 28, 29, 30, 31, 32, 33, 34, 35, 36, 37, 38, 39, 40, 41, 42, 43, 44, 45, 46, 47, 48, 49, 50, 51, 52, 53, 54, 55, 56, 57, 58, 59, 60, 61, 62, 63, 64, 65, 66, 67, 68, 69, 70, 71, 72, 73, 74, 75, 76, 77, 78, 79, 80, 81, 82, 83, 84, 85, 86, 87, 88, 89, 90, 91, 92, 93, 94, 95, 96, 97, 98, 99, 100, 101, 102, 103, 104, 105, 106, 107, 108, 109, 110, 111, 112, 113, 114, 115, 116, 117, 118, 119, 120, 121, 122, 123, 124, 125, 126, 127, 128, 129, 130, 131, 132, 133, 134, 135, 136, 137, 138, 139, 140, 141, 142, 143, 144, 145, 146, 147, 148, 149, 150, 151, 152, 153, 154, 155, 156, 157, 158, 159, 160, 161, 162, 163, 164, 165, 166, 167, 168, 169, 170, 171, 172, 173, 174, 175, 176, 177, 178, 179, 180, 181, 182, 183, 184] (by decide +kernel) (by decide +kernel)) (goodIn_sub (fun _ h => List.mem_cons_of_mem _ (List.mem_append_left _ (List.mem_append_right _ h))) (by decide +kernel))) (goodIn_sub (fun _ h => List.mem_cons_of_mem _ (List.mem_append_right _ h)) (by decide +kernel))
set_option maxRecDepth 20000 in
theorem gX3_shareOf_X3_shareFor : GoodIn wsX3_shareOf (wsV RX3 202 RX3 yX3_shareFor wsX3_shareFor) := goodIn_app (goodIn_of _ (by decide +kernel)) ggX3_shareOf_X3_shareFor
theorem dX3_shareOf_0 : decode cX3_shareOf 0 = .ok (.aload_n 0, 1) := by decide +kernel
theorem dX3_shareOf_1 : decode cX3_shareOf 1 = .ok (.iload_n 1, 1) := by decide +kernel
theorem dX3_shareOf_2 : decode cX3_shareOf 2 = .ok (.iload_n 2, 1) := by decide +kernel
theorem dX3_shareOf_3 : decode cX3_shareOf 3 = .ok (.iconst 0, 1) := by decide +kernel
theorem dX3_shareOf_4 : decode cX3_shareOf 4 = .ok (.invokevirtual 202, 3) := by decide +kernel
theorem dX3_shareOf_7 : decode cX3_shareOf 7 = .ok (.ireturn, 1) := by decide +kernel
set_option maxRecDepth 20000 in
theorem ggX3_shareBySorting_X3_shareFor : GoodIn wsX3_shareBySorting wsX3_shareFor := goodIn_ca (goodIn_ca (goodIn_r _ [5, 6, 7, 8, 9, 4, 10, 11, 12, 13, 14, 15, 16, 17, 18, 19, 20, 21, 22, 23, 24, 25, 26, 27, 28, 29, 30, 31, 32, 33, 34, 35, 36, 37, 38, 39, 40, 41, 42, 43, 44, 45, 46, 47, 48, 49, 50, 51, 52, 53, 54, 55, 56, 57, 58, 59, 60, 61, 62, 63, 64, 65, 66, 67, 68, 69, 70, 71, 72, 73, 74, 75, 76, 77, 78, 79, 80, 81, 82, 83, 84, 85, 86, 87, 88, 89, 90, 91, 92, 93, 94, 95, 96, 97, 98, 99, 100, 101, 102, 103, 104, 105, 106, 107, 108, 109, 110, 111, 112, 113, 114, 115, 116, 117, 118, 119, 120, 121, 122, 123, 124, 125, 126, 127, 128, 129, 130, 131, 132, 133, 134, 135, 136, 137, 138, 139, 140, 141, 142, 143, 144, 145, 146, 147, 148, 149, 150, 151, 152, 153, 154, 155, 156, 157, 158, 159, 160, 161, 162, 163, 164, 165, 166, 167, 168, 169, 170, 171, 172, 173, 174, 175, 176, 177, 178, 179, 180, 181, 182, 183, 184] (by decide +kernel) (by decide +kernel)) (goodIn_sub (fun _ h => List.mem_cons_of_mem _ (List.mem_append_left _ (List.mem_append_right _ h))) (by decide +kernel))) (goodIn_sub (fun _ h => List.mem_cons_of_mem _ (List.mem_append_right _ h)) (by decide +kernel))
set_option maxRecDepth 20000 in
theorem gX3_shareBySorting_X3_shareFor : GoodIn wsX3_shareBySorting (wsV RX3 202 RX3 yX3_shareFor wsX3_shareFor) := goodIn_app (goodIn_of _ (by decide +kernel)) ggX3_shareBySorting_X3_shareFor
theorem dX3_shareBySorting_0 : decode cX3_shareBySorting 0 = .ok (.aload_n 0, 1) := by decide +kernel
theorem dX3_shareBySorting_1 : decode cX3_shareBySorting 1 = .ok (.iload_n 1, 1) := by decide +kernel
theorem dX3_shareBySorting_2 : decode cX3_shareBySorting 2 = .ok (.iload_n 2, 1) := by decide +kernel
theorem dX3_shareBySorting_3 : decode cX3_shareBySorting 3 = .ok (.iconst 1, 1) := by decide +kernel
theorem dX3_shareBySorting_4 : decode cX3_shareBySorting 4 = .ok (.invokevirtual 202, 3) := by decide +kernel
theorem dX3_shareBySorting_7 : decode cX3_shareBySorting 7 = .ok (.ireturn, 1) := by decide +kernel
theorem dX3_isOutside_0 : decode cX3_isOutside 0 = .ok (.iload_n 0, 1) := by decide +kernel
theorem dX3_isOutside_1 : decode cX3_isOutside 1 = .ok (.iload_n 1, 1) := by decide +kernel
theorem dX3_isOutside_2 : decode cX3_isOutside 2 = .ok (.if_icmp .lt 8, 3) := by decide +kernel
theorem dX3_isOutside_5 : decode cX3_isOutside 5 = .ok (.iload_n 0, 1) := by decide +kernel
theorem dX3_isOutside_6 : decode cX3_isOutside 6 = .ok (.iload_n 2, 1) := by decide +kernel
theorem dX3_isOutside_7 : decode cX3_isOutside 7 = .ok (.if_icmp .le 7, 3) := by decide +kernel
theorem dX3_isOutside_10 : decode cX3_isOutside 10 = .ok (.iconst 1, 1) := by decide +kernel
theorem dX3_isOutside_11 : decode cX3_isOutside 11 = .ok (.goto 4, 3) := by decide +kernel
theorem dX3_isOutside_14 : decode cX3_isOutside 14 = .ok (.iconst 0, 1) := by decide +kernel
theorem dX3_isOutside_15 : decode cX3_isOutside 15 = .ok (.ireturn, 1) := by decide +kernel
set_option maxRecDepth 20000 in
theorem ggX3_mustBeClaim_X0_has : GoodIn wsX3_mustBeClaim wsX0_has := goodIn_r _ [8, 9, 19, 20, 21, 22, 23, 24] (by decide +kernel) (by decide +kernel)
set_option maxRecDepth 20000 in
theorem gX3_mustBeClaim_X0_has : GoodIn wsX3_mustBeClaim (wsV RX3 91 RX0 yX0_has wsX0_has) := goodIn_app (goodIn_of _ (by decide +kernel)) ggX3_mustBeClaim_X0_has
theorem dX3_mustBeClaim_0 : decode cX3_mustBeClaim 0 = .ok (.aload_n 0, 1) := by decide +kernel
theorem dX3_mustBeClaim_1 : decode cX3_mustBeClaim 1 = .ok (.getfield 19, 3) := by decide +kernel
theorem dX3_mustBeClaim_4 : decode cX3_mustBeClaim 4 = .ok (.iload_n 1, 1) := by decide +kernel
theorem dX3_mustBeClaim_5 : decode cX3_mustBeClaim 5 = .ok (.invokevirtual 91, 3) := by decide +kernel
theorem dX3_mustBeClaim_8 : decode cX3_mustBeClaim 8 = .ok (.ifCond .ne 13, 3) := by decide +kernel
theorem dX3_mustBeClaim_11 : decode cX3_mustBeClaim 11 = .ok (.new 67, 3) := by decide +kernel
theorem dX3_mustBeClaim_14 : decode cX3_mustBeClaim 14 = .ok (.dup, 1) := by decide +kernel
theorem dX3_mustBeClaim_15 : decode cX3_mustBeClaim 15 = .ok (.ldc 206, 2) := by decide +kernel
theorem dX3_mustBeClaim_17 : decode cX3_mustBeClaim 17 = .ok (.invokespecial 71, 3) := by decide +kernel
theorem dX3_mustBeClaim_20 : decode cX3_mustBeClaim 20 = .ok (.athrow, 1) := by decide +kernel
theorem dX3_mustBeClaim_21 : decode cX3_mustBeClaim 21 = .ok (.return_, 1) := by decide +kernel
set_option maxRecDepth 20000 in
theorem ggX3_mustBePayment_X1_has : GoodIn wsX3_mustBePayment wsX1_has := goodIn_r _ [8, 9, 19, 20, 21, 22, 23] (by decide +kernel) (by decide +kernel)
set_option maxRecDepth 20000 in
theorem gX3_mustBePayment_X1_has : GoodIn wsX3_mustBePayment (wsV RX3 208 RX1 yX1_has wsX1_has) := goodIn_app (goodIn_of _ (by decide +kernel)) ggX3_mustBePayment_X1_has
theorem dX3_mustBePayment_0 : decode cX3_mustBePayment 0 = .ok (.aload_n 0, 1) := by decide +kernel
theorem dX3_mustBePayment_1 : decode cX3_mustBePayment 1 = .ok (.getfield 26, 3) := by decide +kernel
theorem dX3_mustBePayment_4 : decode cX3_mustBePayment 4 = .ok (.iload_n 1, 1) := by decide +kernel
theorem dX3_mustBePayment_5 : decode cX3_mustBePayment 5 = .ok (.invokevirtual 208, 3) := by decide +kernel
theorem dX3_mustBePayment_8 : decode cX3_mustBePayment 8 = .ok (.ifCond .ne 13, 3) := by decide +kernel
theorem dX3_mustBePayment_11 : decode cX3_mustBePayment 11 = .ok (.new 67, 3) := by decide +kernel
theorem dX3_mustBePayment_14 : decode cX3_mustBePayment 14 = .ok (.dup, 1) := by decide +kernel
theorem dX3_mustBePayment_15 : decode cX3_mustBePayment 15 = .ok (.ldc 209, 2) := by decide +kernel
theorem dX3_mustBePayment_17 : decode cX3_mustBePayment 17 = .ok (.invokespecial 71, 3) := by decide +kernel
theorem dX3_mustBePayment_20 : decode cX3_mustBePayment 20 = .ok (.athrow, 1) := by decide +kernel
theorem dX3_mustBePayment_21 : decode cX3_mustBePayment 21 = .ok (.return_, 1) := by decide +kernel
set_option maxRecDepth 20000 in
theorem ggX3_mustBeLeast_X3_isOutside : GoodIn wsX3_mustBeLeast wsX3_isOutside := goodIn_r _ [7] (by decide +kernel) (by decide +kernel)
set_option maxRecDepth 20000 in
theorem gX3_mustBeLeast_X3_isOutside : GoodIn wsX3_mustBeLeast (va_wsS RX3 39 yX3_isOutside wsX3_isOutside) := goodIn_app (goodIn_of _ (by decide +kernel)) ggX3_mustBeLeast_X3_isOutside
theorem dX3_mustBeLeast_0 : decode cX3_mustBeLeast 0 = .ok (.iload_n 1, 1) := by decide +kernel
theorem dX3_mustBeLeast_1 : decode cX3_mustBeLeast 1 = .ok (.iconst 0, 1) := by decide +kernel
theorem dX3_mustBeLeast_2 : decode cX3_mustBeLeast 2 = .ok (.ldc 211, 2) := by decide +kernel
theorem dX3_mustBeLeast_4 : decode cX3_mustBeLeast 4 = .ok (.invokestatic 39, 3) := by decide +kernel
theorem dX3_mustBeLeast_7 : decode cX3_mustBeLeast 7 = .ok (.ifCond .eq 13, 3) := by decide +kernel
theorem dX3_mustBeLeast_10 : decode cX3_mustBeLeast 10 = .ok (.new 43, 3) := by decide +kernel
theorem dX3_mustBeLeast_13 : decode cX3_mustBeLeast 13 = .ok (.dup, 1) := by decide +kernel
theorem dX3_mustBeLeast_14 : decode cX3_mustBeLeast 14 = .ok (.ldc 212, 2) := by decide +kernel
theorem dX3_mustBeLeast_16 : decode cX3_mustBeLeast 16 = .ok (.invokespecial 47, 3) := by decide +kernel
theorem dX3_mustBeLeast_19 : decode cX3_mustBeLeast 19 = .ok (.athrow, 1) := by decide +kernel
theorem dX3_mustBeLeast_20 : decode cX3_mustBeLeast 20 = .ok (.return_, 1) := by decide +kernel
theorem dX3_mustHaveNoPayments_0 : decode cX3_mustHaveNoPayments 0 = .ok (.aload_n 0, 1) := by decide +kernel
theorem dX3_mustHaveNoPayments_1 : decode cX3_mustHaveNoPayments 1 = .ok (.getfield 26, 3) := by decide +kernel
theorem dX3_mustHaveNoPayments_4 : decode cX3_mustHaveNoPayments 4 = .ok (.getfield 198, 3) := by decide +kernel
theorem dX3_mustHaveNoPayments_7 : decode cX3_mustHaveNoPayments 7 = .ok (.ifCond .le 13, 3) := by decide +kernel
theorem dX3_mustHaveNoPayments_10 : decode cX3_mustHaveNoPayments 10 = .ok (.new 103, 3) := by decide +kernel
theorem dX3_mustHaveNoPayments_13 : decode cX3_mustHaveNoPayments 13 = .ok (.dup, 1) := by decide +kernel
theorem dX3_mustHaveNoPayments_14 : decode cX3_mustHaveNoPayments 14 = .ok (.ldc 214, 2) := by decide +kernel
theorem dX3_mustHaveNoPayments_16 : decode cX3_mustHaveNoPayments 16 = .ok (.invokespecial 107, 3) := by decide +kernel
theorem dX3_mustHaveNoPayments_19 : decode cX3_mustHaveNoPayments 19 = .ok (.athrow, 1) := by decide +kernel
theorem dX3_mustHaveNoPayments_20 : decode cX3_mustHaveNoPayments 20 = .ok (.return_, 1) := by decide +kernel
set_option maxRecDepth 20000 in
theorem ggX3_shareFor_X3_mustBeClaim : GoodIn wsX3_shareFor wsX3_mustBeClaim := goodIn_ca (goodIn_r _ [6, 7, 8, 9, 10, 11, 12, 13, 14, 15, 153, 154, 155, 156, 157, 158, 159, 160, 161, 162, 163, 164, 165, 166, 167] (by decide +kernel) (by decide +kernel)) (goodIn_sub (fun _ h => List.mem_cons_of_mem _ (List.mem_append_left _ (List.mem_append_right _ h))) (by decide +kernel))
set_option maxRecDepth 20000 in
theorem gX3_shareFor_X3_mustBeClaim : GoodIn wsX3_shareFor (wsV RX3 112 RX3 yX3_mustBeClaim wsX3_mustBeClaim) := goodIn_app (goodIn_of _ (by decide +kernel)) ggX3_shareFor_X3_mustBeClaim
set_option maxRecDepth 20000 in
theorem ggX3_shareFor_X3_mustBeLeast : GoodIn wsX3_shareFor wsX3_mustBeLeast := goodIn_ca (goodIn_r _ [19, 20, 21, 22, 23, 24, 5, 25] (by decide +kernel) (by decide +kernel)) (goodIn_sub (fun _ h => List.mem_cons_of_mem _ (List.mem_append_right _ h)) (by decide +kernel))
set_option maxRecDepth 20000 in
theorem gX3_shareFor_X3_mustBeLeast : GoodIn wsX3_shareFor (wsV RX3 137 RX3 yX3_mustBeLeast wsX3_mustBeLeast) := goodIn_app (goodIn_of _ (by decide +kernel)) ggX3_shareFor_X3_mustBeLeast
theorem dX3_shareFor_0 : decode cX3_shareFor 0 = .ok (.aload_n 0, 1) := by decide +kernel
theorem dX3_shareFor_1 : decode cX3_shareFor 1 = .ok (.iload_n 1, 1) := by decide +kernel
theorem dX3_shareFor_2 : decode cX3_shareFor 2 = .ok (.invokevirtual 112, 3) := by decide +kernel
theorem dX3_shareFor_5 : decode cX3_shareFor 5 = .ok (.aload_n 0, 1) := by decide +kernel
theorem dX3_shareFor_6 : decode cX3_shareFor 6 = .ok (.iload_n 2, 1) := by decide +kernel
theorem dX3_shareFor_7 : decode cX3_shareFor 7 = .ok (.invokevirtual 137, 3) := by decide +kernel
theorem dX3_shareFor_10 : decode cX3_shareFor 10 = .ok (.aload_n 0, 1) := by decide +kernel
theorem dX3_shareFor_11 : decode cX3_shareFor 11 = .ok (.iload_n 2, 1) := by decide +kernel
theorem dX3_shareFor_12 : decode cX3_shareFor 12 = .ok (.iload_n 3, 1) := by decide +kernel
theorem dX3_shareFor_13 : decode cX3_shareFor 13 = .ok (.invokevirtual 149, 3) := by decide +kernel
theorem dX3_shareFor_16 : decode cX3_shareFor 16 = .ok (.aload_n 0, 1) := by decide +kernel
theorem dX3_shareFor_17 : decode cX3_shareFor 17 = .ok (.getfield 33, 3) := by decide +kernel
theorem dX3_shareFor_20 : decode cX3_shareFor 20 = .ok (.iload_n 1, 1) := by decide +kernel
theorem dX3_shareFor_21 : decode cX3_shareFor 21 = .ok (.invokevirtual 216, 3) := by decide +kernel
theorem dX3_shareFor_24 : decode cX3_shareFor 24 = .ok (.ireturn, 1) := by decide +kernel
theorem dL_dice_0 : decode cL_dice 0 = .ok (.iload_n 1, 1) := by decide +kernel
theorem dL_dice_1 : decode cL_dice 1 = .ok (.aload_n 0, 1) := by decide +kernel
theorem dL_dice_2 : decode cL_dice 2 = .ok (.arraylength, 1) := by decide +kernel
theorem dL_dice_3 : decode cL_dice 3 = .ok (.if_icmp .ge 9, 3) := by decide +kernel
theorem dL_dice_6 : decode cL_dice 6 = .ok (.aload_n 0, 1) := by decide +kernel
theorem dL_dice_7 : decode cL_dice 7 = .ok (.iload_n 1, 1) := by decide +kernel
theorem dL_dice_8 : decode cL_dice 8 = .ok (.iaload, 1) := by decide +kernel
theorem dL_dice_9 : decode cL_dice 9 = .ok (.goto 21, 3) := by decide +kernel
theorem dL_dice_12 : decode cL_dice 12 = .ok (.ldc 7, 2) := by decide +kernel
theorem dL_dice_14 : decode cL_dice 14 = .ok (.iload_n 1, 1) := by decide +kernel
theorem dL_dice_15 : decode cL_dice 15 = .ok (.bipush 127, 2) := by decide +kernel
theorem dL_dice_17 : decode cL_dice 17 = .ok (.iadd, 1) := by decide +kernel
theorem dL_dice_18 : decode cL_dice 18 = .ok (.imul, 1) := by decide +kernel
theorem dL_dice_19 : decode cL_dice 19 = .ok (.sipush 487, 3) := by decide +kernel
theorem dL_dice_22 : decode cL_dice 22 = .ok (.iload_n 1, 1) := by decide +kernel
theorem dL_dice_23 : decode cL_dice 23 = .ok (.imul, 1) := by decide +kernel
theorem dL_dice_24 : decode cL_dice 24 = .ok (.iload_n 1, 1) := by decide +kernel
theorem dL_dice_25 : decode cL_dice 25 = .ok (.imul, 1) := by decide +kernel
theorem dL_dice_26 : decode cL_dice 26 = .ok (.iadd, 1) := by decide +kernel
theorem dL_dice_27 : decode cL_dice 27 = .ok (.bipush 97, 2) := by decide +kernel
theorem dL_dice_29 : decode cL_dice 29 = .ok (.iadd, 1) := by decide +kernel
theorem dL_dice_30 : decode cL_dice 30 = .ok (.ldc 8, 2) := by decide +kernel
theorem dL_dice_32 : decode cL_dice 32 = .ok (.iand, 1) := by decide +kernel
theorem dL_dice_33 : decode cL_dice 33 = .ok (.ireturn, 1) := by decide +kernel
set_option maxRecDepth 20000 in
theorem ggL_act_X3_setFund : GoodIn wsL_act wsX3_setFund := goodIn_ca (goodIn_ca (goodIn_r _ [11, 12, 13, 14, 15, 16, 17, 18, 19, 20, 10, 21, 22, 23, 24, 25, 26, 27, 28, 29, 30, 31, 32, 33, 34, 35, 36, 37, 38, 39, 40, 41, 42, 43, 44, 45, 46, 272, 273, 274, 275, 276, 277, 278, 279, 280, 281, 282, 283, 284, 285] (by decide +kernel) (by decide +kernel)) (goodIn_sub (fun _ h => List.mem_cons_of_mem _ (List.mem_append_left _ (List.mem_append_left _ (List.mem_append_right _ h)))) (by decide +kernel))) (goodIn_sub (fun _ h => List.mem_cons_of_mem _ (List.mem_append_left _ (List.mem_append_right _ h))) (by decide +kernel))
set_option maxRecDepth 20000 in
theorem gL_act_X3_setFund : GoodIn wsL_act (wsV RL 9 RX3 yX3_setFund wsX3_setFund) := goodIn_app (goodIn_of _ (by decide +kernel)) ggL_act_X3_setFund
set_option maxRecDepth 20000 in
theorem ggL_act_X3_pass : GoodIn wsL_act wsX3_pass := goodIn_ca (goodIn_r _ [50, 12, 13, 51, 52, 28, 19, 20, 10, 21, 53, 54, 55, 56, 57, 58, 59, 60, 61, 62, 63, 42, 64, 44, 45, 65, 272, 273, 274, 275, 276, 277, 278, 279, 280, 286, 287, 288, 289, 290, 291, 281, 282, 283, 284, 285] (by decide +kernel) (by decide +kernel)) (goodIn_sub (fun _ h => List.mem_cons_of_mem _ (List.mem_append_left _ (List.mem_append_left _ (List.mem_append_right _ h)))) (by decide +kernel))
set_option maxRecDepth 20000 in
theorem gL_act_X3_pass : GoodIn wsL_act (wsV RL 15 RX3 yX3_pass wsX3_pass) := goodIn_app (goodIn_of _ (by decide +kernel)) ggL_act_X3_pass
set_option maxRecDepth 20000 in
theorem ggL_act_X3_round : GoodIn wsL_act wsX3_round := goodIn_ca (goodIn_ca (goodIn_ca (goodIn_r _ [69, 26, 27, 52, 28, 70, 71, 72, 73, 10, 74, 12, 13, 75, 19, 20, 21, 76, 77, 78, 56, 79, 58, 59, 80, 81, 82, 42, 83, 44, 45, 30, 31, 32, 33, 16, 18, 34, 35, 36, 37, 17, 38, 39, 40, 41, 43, 46, 84, 85, 86, 87, 88, 89, 90, 91, 92, 93, 94, 95, 96, 97, 98, 99, 100, 101, 102, 103, 104, 105, 106, 107, 108, 109, 110, 111, 112, 113, 114, 115, 116, 117, 118, 119, 120, 121, 122, 123, 124, 125, 126, 127, 128, 129, 130, 131, 132, 133, 134, 135, 136, 137, 138, 139, 140, 141, 142, 143, 144, 145, 146, 147, 148, 149, 150, 151, 152, 153, 154, 155, 156, 157, 158, 159, 160, 161, 162, 163, 164, 165, 166, 167, 168, 169, 170, 171, 172, 173, 174, 175, 176, 177, 178, 179, 180, 181, 182, 183, 184, 185, 186, 187, 188, 189, 190, 191, 192, 193, 194, 195, 196, 197, 198, 199, 200, 201, 202, 203, 204, 205, 206, 207, 51, 208, 209, 210, 211, 212, 213, 214, 215, 65, 216, 272, 273, 274, 275, 276, 277, 278, 279, 280, 286, 287, 288, 289, 290, 291, 281, 282, 283, 284, 285, 292, 293, 294, 295, 296, 297, 298, 299] (by decide +kernel) (by decide +kernel)) (goodIn_sub (fun _ h => List.mem_cons_of_mem _ (List.mem_append_left _ (List.mem_append_right _ h))) (by decide +kernel))) (goodIn_sub (fun _ h => List.mem_cons_of_mem _ (List.mem_append_left _ (List.mem_append_left _ (List.mem_append_right _ h)))) (by decide +kernel))) (goodIn_sub (fun _ h => List.mem_cons_of_mem _ (List.mem_append_right _ h)) (by decide +kernel))
set_option maxRecDepth 20000 in
theorem gL_act_X3_round : GoodIn wsL_act (wsV RL 19 RX3 yX3_round wsX3_round) := goodIn_app (goodIn_of _ (by decide +kernel)) ggL_act_X3_round
set_option maxRecDepth 20000 in
theorem ggL_act_X3_cash : GoodIn wsL_act wsX3_cash := goodIn_ca (goodIn_ca (goodIn_r _ [220, 26, 27, 28, 221, 222, 223, 224, 225, 10, 226, 111, 112, 227, 228, 229, 42, 230, 44, 272, 273, 274, 275, 276, 277, 278, 279, 280, 281, 282, 283, 284, 285] (by decide +kernel) (by decide +kernel)) (goodIn_sub (fun _ h => List.mem_cons_of_mem _ (List.mem_append_left _ (List.mem_append_right _ h))) (by decide +kernel))) (goodIn_sub (fun _ h => List.mem_cons_of_mem _ (List.mem_append_right _ h)) (by decide +kernel))
set_option maxRecDepth 20000 in
theorem gL_act_X3_cash : GoodIn wsL_act (wsV RL 22 RX3 yX3_cash wsX3_cash) := goodIn_app (goodIn_of _ (by decide +kernel)) ggL_act_X3_cash
set_option maxRecDepth 20000 in
theorem ggL_act_X3_cure : GoodIn wsL_act wsX3_cure := goodIn_ca (goodIn_ca (goodIn_r _ [234, 26, 27, 52, 101, 235, 51, 107, 108, 109, 10, 110, 111, 112, 113, 114, 115, 56, 116, 58, 272, 273, 274, 275, 276, 277, 278, 279, 280, 286, 287, 288, 289, 290, 291] (by decide +kernel) (by decide +kernel)) (goodIn_sub (fun _ h => List.mem_cons_of_mem _ (List.mem_append_left _ (List.mem_append_right _ h))) (by decide +kernel))) (goodIn_sub (fun _ h => List.mem_cons_of_mem _ (List.mem_append_right _ h)) (by decide +kernel))
set_option maxRecDepth 20000 in
theorem gL_act_X3_cure : GoodIn wsL_act (wsV RL 25 RX3 yX3_cure wsX3_cure) := goodIn_app (goodIn_of _ (by decide +kernel)) ggL_act_X3_cure
set_option maxRecDepth 20000 in
theorem ggL_act_X3_deny : GoodIn wsL_act wsX3_deny := goodIn_ca (goodIn_ca (goodIn_r _ [239, 26, 27, 52, 101, 107, 108, 109, 10, 110, 111, 112, 113, 114, 115, 56, 116, 58, 272, 273, 274, 275, 276, 277, 278, 279, 280, 286, 287, 288, 289, 290, 291] (by decide +kernel) (by decide +kernel)) (goodIn_sub (fun _ h => List.mem_cons_of_mem _ (List.mem_append_left _ (List.mem_append_right _ h))) (by decide +kernel))) (goodIn_sub (fun _ h => List.mem_cons_of_mem _ (List.mem_append_right _ h)) (by decide +kernel))
set_option maxRecDepth 20000 in
theorem gL_act_X3_deny : GoodIn wsL_act (wsV RL 28 RX3 yX3_deny wsX3_deny) := goodIn_app (goodIn_of _ (by decide +kernel)) ggL_act_X3_deny
set_option maxRecDepth 20000 in
theorem ggL_act_X3_object : GoodIn wsL_act wsX3_object := goodIn_ca (goodIn_ca (goodIn_r _ [243, 26, 27, 52, 101, 244, 107, 108, 109, 10, 110, 111, 112, 113, 114, 115, 56, 116, 58, 76, 77, 78, 79, 59, 272, 273, 274, 275, 276, 277, 278, 279, 280, 286, 287, 288, 289, 290, 291] (by decide +kernel) (by decide +kernel)) (goodIn_sub (fun _ h => List.mem_cons_of_mem _ (List.mem_append_left _ (List.mem_append_right _ h))) (by decide +kernel))) (goodIn_sub (fun _ h => List.mem_cons_of_mem _ (List.mem_append_right _ h)) (by decide +kernel))
set_option maxRecDepth 20000 in
theorem gL_act_X3_object : GoodIn wsL_act (wsV RL 31 RX3 yX3_object wsX3_object) := goodIn_app (goodIn_of _ (by decide +kernel)) ggL_act_X3_object
set_option maxRecDepth 20000 in
theorem ggL_act_X3_decide : GoodIn wsL_act wsX3_decide := goodIn_ca (goodIn_ca (goodIn_r _ [248, 26, 27, 52, 101, 107, 108, 109, 10, 110, 111, 112, 113, 114, 115, 56, 116, 58, 76, 77, 78, 79, 59, 272, 273, 274, 275, 276, 277, 278, 279, 280, 286, 287, 288, 289, 290, 291] (by decide +kernel) (by decide +kernel)) (goodIn_sub (fun _ h => List.mem_cons_of_mem _ (List.mem_append_left _ (List.mem_append_right _ h))) (by decide +kernel))) (goodIn_sub (fun _ h => List.mem_cons_of_mem _ (List.mem_append_right _ h)) (by decide +kernel))
set_option maxRecDepth 20000 in
theorem gL_act_X3_decide : GoodIn wsL_act (wsV RL 34 RX3 yX3_decide wsX3_decide) := goodIn_app (goodIn_of _ (by decide +kernel)) ggL_act_X3_decide
set_option maxRecDepth 20000 in
theorem ggL_act_X3_claim : GoodIn wsL_act wsX3_claim := goodIn_ca (goodIn_ca (goodIn_ca (goodIn_r _ [252, 111, 112, 12, 13, 26, 27, 52, 253, 51, 19, 20, 10, 21, 113, 114, 115, 56, 116, 58, 254, 255, 256, 257, 258, 259, 260, 261, 262, 59, 263, 264, 265, 266, 267, 268, 269, 270, 271, 60, 272, 273, 274, 275, 276, 277, 278, 279, 280, 286, 287, 288, 289, 290, 291] (by decide +kernel) (by decide +kernel)) (goodIn_sub (fun _ h => List.mem_cons_of_mem _ (List.mem_append_right _ h)) (by decide +kernel))) (goodIn_sub (fun _ h => List.mem_cons_of_mem _ (List.mem_append_left _ (List.mem_append_left _ (List.mem_append_right _ h)))) (by decide +kernel))) (goodIn_sub (fun _ h => List.mem_cons_of_mem _ (List.mem_append_left _ (List.mem_append_right _ h))) (by decide +kernel))
set_option maxRecDepth 20000 in
theorem gL_act_X3_claim : GoodIn wsL_act (wsV RL 38 RX3 yX3_claim wsX3_claim) := goodIn_app (goodIn_of _ (by decide +kernel)) ggL_act_X3_claim
theorem dL_act_0 : decode cL_act 0 = .ok (.iload_n 1, 1) := by decide +kernel
theorem dL_act_1 : decode cL_act 1 = .ok (.ifCond .ne 14, 3) := by decide +kernel
theorem dL_act_4 : decode cL_act 4 = .ok (.aload_n 0, 1) := by decide +kernel
theorem dL_act_5 : decode cL_act 5 = .ok (.iload_n 2, 1) := by decide +kernel
theorem dL_act_6 : decode cL_act 6 = .ok (.iload_n 3, 1) := by decide +kernel
theorem dL_act_7 : decode cL_act 7 = .ok (.iload 4, 2) := by decide +kernel
theorem dL_act_9 : decode cL_act 9 = .ok (.invokevirtual 9, 3) := by decide +kernel
theorem dL_act_12 : decode cL_act 12 = .ok (.goto 136, 3) := by decide +kernel
theorem dL_act_15 : decode cL_act 15 = .ok (.iload_n 1, 1) := by decide +kernel
theorem dL_act_16 : decode cL_act 16 = .ok (.iconst 1, 1) := by decide +kernel
theorem dL_act_17 : decode cL_act 17 = .ok (.if_icmp .ne 11, 3) := by decide +kernel
theorem dL_act_20 : decode cL_act 20 = .ok (.aload_n 0, 1) := by decide +kernel
theorem dL_act_21 : decode cL_act 21 = .ok (.iload_n 2, 1) := by decide +kernel
theorem dL_act_22 : decode cL_act 22 = .ok (.invokevirtual 15, 3) := by decide +kernel
theorem dL_act_25 : decode cL_act 25 = .ok (.goto 123, 3) := by decide +kernel
theorem dL_act_28 : decode cL_act 28 = .ok (.iload_n 1, 1) := by decide +kernel
theorem dL_act_29 : decode cL_act 29 = .ok (.iconst 2, 1) := by decide +kernel
theorem dL_act_30 : decode cL_act 30 = .ok (.if_icmp .ne 11, 3) := by decide +kernel
theorem dL_act_33 : decode cL_act 33 = .ok (.aload_n 0, 1) := by decide +kernel
theorem dL_act_34 : decode cL_act 34 = .ok (.iload_n 2, 1) := by decide +kernel
theorem dL_act_35 : decode cL_act 35 = .ok (.invokevirtual 19, 3) := by decide +kernel
theorem dL_act_38 : decode cL_act 38 = .ok (.goto 110, 3) := by decide +kernel
theorem dL_act_41 : decode cL_act 41 = .ok (.iload_n 1, 1) := by decide +kernel
theorem dL_act_42 : decode cL_act 42 = .ok (.iconst 3, 1) := by decide +kernel
theorem dL_act_43 : decode cL_act 43 = .ok (.if_icmp .ne 11, 3) := by decide +kernel
theorem dL_act_46 : decode cL_act 46 = .ok (.aload_n 0, 1) := by decide +kernel
theorem dL_act_47 : decode cL_act 47 = .ok (.iload_n 2, 1) := by decide +kernel
theorem dL_act_48 : decode cL_act 48 = .ok (.invokevirtual 22, 3) := by decide +kernel
theorem dL_act_51 : decode cL_act 51 = .ok (.goto 97, 3) := by decide +kernel
theorem dL_act_54 : decode cL_act 54 = .ok (.iload_n 1, 1) := by decide +kernel
theorem dL_act_55 : decode cL_act 55 = .ok (.iconst 4, 1) := by decide +kernel
theorem dL_act_56 : decode cL_act 56 = .ok (.if_icmp .ne 11, 3) := by decide +kernel
theorem dL_act_59 : decode cL_act 59 = .ok (.aload_n 0, 1) := by decide +kernel
theorem dL_act_60 : decode cL_act 60 = .ok (.iload_n 2, 1) := by decide +kernel
theorem dL_act_61 : decode cL_act 61 = .ok (.invokevirtual 25, 3) := by decide +kernel
theorem dL_act_64 : decode cL_act 64 = .ok (.goto 84, 3) := by decide +kernel
theorem dL_act_67 : decode cL_act 67 = .ok (.iload_n 1, 1) := by decide +kernel
theorem dL_act_68 : decode cL_act 68 = .ok (.iconst 5, 1) := by decide +kernel
theorem dL_act_69 : decode cL_act 69 = .ok (.if_icmp .ne 11, 3) := by decide +kernel
theorem dL_act_72 : decode cL_act 72 = .ok (.aload_n 0, 1) := by decide +kernel
theorem dL_act_73 : decode cL_act 73 = .ok (.iload_n 2, 1) := by decide +kernel
theorem dL_act_74 : decode cL_act 74 = .ok (.invokevirtual 28, 3) := by decide +kernel
theorem dL_act_77 : decode cL_act 77 = .ok (.goto 71, 3) := by decide +kernel
theorem dL_act_80 : decode cL_act 80 = .ok (.iload_n 1, 1) := by decide +kernel
theorem dL_act_81 : decode cL_act 81 = .ok (.bipush 6, 2) := by decide +kernel
theorem dL_act_83 : decode cL_act 83 = .ok (.if_icmp .ne 11, 3) := by decide +kernel
theorem dL_act_86 : decode cL_act 86 = .ok (.aload_n 0, 1) := by decide +kernel
theorem dL_act_87 : decode cL_act 87 = .ok (.iload_n 2, 1) := by decide +kernel
theorem dL_act_88 : decode cL_act 88 = .ok (.invokevirtual 31, 3) := by decide +kernel
theorem dL_act_91 : decode cL_act 91 = .ok (.goto 57, 3) := by decide +kernel
theorem dL_act_94 : decode cL_act 94 = .ok (.iload_n 1, 1) := by decide +kernel
theorem dL_act_95 : decode cL_act 95 = .ok (.bipush 7, 2) := by decide +kernel
theorem dL_act_97 : decode cL_act 97 = .ok (.if_icmp .ne 21, 3) := by decide +kernel
theorem dL_act_100 : decode cL_act 100 = .ok (.aload_n 0, 1) := by decide +kernel
theorem dL_act_101 : decode cL_act 101 = .ok (.iload_n 2, 1) := by decide +kernel
theorem dL_act_102 : decode cL_act 102 = .ok (.iload_n 3, 1) := by decide +kernel
theorem dL_act_103 : decode cL_act 103 = .ok (.iconst 1, 1) := by decide +kernel
theorem dL_act_104 : decode cL_act 104 = .ok (.if_icmp .ne 7, 3) := by decide +kernel
theorem dL_act_107 : decode cL_act 107 = .ok (.iconst 1, 1) := by decide +kernel
theorem dL_act_108 : decode cL_act 108 = .ok (.goto 4, 3) := by decide +kernel
theorem dL_act_111 : decode cL_act 111 = .ok (.iconst 0, 1) := by decide +kernel
theorem dL_act_112 : decode cL_act 112 = .ok (.invokevirtual 34, 3) := by decide +kernel
theorem dL_act_115 : decode cL_act 115 = .ok (.goto 33, 3) := by decide +kernel
theorem dL_act_118 : decode cL_act 118 = .ok (.aload_n 0, 1) := by decide +kernel
theorem dL_act_119 : decode cL_act 119 = .ok (.iload_n 2, 1) := by decide +kernel
theorem dL_act_120 : decode cL_act 120 = .ok (.iload_n 3, 1) := by decide +kernel
theorem dL_act_121 : decode cL_act 121 = .ok (.iload 4, 2) := by decide +kernel
theorem dL_act_123 : decode cL_act 123 = .ok (.ifCond .ge 7, 3) := by decide +kernel
theorem dL_act_126 : decode cL_act 126 = .ok (.iconst 1, 1) := by decide +kernel
theorem dL_act_127 : decode cL_act 127 = .ok (.goto 4, 3) := by decide +kernel
theorem dL_act_130 : decode cL_act 130 = .ok (.iconst 0, 1) := by decide +kernel
theorem dL_act_131 : decode cL_act 131 = .ok (.iload 4, 2) := by decide +kernel
theorem dL_act_133 : decode cL_act 133 = .ok (.ifCond .ge 10, 3) := by decide +kernel
theorem dL_act_136 : decode cL_act 136 = .ok (.iconst (-1), 1) := by decide +kernel
theorem dL_act_137 : decode cL_act 137 = .ok (.iload 4, 2) := by decide +kernel
theorem dL_act_139 : decode cL_act 139 = .ok (.isub, 1) := by decide +kernel
theorem dL_act_140 : decode cL_act 140 = .ok (.goto 5, 3) := by decide +kernel
theorem dL_act_143 : decode cL_act 143 = .ok (.iload 4, 2) := by decide +kernel
theorem dL_act_145 : decode cL_act 145 = .ok (.invokevirtual 38, 3) := by decide +kernel
theorem dL_act_148 : decode cL_act 148 = .ok (.ireturn, 1) := by decide +kernel
theorem dL_act_149 : decode cL_act 149 = .ok (.astore 5, 2) := by decide +kernel
theorem dL_act_151 : decode cL_act 151 = .ok (.ldc 44, 2) := by decide +kernel
theorem dL_act_153 : decode cL_act 153 = .ok (.ireturn, 1) := by decide +kernel
theorem dL_act_154 : decode cL_act 154 = .ok (.astore 5, 2) := by decide +kernel
theorem dL_act_156 : decode cL_act 156 = .ok (.ldc 47, 2) := by decide +kernel
theorem dL_act_158 : decode cL_act 158 = .ok (.ireturn, 1) := by decide +kernel
theorem dL_act_159 : decode cL_act 159 = .ok (.astore 5, 2) := by decide +kernel
theorem dL_act_161 : decode cL_act 161 = .ok (.ldc 50, 2) := by decide +kernel
theorem dL_act_163 : decode cL_act 163 = .ok (.ireturn, 1) := by decide +kernel
set_option maxRecDepth 20000 in
theorem ggL_setGrade_X3_setGrade : GoodIn wsL_setGrade wsX3_setGrade := goodIn_ca (goodIn_ca (goodIn_ca (goodIn_r _ [11, 12, 13, 14, 15, 16, 17, 18, 19, 20, 10, 21, 22, 23, 24, 25, 26, 27, 28, 29, 30, 31, 32, 33, 34, 35, 36, 37, 38, 39, 40, 41, 42, 43] (by decide +kernel) (by decide +kernel)) (goodIn_sub (fun _ h => List.mem_cons_of_mem _ (List.mem_append_left _ (List.mem_append_left _ (List.mem_append_right _ h)))) (by decide +kernel))) (goodIn_sub (fun _ h => List.mem_cons_of_mem _ (List.mem_append_left _ (List.mem_append_right _ h))) (by decide +kernel))) (goodIn_sub (fun _ h => List.mem_cons_of_mem _ (List.mem_append_right _ h)) (by decide +kernel))
set_option maxRecDepth 20000 in
theorem gL_setGrade_X3_setGrade : GoodIn wsL_setGrade (wsV RL 51 RX3 yX3_setGrade wsX3_setGrade) := goodIn_app (goodIn_of _ (by decide +kernel)) ggL_setGrade_X3_setGrade
theorem dL_setGrade_0 : decode cL_setGrade 0 = .ok (.aload_n 0, 1) := by decide +kernel
theorem dL_setGrade_1 : decode cL_setGrade 1 = .ok (.iload_n 1, 1) := by decide +kernel
theorem dL_setGrade_2 : decode cL_setGrade 2 = .ok (.iload_n 2, 1) := by decide +kernel
