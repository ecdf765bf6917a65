theorem dX3_init_0 : decode cX3_init 0 = .ok (.aload_n 0, 1) := by decide +kernel
theorem dX3_init_1 : decode cX3_init 1 = .ok (.invokespecial 1, 3) := by decide +kernel
theorem dX3_init_4 : decode cX3_init 4 = .ok (.aload_n 0, 1) := by decide +kernel
theorem dX3_init_5 : decode cX3_init 5 = .ok (.iconst 5, 1) := by decide +kernel
theorem dX3_init_6 : decode cX3_init 6 = .ok (.newarray .int, 2) := by decide +kernel
theorem dX3_init_8 : decode cX3_init 8 = .ok (.putfield 9, 3) := by decide +kernel
theorem dX3_init_11 : decode cX3_init 11 = .ok (.aload_n 0, 1) := by decide +kernel
theorem dX3_init_12 : decode cX3_init 12 = .ok (.iconst 5, 1) := by decide +kernel
theorem dX3_init_13 : decode cX3_init 13 = .ok (.newarray .int, 2) := by decide +kernel
theorem dX3_init_15 : decode cX3_init 15 = .ok (.putfield 13, 3) := by decide +kernel
theorem dX3_init_18 : decode cX3_init 18 = .ok (.aload_n 0, 1) := by decide +kernel
theorem dX3_init_19 : decode cX3_init 19 = .ok (.new 16, 3) := by decide +kernel
theorem dX3_init_22 : decode cX3_init 22 = .ok (.dup, 1) := by decide +kernel
theorem dX3_init_23 : decode cX3_init 23 = .ok (.invokespecial 18, 3) := by decide +kernel
theorem dX3_init_26 : decode cX3_init 26 = .ok (.putfield 19, 3) := by decide +kernel
theorem dX3_init_29 : decode cX3_init 29 = .ok (.aload_n 0, 1) := by decide +kernel
theorem dX3_init_30 : decode cX3_init 30 = .ok (.new 23, 3) := by decide +kernel
theorem dX3_init_33 : decode cX3_init 33 = .ok (.dup, 1) := by decide +kernel
theorem dX3_init_34 : decode cX3_init 34 = .ok (.invokespecial 25, 3) := by decide +kernel
theorem dX3_init_37 : decode cX3_init 37 = .ok (.putfield 26, 3) := by decide +kernel
theorem dX3_init_40 : decode cX3_init 40 = .ok (.aload_n 0, 1) := by decide +kernel
theorem dX3_init_41 : decode cX3_init 41 = .ok (.new 30, 3) := by decide +kernel
theorem dX3_init_44 : decode cX3_init 44 = .ok (.dup, 1) := by decide +kernel
theorem dX3_init_45 : decode cX3_init 45 = .ok (.invokespecial 32, 3) := by decide +kernel
theorem dX3_init_48 : decode cX3_init 48 = .ok (.putfield 33, 3) := by decide +kernel
theorem dX3_init_51 : decode cX3_init 51 = .ok (.iconst 0, 1) := by decide +kernel
theorem dX3_init_52 : decode cX3_init 52 = .ok (.istore_n 1, 1) := by decide +kernel
theorem dX3_init_53 : decode cX3_init 53 = .ok (.iload_n 1, 1) := by decide +kernel
theorem dX3_init_54 : decode cX3_init 54 = .ok (.iconst 5, 1) := by decide +kernel
theorem dX3_init_55 : decode cX3_init 55 = .ok (.if_icmp .ge 24, 3) := by decide +kernel
theorem dX3_init_58 : decode cX3_init 58 = .ok (.aload_n 0, 1) := by decide +kernel
theorem dX3_init_59 : decode cX3_init 59 = .ok (.getfield 9, 3) := by decide +kernel
theorem dX3_init_62 : decode cX3_init 62 = .ok (.iload_n 1, 1) := by decide +kernel
theorem dX3_init_63 : decode cX3_init 63 = .ok (.iconst 1, 1) := by decide +kernel
theorem dX3_init_64 : decode cX3_init 64 = .ok (.iastore, 1) := by decide +kernel
theorem dX3_init_65 : decode cX3_init 65 = .ok (.aload_n 0, 1) := by decide +kernel
theorem dX3_init_66 : decode cX3_init 66 = .ok (.getfield 13, 3) := by decide +kernel
theorem dX3_init_69 : decode cX3_init 69 = .ok (.iload_n 1, 1) := by decide +kernel
theorem dX3_init_70 : decode cX3_init 70 = .ok (.ldc 37, 2) := by decide +kernel
theorem dX3_init_72 : decode cX3_init 72 = .ok (.iastore, 1) := by decide +kernel
theorem dX3_init_73 : decode cX3_init 73 = .ok (.iinc 1 1, 3) := by decide +kernel
theorem dX3_init_76 : decode cX3_init 76 = .ok (.goto (-23), 3) := by decide +kernel
theorem dX3_init_79 : decode cX3_init 79 = .ok (.return_, 1) := by decide +kernel
set_option maxRecDepth 20000 in
theorem ggX3_setFund_X3_isOutside : GoodIn wsX3_setFund wsX3_isOutside := goodIn_r _ [11] (by decide +kernel) (by decide +kernel)
set_option maxRecDepth 20000 in
theorem gX3_setFund_X3_isOutside : GoodIn wsX3_setFund (va_wsS RX3 39 yX3_isOutside wsX3_isOutside) := goodIn_app (goodIn_of _ (by decide +kernel)) ggX3_setFund_X3_isOutside
set_option maxRecDepth 20000 in
theorem ggX3_setFund_X3_mustHaveNoPayments : GoodIn wsX3_setFund wsX3_mustHaveNoPayments := goodIn_ca (goodIn_r _ [15, 16, 17, 18, 19, 37, 38, 39, 40, 41, 42, 43, 44, 45, 46, 47, 48, 49, 50] (by decide +kernel) (by decide +kernel)) (goodIn_sub (fun _ h => List.mem_cons_of_mem _ (List.mem_append_right _ h)) (by decide +kernel))
set_option maxRecDepth 20000 in
theorem gX3_setFund_X3_mustHaveNoPayments : GoodIn wsX3_setFund (wsV RX3 50 RX3 yX3_mustHaveNoPayments wsX3_mustHaveNoPayments) := goodIn_app (goodIn_of _ (by decide +kernel)) ggX3_setFund_X3_mustHaveNoPayments
set_option maxRecDepth 20000 in
theorem ggX3_setFund_X3_moneyLeft : GoodIn wsX3_setFund wsX3_moneyLeft := goodIn_r _ [23, 5, 7, 18, 24, 25, 26, 10, 27, 6, 28, 29, 30, 31, 32, 33, 34, 35, 36, 37, 38, 39, 40, 41, 42, 43, 44, 45, 46, 47, 48, 49, 50] (by decide +kernel) (by decide +kernel)
set_option maxRecDepth 20000 in
theorem gX3_setFund_X3_moneyLeft : GoodIn wsX3_setFund (wsV RX3 63 RX3 yX3_moneyLeft wsX3_moneyLeft) := goodIn_app (goodIn_of _ (by decide +kernel)) ggX3_setFund_X3_moneyLeft
theorem dX3_setFund_0 : decode cX3_setFund 0 = .ok (.iload_n 1, 1) := by decide +kernel
theorem dX3_setFund_1 : decode cX3_setFund 1 = .ok (.iconst 0, 1) := by decide +kernel
theorem dX3_setFund_2 : decode cX3_setFund 2 = .ok (.ldc 38, 2) := by decide +kernel
theorem dX3_setFund_4 : decode cX3_setFund 4 = .ok (.invokestatic 39, 3) := by decide +kernel
theorem dX3_setFund_7 : decode cX3_setFund 7 = .ok (.ifCond .ne 24, 3) := by decide +kernel
theorem dX3_setFund_10 : decode cX3_setFund 10 = .ok (.iload_n 2, 1) := by decide +kernel
theorem dX3_setFund_11 : decode cX3_setFund 11 = .ok (.iconst 0, 1) := by decide +kernel
theorem dX3_setFund_12 : decode cX3_setFund 12 = .ok (.sipush 500, 3) := by decide +kernel
theorem dX3_setFund_15 : decode cX3_setFund 15 = .ok (.invokestatic 39, 3) := by decide +kernel
theorem dX3_setFund_18 : decode cX3_setFund 18 = .ok (.ifCond .ne 13, 3) := by decide +kernel
theorem dX3_setFund_21 : decode cX3_setFund 21 = .ok (.iload_n 3, 1) := by decide +kernel
theorem dX3_setFund_22 : decode cX3_setFund 22 = .ok (.iconst 0, 1) := by decide +kernel
theorem dX3_setFund_23 : decode cX3_setFund 23 = .ok (.ldc 37, 2) := by decide +kernel
theorem dX3_setFund_25 : decode cX3_setFund 25 = .ok (.invokestatic 39, 3) := by decide +kernel
theorem dX3_setFund_28 : decode cX3_setFund 28 = .ok (.ifCond .eq 13, 3) := by decide +kernel
theorem dX3_setFund_31 : decode cX3_setFund 31 = .ok (.new 43, 3) := by decide +kernel
theorem dX3_setFund_34 : decode cX3_setFund 34 = .ok (.dup, 1) := by decide +kernel
theorem dX3_setFund_35 : decode cX3_setFund 35 = .ok (.ldc 45, 2) := by decide +kernel
theorem dX3_setFund_37 : decode cX3_setFund 37 = .ok (.invokespecial 47, 3) := by decide +kernel
theorem dX3_setFund_40 : decode cX3_setFund 40 = .ok (.athrow, 1) := by decide +kernel
theorem dX3_setFund_41 : decode cX3_setFund 41 = .ok (.aload_n 0, 1) := by decide +kernel
theorem dX3_setFund_42 : decode cX3_setFund 42 = .ok (.invokevirtual 50, 3) := by decide +kernel
theorem dX3_setFund_45 : decode cX3_setFund 45 = .ok (.aload_n 0, 1) := by decide +kernel
theorem dX3_setFund_46 : decode cX3_setFund 46 = .ok (.iload_n 1, 1) := by decide +kernel
theorem dX3_setFund_47 : decode cX3_setFund 47 = .ok (.putfield 53, 3) := by decide +kernel
theorem dX3_setFund_50 : decode cX3_setFund 50 = .ok (.aload_n 0, 1) := by decide +kernel
theorem dX3_setFund_51 : decode cX3_setFund 51 = .ok (.iload_n 2, 1) := by decide +kernel
theorem dX3_setFund_52 : decode cX3_setFund 52 = .ok (.putfield 57, 3) := by decide +kernel
theorem dX3_setFund_55 : decode cX3_setFund 55 = .ok (.aload_n 0, 1) := by decide +kernel
theorem dX3_setFund_56 : decode cX3_setFund 56 = .ok (.iload_n 3, 1) := by decide +kernel
theorem dX3_setFund_57 : decode cX3_setFund 57 = .ok (.putfield 60, 3) := by decide +kernel
theorem dX3_setFund_60 : decode cX3_setFund 60 = .ok (.aload_n 0, 1) := by decide +kernel
theorem dX3_setFund_61 : decode cX3_setFund 61 = .ok (.invokevirtual 63, 3) := by decide +kernel
theorem dX3_setFund_64 : decode cX3_setFund 64 = .ok (.ireturn, 1) := by decide +kernel
set_option maxRecDepth 20000 in
theorem ggX3_setGrade_X3_isOutside : GoodIn wsX3_setGrade wsX3_isOutside := goodIn_r _ [11] (by decide +kernel) (by decide +kernel)
set_option maxRecDepth 20000 in
theorem gX3_setGrade_X3_isOutside : GoodIn wsX3_setGrade (va_wsS RX3 39 yX3_isOutside wsX3_isOutside) := goodIn_app (goodIn_of _ (by decide +kernel)) ggX3_setGrade_X3_isOutside
set_option maxRecDepth 20000 in
theorem ggX3_setGrade_X3_mustHaveNoPayments : GoodIn wsX3_setGrade wsX3_mustHaveNoPayments := goodIn_ca (goodIn_r _ [15, 16, 17, 18, 19, 20, 21, 22, 23, 24, 25, 26, 27, 28, 29, 30, 31, 32, 33] (by decide +kernel) (by decide +kernel)) (goodIn_sub (fun _ h => List.mem_cons_of_mem _ (List.mem_append_right _ h)) (by decide +kernel))
set_option maxRecDepth 20000 in
theorem gX3_setGrade_X3_mustHaveNoPayments : GoodIn wsX3_setGrade (wsV RX3 50 RX3 yX3_mustHaveNoPayments wsX3_mustHaveNoPayments) := goodIn_app (goodIn_of _ (by decide +kernel)) ggX3_setGrade_X3_mustHaveNoPayments
theorem dX3_setGrade_0 : decode cX3_setGrade 0 = .ok (.iload_n 1, 1) := by decide +kernel
theorem dX3_setGrade_1 : decode cX3_setGrade 1 = .ok (.iconst 0, 1) := by decide +kernel
theorem dX3_setGrade_2 : decode cX3_setGrade 2 = .ok (.iconst 4, 1) := by decide +kernel
theorem dX3_setGrade_3 : decode cX3_setGrade 3 = .ok (.invokestatic 39, 3) := by decide +kernel
theorem dX3_setGrade_6 : decode cX3_setGrade 6 = .ok (.ifCond .eq 13, 3) := by decide +kernel
theorem dX3_setGrade_9 : decode cX3_setGrade 9 = .ok (.new 67, 3) := by decide +kernel
theorem dX3_setGrade_12 : decode cX3_setGrade 12 = .ok (.dup, 1) := by decide +kernel
theorem dX3_setGrade_13 : decode cX3_setGrade 13 = .ok (.ldc 69, 2) := by decide +kernel
theorem dX3_setGrade_15 : decode cX3_setGrade 15 = .ok (.invokespecial 71, 3) := by decide +kernel
theorem dX3_setGrade_18 : decode cX3_setGrade 18 = .ok (.athrow, 1) := by decide +kernel
theorem dX3_setGrade_19 : decode cX3_setGrade 19 = .ok (.iload_n 2, 1) := by decide +kernel
theorem dX3_setGrade_20 : decode cX3_setGrade 20 = .ok (.iconst 1, 1) := by decide +kernel
theorem dX3_setGrade_21 : decode cX3_setGrade 21 = .ok (.bipush 100, 2) := by decide +kernel
theorem dX3_setGrade_23 : decode cX3_setGrade 23 = .ok (.invokestatic 39, 3) := by decide +kernel
theorem dX3_setGrade_26 : decode cX3_setGrade 26 = .ok (.ifCond .ne 13, 3) := by decide +kernel
theorem dX3_setGrade_29 : decode cX3_setGrade 29 = .ok (.iload_n 3, 1) := by decide +kernel
theorem dX3_setGrade_30 : decode cX3_setGrade 30 = .ok (.iconst 1, 1) := by decide +kernel
theorem dX3_setGrade_31 : decode cX3_setGrade 31 = .ok (.ldc 37, 2) := by decide +kernel
theorem dX3_setGrade_33 : decode cX3_setGrade 33 = .ok (.invokestatic 39, 3) := by decide +kernel
theorem dX3_setGrade_36 : decode cX3_setGrade 36 = .ok (.ifCond .eq 13, 3) := by decide +kernel
theorem dX3_setGrade_39 : decode cX3_setGrade 39 = .ok (.new 43, 3) := by decide +kernel
theorem dX3_setGrade_42 : decode cX3_setGrade 42 = .ok (.dup, 1) := by decide +kernel
theorem dX3_setGrade_43 : decode cX3_setGrade 43 = .ok (.ldc 72, 2) := by decide +kernel
theorem dX3_setGrade_45 : decode cX3_setGrade 45 = .ok (.invokespecial 47, 3) := by decide +kernel
theorem dX3_setGrade_48 : decode cX3_setGrade 48 = .ok (.athrow, 1) := by decide +kernel
theorem dX3_setGrade_49 : decode cX3_setGrade 49 = .ok (.aload_n 0, 1) := by decide +kernel
theorem dX3_setGrade_50 : decode cX3_setGrade 50 = .ok (.invokevirtual 50, 3) := by decide +kernel
theorem dX3_setGrade_53 : decode cX3_setGrade 53 = .ok (.aload_n 0, 1) := by decide +kernel
theorem dX3_setGrade_54 : decode cX3_setGrade 54 = .ok (.getfield 9, 3) := by decide +kernel
theorem dX3_setGrade_57 : decode cX3_setGrade 57 = .ok (.iload_n 1, 1) := by decide +kernel
theorem dX3_setGrade_58 : decode cX3_setGrade 58 = .ok (.iload_n 2, 1) := by decide +kernel
theorem dX3_setGrade_59 : decode cX3_setGrade 59 = .ok (.iastore, 1) := by decide +kernel
theorem dX3_setGrade_60 : decode cX3_setGrade 60 = .ok (.aload_n 0, 1) := by decide +kernel
theorem dX3_setGrade_61 : decode cX3_setGrade 61 = .ok (.getfield 13, 3) := by decide +kernel
theorem dX3_setGrade_64 : decode cX3_setGrade 64 = .ok (.iload_n 1, 1) := by decide +kernel
theorem dX3_setGrade_65 : decode cX3_setGrade 65 = .ok (.iload_n 3, 1) := by decide +kernel
theorem dX3_setGrade_66 : decode cX3_setGrade 66 = .ok (.iastore, 1) := by decide +kernel
theorem dX3_setGrade_67 : decode cX3_setGrade 67 = .ok (.return_, 1) := by decide +kernel
set_option maxRecDepth 20000 in
theorem ggX3_pass_X3_isOutside : GoodIn wsX3_pass wsX3_isOutside := goodIn_r _ [9] (by decide +kernel) (by decide +kernel)
set_option maxRecDepth 20000 in
theorem gX3_pass_X3_isOutside : GoodIn wsX3_pass (va_wsS RX3 39 yX3_isOutside wsX3_isOutside) := goodIn_app (goodIn_of _ (by decide +kernel)) ggX3_pass_X3_isOutside
set_option maxRecDepth 20000 in
theorem ggX3_pass_X0_denyLate : GoodIn wsX3_pass wsX0_denyLate := goodIn_r _ [14, 15, 16, 17, 35, 36, 37, 38, 39, 40] (by decide +kernel) (by decide +kernel)
set_option maxRecDepth 20000 in
theorem gX3_pass_X0_denyLate : GoodIn wsX3_pass (wsV RX3 79 RX0 yX0_denyLate wsX0_denyLate) := goodIn_app (goodIn_of _ (by decide +kernel)) ggX3_pass_X0_denyLate
set_option maxRecDepth 20000 in
theorem ggX3_pass_X1_voidLate : GoodIn wsX3_pass wsX1_voidLate := goodIn_r _ [22, 23, 24, 25, 41, 42, 43, 44, 45] (by decide +kernel) (by decide +kernel)
set_option maxRecDepth 20000 in
theorem gX3_pass_X1_voidLate : GoodIn wsX3_pass (wsV RX3 83 RX1 yX1_voidLate wsX1_voidLate) := goodIn_app (goodIn_of _ (by decide +kernel)) ggX3_pass_X1_voidLate
theorem dX3_pass_0 : decode cX3_pass 0 = .ok (.iload_n 1, 1) := by decide +kernel
theorem dX3_pass_1 : decode cX3_pass 1 = .ok (.iconst 1, 1) := by decide +kernel
theorem dX3_pass_2 : decode cX3_pass 2 = .ok (.sipush 200, 3) := by decide +kernel
theorem dX3_pass_5 : decode cX3_pass 5 = .ok (.invokestatic 39, 3) := by decide +kernel
theorem dX3_pass_8 : decode cX3_pass 8 = .ok (.ifCond .eq 13, 3) := by decide +kernel
theorem dX3_pass_11 : decode cX3_pass 11 = .ok (.new 43, 3) := by decide +kernel
theorem dX3_pass_14 : decode cX3_pass 14 = .ok (.dup, 1) := by decide +kernel
theorem dX3_pass_15 : decode cX3_pass 15 = .ok (.ldc 74, 2) := by decide +kernel
theorem dX3_pass_17 : decode cX3_pass 17 = .ok (.invokespecial 47, 3) := by decide +kernel
theorem dX3_pass_20 : decode cX3_pass 20 = .ok (.athrow, 1) := by decide +kernel
theorem dX3_pass_21 : decode cX3_pass 21 = .ok (.aload_n 0, 1) := by decide +kernel
theorem dX3_pass_22 : decode cX3_pass 22 = .ok (.dup, 1) := by decide +kernel
theorem dX3_pass_23 : decode cX3_pass 23 = .ok (.getfield 76, 3) := by decide +kernel
theorem dX3_pass_26 : decode cX3_pass 26 = .ok (.iload_n 1, 1) := by decide +kernel
theorem dX3_pass_27 : decode cX3_pass 27 = .ok (.iadd, 1) := by decide +kernel
theorem dX3_pass_28 : decode cX3_pass 28 = .ok (.putfield 76, 3) := by decide +kernel
theorem dX3_pass_31 : decode cX3_pass 31 = .ok (.aload_n 0, 1) := by decide +kernel
theorem dX3_pass_32 : decode cX3_pass 32 = .ok (.getfield 19, 3) := by decide +kernel
theorem dX3_pass_35 : decode cX3_pass 35 = .ok (.aload_n 0, 1) := by decide +kernel
theorem dX3_pass_36 : decode cX3_pass 36 = .ok (.getfield 76, 3) := by decide +kernel
theorem dX3_pass_39 : decode cX3_pass 39 = .ok (.invokevirtual 79, 3) := by decide +kernel
theorem dX3_pass_42 : decode cX3_pass 42 = .ok (.aload_n 0, 1) := by decide +kernel
theorem dX3_pass_43 : decode cX3_pass 43 = .ok (.getfield 26, 3) := by decide +kernel
theorem dX3_pass_46 : decode cX3_pass 46 = .ok (.aload_n 0, 1) := by decide +kernel
theorem dX3_pass_47 : decode cX3_pass 47 = .ok (.getfield 76, 3) := by decide +kernel
theorem dX3_pass_50 : decode cX3_pass 50 = .ok (.invokevirtual 83, 3) := by decide +kernel
theorem dX3_pass_53 : decode cX3_pass 53 = .ok (.aload_n 0, 1) := by decide +kernel
theorem dX3_pass_54 : decode cX3_pass 54 = .ok (.getfield 76, 3) := by decide +kernel
theorem dX3_pass_57 : decode cX3_pass 57 = .ok (.ireturn, 1) := by decide +kernel
set_option maxRecDepth 20000 in
theorem ggX3_claim_X3_isOutside : GoodIn wsX3_claim wsX3_isOutside := goodIn_r _ [13] (by decide +kernel) (by decide +kernel)
set_option maxRecDepth 20000 in
theorem gX3_claim_X3_isOutside : GoodIn wsX3_claim (va_wsS RX3 39 yX3_isOutside wsX3_isOutside) := goodIn_app (goodIn_of _ (by decide +kernel)) ggX3_claim_X3_isOutside
set_option maxRecDepth 20000 in
theorem ggX3_claim_X0_has : GoodIn wsX3_claim wsX0_has := goodIn_r _ [18, 19, 49, 50, 51, 52, 53, 54] (by decide +kernel) (by decide +kernel)
set_option maxRecDepth 20000 in
theorem gX3_claim_X0_has : GoodIn wsX3_claim (wsV RX3 91 RX0 yX0_has wsX0_has) := goodIn_app (goodIn_of _ (by decide +kernel)) ggX3_claim_X0_has
set_option maxRecDepth 20000 in
theorem ggX3_claim_X0_join : GoodIn wsX3_claim wsX0_join := goodIn_r _ [23, 24, 25, 26, 27, 28, 29, 49, 50, 51, 52, 53, 54] (by decide +kernel) (by decide +kernel)
set_option maxRecDepth 20000 in
theorem gX3_claim_X0_join : GoodIn wsX3_claim (wsV RX3 95 RX0 yX0_join wsX0_join) := goodIn_app (goodIn_of _ (by decide +kernel)) ggX3_claim_X0_join
set_option maxRecDepth 20000 in
theorem ggX3_claim_X0_hasPlace : GoodIn wsX3_claim wsX0_hasPlace := goodIn_r _ [33, 19, 49, 50, 51, 52, 53, 54] (by decide +kernel) (by decide +kernel)
set_option maxRecDepth 20000 in
theorem gX3_claim_X0_hasPlace : GoodIn wsX3_claim (wsV RX3 99 RX0 yX0_hasPlace wsX0_hasPlace) := goodIn_app (goodIn_of _ (by decide +kernel)) ggX3_claim_X0_hasPlace
set_option maxRecDepth 20000 in
theorem ggX3_claim_X0_enter : GoodIn wsX3_claim wsX0_enter := goodIn_r _ [37, 19, 38, 24, 29, 39, 49, 50, 51, 52, 53, 54] (by decide +kernel) (by decide +kernel)
set_option maxRecDepth 20000 in
theorem gX3_claim_X0_enter : GoodIn wsX3_claim (wsV RX3 108 RX0 yX0_enter wsX0_enter) := goodIn_app (goodIn_of _ (by decide +kernel)) ggX3_claim_X0_enter
theorem dX3_claim_0 : decode cX3_claim 0 = .ok (.iload_n 1, 1) := by decide +kernel
theorem dX3_claim_1 : decode cX3_claim 1 = .ok (.iconst 0, 1) := by decide +kernel
theorem dX3_claim_2 : decode cX3_claim 2 = .ok (.bipush 29, 2) := by decide +kernel
theorem dX3_claim_4 : decode cX3_claim 4 = .ok (.invokestatic 39, 3) := by decide +kernel
theorem dX3_claim_7 : decode cX3_claim 7 = .ok (.ifCond .ne 12, 3) := by decide +kernel
theorem dX3_claim_10 : decode cX3_claim 10 = .ok (.iload_n 2, 1) := by decide +kernel
theorem dX3_claim_11 : decode cX3_claim 11 = .ok (.iconst 0, 1) := by decide +kernel
theorem dX3_claim_12 : decode cX3_claim 12 = .ok (.iconst 4, 1) := by decide +kernel
theorem dX3_claim_13 : decode cX3_claim 13 = .ok (.invokestatic 39, 3) := by decide +kernel
theorem dX3_claim_16 : decode cX3_claim 16 = .ok (.ifCond .eq 13, 3) := by decide +kernel
theorem dX3_claim_19 : decode cX3_claim 19 = .ok (.new 67, 3) := by decide +kernel
theorem dX3_claim_22 : decode cX3_claim 22 = .ok (.dup, 1) := by decide +kernel
theorem dX3_claim_23 : decode cX3_claim 23 = .ok (.ldc 86, 2) := by decide +kernel
theorem dX3_claim_25 : decode cX3_claim 25 = .ok (.invokespecial 71, 3) := by decide +kernel
theorem dX3_claim_28 : decode cX3_claim 28 = .ok (.athrow, 1) := by decide +kernel
theorem dX3_claim_29 : decode cX3_claim 29 = .ok (.iload 4, 2) := by decide +kernel
theorem dX3_claim_31 : decode cX3_claim 31 = .ok (.iconst 0, 1) := by decide +kernel
theorem dX3_claim_32 : decode cX3_claim 32 = .ok (.bipush 100, 2) := by decide +kernel
theorem dX3_claim_34 : decode cX3_claim 34 = .ok (.invokestatic 39, 3) := by decide +kernel
theorem dX3_claim_37 : decode cX3_claim 37 = .ok (.ifCond .eq 13, 3) := by decide +kernel
theorem dX3_claim_40 : decode cX3_claim 40 = .ok (.new 43, 3) := by decide +kernel
theorem dX3_claim_43 : decode cX3_claim 43 = .ok (.dup, 1) := by decide +kernel
theorem dX3_claim_44 : decode cX3_claim 44 = .ok (.ldc 74, 2) := by decide +kernel
theorem dX3_claim_46 : decode cX3_claim 46 = .ok (.invokespecial 47, 3) := by decide +kernel
theorem dX3_claim_49 : decode cX3_claim 49 = .ok (.athrow, 1) := by decide +kernel
theorem dX3_claim_50 : decode cX3_claim 50 = .ok (.aload_n 0, 1) := by decide +kernel
theorem dX3_claim_51 : decode cX3_claim 51 = .ok (.getfield 19, 3) := by decide +kernel
theorem dX3_claim_54 : decode cX3_claim 54 = .ok (.getfield 88, 3) := by decide +kernel
theorem dX3_claim_57 : decode cX3_claim 57 = .ok (.iload_n 1, 1) := by decide +kernel
theorem dX3_claim_58 : decode cX3_claim 58 = .ok (.iaload, 1) := by decide +kernel
theorem dX3_claim_59 : decode cX3_claim 59 = .ok (.istore 5, 2) := by decide +kernel
theorem dX3_claim_61 : decode cX3_claim 61 = .ok (.aload_n 0, 1) := by decide +kernel
theorem dX3_claim_62 : decode cX3_claim 62 = .ok (.getfield 19, 3) := by decide +kernel
theorem dX3_claim_65 : decode cX3_claim 65 = .ok (.iload 5, 2) := by decide +kernel
theorem dX3_claim_67 : decode cX3_claim 67 = .ok (.invokevirtual 91, 3) := by decide +kernel
theorem dX3_claim_70 : decode cX3_claim 70 = .ok (.ifCond .eq 17, 3) := by decide +kernel
theorem dX3_claim_73 : decode cX3_claim 73 = .ok (.aload_n 0, 1) := by decide +kernel
theorem dX3_claim_74 : decode cX3_claim 74 = .ok (.getfield 19, 3) := by decide +kernel
theorem dX3_claim_77 : decode cX3_claim 77 = .ok (.iload 5, 2) := by decide +kernel
theorem dX3_claim_79 : decode cX3_claim 79 = .ok (.iload_n 2, 1) := by decide +kernel
theorem dX3_claim_80 : decode cX3_claim 80 = .ok (.iload_n 3, 1) := by decide +kernel
theorem dX3_claim_81 : decode cX3_claim 81 = .ok (.invokevirtual 95, 3) := by decide +kernel
theorem dX3_claim_84 : decode cX3_claim 84 = .ok (.iload 5, 2) := by decide +kernel
theorem dX3_claim_86 : decode cX3_claim 86 = .ok (.ireturn, 1) := by decide +kernel
theorem dX3_claim_87 : decode cX3_claim 87 = .ok (.aload_n 0, 1) := by decide +kernel
theorem dX3_claim_88 : decode cX3_claim 88 = .ok (.getfield 19, 3) := by decide +kernel
theorem dX3_claim_91 : decode cX3_claim 91 = .ok (.invokevirtual 99, 3) := by decide +kernel
theorem dX3_claim_94 : decode cX3_claim 94 = .ok (.ifCond .ne 13, 3) := by decide +kernel
theorem dX3_claim_97 : decode cX3_claim 97 = .ok (.new 103, 3) := by decide +kernel
theorem dX3_claim_100 : decode cX3_claim 100 = .ok (.dup, 1) := by decide +kernel
theorem dX3_claim_101 : decode cX3_claim 101 = .ok (.ldc 105, 2) := by decide +kernel
theorem dX3_claim_103 : decode cX3_claim 103 = .ok (.invokespecial 107, 3) := by decide +kernel
theorem dX3_claim_106 : decode cX3_claim 106 = .ok (.athrow, 1) := by decide +kernel
theorem dX3_claim_107 : decode cX3_claim 107 = .ok (.aload_n 0, 1) := by decide +kernel
theorem dX3_claim_108 : decode cX3_claim 108 = .ok (.getfield 19, 3) := by decide +kernel
theorem dX3_claim_111 : decode cX3_claim 111 = .ok (.iload_n 1, 1) := by decide +kernel
theorem dX3_claim_112 : decode cX3_claim 112 = .ok (.iload_n 2, 1) := by decide +kernel
theorem dX3_claim_113 : decode cX3_claim 113 = .ok (.iload_n 3, 1) := by decide +kernel
theorem dX3_claim_114 : decode cX3_claim 114 = .ok (.ifCond .eq 7, 3) := by decide +kernel
theorem dX3_claim_117 : decode cX3_claim 117 = .ok (.iconst 1, 1) := by decide +kernel
theorem dX3_claim_118 : decode cX3_claim 118 = .ok (.goto 4, 3) := by decide +kernel
theorem dX3_claim_121 : decode cX3_claim 121 = .ok (.iconst 0, 1) := by decide +kernel
theorem dX3_claim_122 : decode cX3_claim 122 = .ok (.aload_n 0, 1) := by decide +kernel
theorem dX3_claim_123 : decode cX3_claim 123 = .ok (.getfield 76, 3) := by decide +kernel
theorem dX3_claim_126 : decode cX3_claim 126 = .ok (.iload 4, 2) := by decide +kernel
theorem dX3_claim_128 : decode cX3_claim 128 = .ok (.iadd, 1) := by decide +kernel
theorem dX3_claim_129 : decode cX3_claim 129 = .ok (.invokevirtual 108, 3) := by decide +kernel
theorem dX3_claim_132 : decode cX3_claim 132 = .ok (.ireturn, 1) := by decide +kernel
set_option maxRecDepth 20000 in
theorem ggX3_cure_X3_mustBeClaim : GoodIn wsX3_cure wsX3_mustBeClaim := goodIn_ca (goodIn_r _ [11, 12, 13, 3, 14, 15, 16, 17, 18, 19, 20, 21, 22, 23, 24, 25, 26, 27, 28, 29, 30, 31, 32, 33, 34] (by decide +kernel) (by decide +kernel)) (goodIn_sub (fun _ h => List.mem_cons_of_mem _ (List.mem_append_right _ h)) (by decide +kernel))
set_option maxRecDepth 20000 in
theorem gX3_cure_X3_mustBeClaim : GoodIn wsX3_cure (wsV RX3 112 RX3 yX3_mustBeClaim wsX3_mustBeClaim) := goodIn_app (goodIn_of _ (by decide +kernel)) ggX3_cure_X3_mustBeClaim
theorem dX3_cure_0 : decode cX3_cure 0 = .ok (.aload_n 0, 1) := by decide +kernel
theorem dX3_cure_1 : decode cX3_cure 1 = .ok (.iload_n 1, 1) := by decide +kernel
theorem dX3_cure_2 : decode cX3_cure 2 = .ok (.invokevirtual 112, 3) := by decide +kernel
theorem dX3_cure_5 : decode cX3_cure 5 = .ok (.aload_n 0, 1) := by decide +kernel
theorem dX3_cure_6 : decode cX3_cure 6 = .ok (.getfield 19, 3) := by decide +kernel
theorem dX3_cure_9 : decode cX3_cure 9 = .ok (.getfield 115, 3) := by decide +kernel
theorem dX3_cure_12 : decode cX3_cure 12 = .ok (.iload_n 1, 1) := by decide +kernel
theorem dX3_cure_13 : decode cX3_cure 13 = .ok (.iaload, 1) := by decide +kernel
theorem dX3_cure_14 : decode cX3_cure 14 = .ok (.iconst 1, 1) := by decide +kernel
theorem dX3_cure_15 : decode cX3_cure 15 = .ok (.if_icmp .eq 13, 3) := by decide +kernel
theorem dX3_cure_18 : decode cX3_cure 18 = .ok (.new 103, 3) := by decide +kernel
theorem dX3_cure_21 : decode cX3_cure 21 = .ok (.dup, 1) := by decide +kernel
theorem dX3_cure_22 : decode cX3_cure 22 = .ok (.ldc 118, 2) := by decide +kernel
theorem dX3_cure_24 : decode cX3_cure 24 = .ok (.invokespecial 107, 3) := by decide +kernel
theorem dX3_cure_27 : decode cX3_cure 27 = .ok (.athrow, 1) := by decide +kernel
theorem dX3_cure_28 : decode cX3_cure 28 = .ok (.aload_n 0, 1) := by decide +kernel
theorem dX3_cure_29 : decode cX3_cure 29 = .ok (.getfield 19, 3) := by decide +kernel
theorem dX3_cure_32 : decode cX3_cure 32 = .ok (.getfield 115, 3) := by decide +kernel
theorem dX3_cure_35 : decode cX3_cure 35 = .ok (.iload_n 1, 1) := by decide +kernel
theorem dX3_cure_36 : decode cX3_cure 36 = .ok (.iconst 0, 1) := by decide +kernel
theorem dX3_cure_37 : decode cX3_cure 37 = .ok (.iastore, 1) := by decide +kernel
theorem dX3_cure_38 : decode cX3_cure 38 = .ok (.aload_n 0, 1) := by decide +kernel
theorem dX3_cure_39 : decode cX3_cure 39 = .ok (.getfield 19, 3) := by decide +kernel
theorem dX3_cure_42 : decode cX3_cure 42 = .ok (.getfield 120, 3) := by decide +kernel
theorem dX3_cure_45 : decode cX3_cure 45 = .ok (.iload_n 1, 1) := by decide +kernel
theorem dX3_cure_46 : decode cX3_cure 46 = .ok (.iaload, 1) := by decide +kernel
theorem dX3_cure_47 : decode cX3_cure 47 = .ok (.aload_n 0, 1) := by decide +kernel
theorem dX3_cure_48 : decode cX3_cure 48 = .ok (.getfield 76, 3) := by decide +kernel
theorem dX3_cure_51 : decode cX3_cure 51 = .ok (.isub, 1) := by decide +kernel
theorem dX3_cure_52 : decode cX3_cure 52 = .ok (.ireturn, 1) := by decide +kernel
set_option maxRecDepth 20000 in
theorem ggX3_deny_X3_mustBeClaim : GoodIn wsX3_deny wsX3_mustBeClaim := goodIn_ca (goodIn_r _ [9, 10, 11, 3, 12, 13, 14, 15, 16, 17, 18, 19, 20, 21, 22, 23, 24, 25, 26, 27, 28, 29, 30, 31, 32] (by decide +kernel) (by decide +kernel)) (goodIn_sub (fun _ h => List.mem_cons_of_mem _ (List.mem_append_right _ h)) (by decide +kernel))
set_option maxRecDepth 20000 in
theorem gX3_deny_X3_mustBeClaim : GoodIn wsX3_deny (wsV RX3 112 RX3 yX3_mustBeClaim wsX3_mustBeClaim) := goodIn_app (goodIn_of _ (by decide +kernel)) ggX3_deny_X3_mustBeClaim
theorem dX3_deny_0 : decode cX3_deny 0 = .ok (.aload_n 0, 1) := by decide +kernel
theorem dX3_deny_1 : decode cX3_deny 1 = .ok (.iload_n 1, 1) := by decide +kernel
theorem dX3_deny_2 : decode cX3_deny 2 = .ok (.invokevirtual 112, 3) := by decide +kernel
theorem dX3_deny_5 : decode cX3_deny 5 = .ok (.aload_n 0, 1) := by decide +kernel
theorem dX3_deny_6 : decode cX3_deny 6 = .ok (.getfield 19, 3) := by decide +kernel
theorem dX3_deny_9 : decode cX3_deny 9 = .ok (.getfield 115, 3) := by decide +kernel
theorem dX3_deny_12 : decode cX3_deny 12 = .ok (.iload_n 1, 1) := by decide +kernel
theorem dX3_deny_13 : decode cX3_deny 13 = .ok (.iaload, 1) := by decide +kernel
theorem dX3_deny_14 : decode cX3_deny 14 = .ok (.istore_n 2, 1) := by decide +kernel
theorem dX3_deny_15 : decode cX3_deny 15 = .ok (.iload_n 2, 1) := by decide +kernel
theorem dX3_deny_16 : decode cX3_deny 16 = .ok (.ifCond .eq 18, 3) := by decide +kernel
theorem dX3_deny_19 : decode cX3_deny 19 = .ok (.iload_n 2, 1) := by decide +kernel
theorem dX3_deny_20 : decode cX3_deny 20 = .ok (.iconst 1, 1) := by decide +kernel
theorem dX3_deny_21 : decode cX3_deny 21 = .ok (.if_icmp .eq 13, 3) := by decide +kernel
theorem dX3_deny_24 : decode cX3_deny 24 = .ok (.new 103, 3) := by decide +kernel
theorem dX3_deny_27 : decode cX3_deny 27 = .ok (.dup, 1) := by decide +kernel
theorem dX3_deny_28 : decode cX3_deny 28 = .ok (.ldc 123, 2) := by decide +kernel
theorem dX3_deny_30 : decode cX3_deny 30 = .ok (.invokespecial 107, 3) := by decide +kernel
theorem dX3_deny_33 : decode cX3_deny 33 = .ok (.athrow, 1) := by decide +kernel
theorem dX3_deny_34 : decode cX3_deny 34 = .ok (.aload_n 0, 1) := by decide +kernel
theorem dX3_deny_35 : decode cX3_deny 35 = .ok (.getfield 19, 3) := by decide +kernel
theorem dX3_deny_38 : decode cX3_deny 38 = .ok (.getfield 115, 3) := by decide +kernel
theorem dX3_deny_41 : decode cX3_deny 41 = .ok (.iload_n 1, 1) := by decide +kernel
theorem dX3_deny_42 : decode cX3_deny 42 = .ok (.iconst 2, 1) := by decide +kernel
theorem dX3_deny_43 : decode cX3_deny 43 = .ok (.iastore, 1) := by decide +kernel
theorem dX3_deny_44 : decode cX3_deny 44 = .ok (.iload_n 2, 1) := by decide +kernel
theorem dX3_deny_45 : decode cX3_deny 45 = .ok (.ireturn, 1) := by decide +kernel
set_option maxRecDepth 20000 in
theorem ggX3_object_X3_mustBeClaim : GoodIn wsX3_object wsX3_mustBeClaim := goodIn_ca (goodIn_r _ [10, 11, 12, 3, 13, 14, 15, 16, 17, 18, 24, 25, 26, 27, 28, 29, 30, 31, 32, 33, 34, 35, 36, 37, 38] (by decide +kernel) (by decide +kernel)) (goodIn_sub (fun _ h => List.mem_cons_of_mem _ (List.mem_append_right _ h)) (by decide +kernel))
set_option maxRecDepth 20000 in
theorem gX3_object_X3_mustBeClaim : GoodIn wsX3_object (wsV RX3 112 RX3 yX3_mustBeClaim wsX3_mustBeClaim) := goodIn_app (goodIn_of _ (by decide +kernel)) ggX3_object_X3_mustBeClaim
set_option maxRecDepth 20000 in
theorem ggX3_object_X0_tally : GoodIn wsX3_object wsX0_tally := goodIn_r _ [22, 18, 23, 33, 34, 35, 36, 37, 38] (by decide +kernel) (by decide +kernel)
set_option maxRecDepth 20000 in
theorem gX3_object_X0_tally : GoodIn wsX3_object (wsV RX3 131 RX0 yX0_tally wsX0_tally) := goodIn_app (goodIn_of _ (by decide +kernel)) ggX3_object_X0_tally
theorem dX3_object_0 : decode cX3_object 0 = .ok (.aload_n 0, 1) := by decide +kernel
theorem dX3_object_1 : decode cX3_object 1 = .ok (.iload_n 1, 1) := by decide +kernel
theorem dX3_object_2 : decode cX3_object 2 = .ok (.invokevirtual 112, 3) := by decide +kernel
theorem dX3_object_5 : decode cX3_object 5 = .ok (.aload_n 0, 1) := by decide +kernel
theorem dX3_object_6 : decode cX3_object 6 = .ok (.getfield 19, 3) := by decide +kernel
theorem dX3_object_9 : decode cX3_object 9 = .ok (.getfield 115, 3) := by decide +kernel
theorem dX3_object_12 : decode cX3_object 12 = .ok (.iload_n 1, 1) := by decide +kernel
theorem dX3_object_13 : decode cX3_object 13 = .ok (.iaload, 1) := by decide +kernel
theorem dX3_object_14 : decode cX3_object 14 = .ok (.iconst 2, 1) := by decide +kernel
theorem dX3_object_15 : decode cX3_object 15 = .ok (.if_icmp .ne 15, 3) := by decide +kernel
theorem dX3_object_18 : decode cX3_object 18 = .ok (.aload_n 0, 1) := by decide +kernel
theorem dX3_object_19 : decode cX3_object 19 = .ok (.getfield 19, 3) := by decide +kernel
theorem dX3_object_22 : decode cX3_object 22 = .ok (.getfield 125, 3) := by decide +kernel
theorem dX3_object_25 : decode cX3_object 25 = .ok (.iload_n 1, 1) := by decide +kernel
theorem dX3_object_26 : decode cX3_object 26 = .ok (.baload, 1) := by decide +kernel
theorem dX3_object_27 : decode cX3_object 27 = .ok (.ifCond .eq 13, 3) := by decide +kernel
theorem dX3_object_30 : decode cX3_object 30 = .ok (.new 103, 3) := by decide +kernel
theorem dX3_object_33 : decode cX3_object 33 = .ok (.dup, 1) := by decide +kernel
theorem dX3_object_34 : decode cX3_object 34 = .ok (.ldc 129, 2) := by decide +kernel
theorem dX3_object_36 : decode cX3_object 36 = .ok (.invokespecial 107, 3) := by decide +kernel
theorem dX3_object_39 : decode cX3_object 39 = .ok (.athrow, 1) := by decide +kernel
theorem dX3_object_40 : decode cX3_object 40 = .ok (.aload_n 0, 1) := by decide +kernel
theorem dX3_object_41 : decode cX3_object 41 = .ok (.getfield 19, 3) := by decide +kernel
theorem dX3_object_44 : decode cX3_object 44 = .ok (.getfield 115, 3) := by decide +kernel
theorem dX3_object_47 : decode cX3_object 47 = .ok (.iload_n 1, 1) := by decide +kernel
theorem dX3_object_48 : decode cX3_object 48 = .ok (.iconst 3, 1) := by decide +kernel
theorem dX3_object_49 : decode cX3_object 49 = .ok (.iastore, 1) := by decide +kernel
theorem dX3_object_50 : decode cX3_object 50 = .ok (.aload_n 0, 1) := by decide +kernel
theorem dX3_object_51 : decode cX3_object 51 = .ok (.getfield 19, 3) := by decide +kernel
theorem dX3_object_54 : decode cX3_object 54 = .ok (.getfield 125, 3) := by decide +kernel
theorem dX3_object_57 : decode cX3_object 57 = .ok (.iload_n 1, 1) := by decide +kernel
theorem dX3_object_58 : decode cX3_object 58 = .ok (.iconst 1, 1) := by decide +kernel
theorem dX3_object_59 : decode cX3_object 59 = .ok (.bastore, 1) := by decide +kernel
theorem dX3_object_60 : decode cX3_object 60 = .ok (.aload_n 0, 1) := by decide +kernel
theorem dX3_object_61 : decode cX3_object 61 = .ok (.getfield 19, 3) := by decide +kernel
theorem dX3_object_64 : decode cX3_object 64 = .ok (.iconst 3, 1) := by decide +kernel
theorem dX3_object_65 : decode cX3_object 65 = .ok (.invokevirtual 131, 3) := by decide +kernel
theorem dX3_object_68 : decode cX3_object 68 = .ok (.ireturn, 1) := by decide +kernel
set_option maxRecDepth 20000 in
theorem ggX3_decide_X3_mustBeClaim : GoodIn wsX3_decide wsX3_mustBeClaim := goodIn_ca (goodIn_r _ [9, 10, 11, 3, 12, 13, 14, 15, 16, 17, 23, 24, 25, 26, 27, 28, 29, 30, 31, 32, 33, 34, 35, 36, 37] (by decide +kernel) (by decide +kernel)) (goodIn_sub (fun _ h => List.mem_cons_of_mem _ (List.mem_append_right _ h)) (by decide +kernel))
set_option maxRecDepth 20000 in
theorem gX3_decide_X3_mustBeClaim : GoodIn wsX3_decide (wsV RX3 112 RX3 yX3_mustBeClaim wsX3_mustBeClaim) := goodIn_app (goodIn_of _ (by decide +kernel)) ggX3_decide_X3_mustBeClaim
set_option maxRecDepth 20000 in
theorem ggX3_decide_X0_tally : GoodIn wsX3_decide wsX0_tally := goodIn_r _ [21, 17, 22, 32, 33, 34, 35, 36, 37] (by decide +kernel) (by decide +kernel)
set_option maxRecDepth 20000 in
theorem gX3_decide_X0_tally : GoodIn wsX3_decide (wsV RX3 131 RX0 yX0_tally wsX0_tally) := goodIn_app (goodIn_of _ (by decide +kernel)) ggX3_decide_X0_tally
theorem dX3_decide_0 : decode cX3_decide 0 = .ok (.aload_n 0, 1) := by decide +kernel
theorem dX3_decide_1 : decode cX3_decide 1 = .ok (.iload_n 1, 1) := by decide +kernel
theorem dX3_decide_2 : decode cX3_decide 2 = .ok (.invokevirtual 112, 3) := by decide +kernel
theorem dX3_decide_5 : decode cX3_decide 5 = .ok (.aload_n 0, 1) := by decide +kernel
theorem dX3_decide_6 : decode cX3_decide 6 = .ok (.getfield 19, 3) := by decide +kernel
theorem dX3_decide_9 : decode cX3_decide 9 = .ok (.getfield 115, 3) := by decide +kernel
theorem dX3_decide_12 : decode cX3_decide 12 = .ok (.iload_n 1, 1) := by decide +kernel
theorem dX3_decide_13 : decode cX3_decide 13 = .ok (.iaload, 1) := by decide +kernel
theorem dX3_decide_14 : decode cX3_decide 14 = .ok (.iconst 3, 1) := by decide +kernel
theorem dX3_decide_15 : decode cX3_decide 15 = .ok (.if_icmp .eq 13, 3) := by decide +kernel
theorem dX3_decide_18 : decode cX3_decide 18 = .ok (.new 103, 3) := by decide +kernel
theorem dX3_decide_21 : decode cX3_decide 21 = .ok (.dup, 1) := by decide +kernel
theorem dX3_decide_22 : decode cX3_decide 22 = .ok (.ldc 135, 2) := by decide +kernel
theorem dX3_decide_24 : decode cX3_decide 24 = .ok (.invokespecial 107, 3) := by decide +kernel
theorem dX3_decide_27 : decode cX3_decide 27 = .ok (.athrow, 1) := by decide +kernel
theorem dX3_decide_28 : decode cX3_decide 28 = .ok (.aload_n 0, 1) := by decide +kernel
theorem dX3_decide_29 : decode cX3_decide 29 = .ok (.getfield 19, 3) := by decide +kernel
theorem dX3_decide_32 : decode cX3_decide 32 = .ok (.getfield 115, 3) := by decide +kernel
theorem dX3_decide_35 : decode cX3_decide 35 = .ok (.iload_n 1, 1) := by decide +kernel
theorem dX3_decide_36 : decode cX3_decide 36 = .ok (.iload_n 2, 1) := by decide +kernel
theorem dX3_decide_37 : decode cX3_decide 37 = .ok (.ifCond .eq 7, 3) := by decide +kernel
theorem dX3_decide_40 : decode cX3_decide 40 = .ok (.iconst 0, 1) := by decide +kernel
theorem dX3_decide_41 : decode cX3_decide 41 = .ok (.goto 4, 3) := by decide +kernel
theorem dX3_decide_44 : decode cX3_decide 44 = .ok (.iconst 2, 1) := by decide +kernel
theorem dX3_decide_45 : decode cX3_decide 45 = .ok (.iastore, 1) := by decide +kernel
theorem dX3_decide_46 : decode cX3_decide 46 = .ok (.aload_n 0, 1) := by decide +kernel
theorem dX3_decide_47 : decode cX3_decide 47 = .ok (.getfield 19, 3) := by decide +kernel
theorem dX3_decide_50 : decode cX3_decide 50 = .ok (.iconst 3, 1) := by decide +kernel
theorem dX3_decide_51 : decode cX3_decide 51 = .ok (.invokevirtual 131, 3) := by decide +kernel
theorem dX3_decide_54 : decode cX3_decide 54 = .ok (.ireturn, 1) := by decide +kernel
set_option maxRecDepth 20000 in
theorem ggX3_round_X3_mustBeLeast : GoodIn wsX3_round wsX3_mustBeLeast := goodIn_ca (goodIn_r _ [10, 11, 12, 13, 14, 15, 9, 16] (by decide +kernel) (by decide +kernel)) (goodIn_sub (fun _ h => List.mem_cons_of_mem _ (List.mem_append_left _ (List.mem_append_right _ h))) (by decide +kernel))
set_option maxRecDepth 20000 in
theorem gX3_round_X3_mustBeLeast : GoodIn wsX3_round (wsV RX3 137 RX3 yX3_mustBeLeast wsX3_mustBeLeast) := goodIn_app (goodIn_of _ (by decide +kernel)) ggX3_round_X3_mustBeLeast
set_option maxRecDepth 20000 in
theorem ggX3_round_X0_tally : GoodIn wsX3_round wsX0_tally := goodIn_r _ [21, 22, 23, 192, 193, 194, 195, 196, 197] (by decide +kernel) (by decide +kernel)
set_option maxRecDepth 20000 in
theorem gX3_round_X0_tally : GoodIn wsX3_round (wsV RX3 131 RX0 yX0_tally wsX0_tally) := goodIn_app (goodIn_of _ (by decide +kernel)) ggX3_round_X0_tally
set_option maxRecDepth 20000 in
theorem ggX3_round_X1_hasOpen : GoodIn wsX3_round wsX1_hasOpen := goodIn_r _ [28, 29, 30, 198, 199, 200, 201, 202] (by decide +kernel) (by decide +kernel)
set_option maxRecDepth 20000 in
theorem gX3_round_X1_hasOpen : GoodIn wsX3_round (wsV RX3 142 RX1 yX1_hasOpen wsX1_hasOpen) := goodIn_app (goodIn_of _ (by decide +kernel)) ggX3_round_X1_hasOpen
set_option maxRecDepth 20000 in
theorem ggX3_round_X3_moneyLeft : GoodIn wsX3_round wsX3_moneyLeft := goodIn_r _ [34, 35, 36, 4, 37, 38, 39, 9, 40, 41, 42, 43, 44, 45, 27, 46, 29, 30, 47, 183, 184, 185, 186, 187, 188, 189, 190, 191, 198, 199, 200, 201, 202] (by decide +kernel) (by decide +kernel)
set_option maxRecDepth 20000 in
theorem gX3_round_X3_moneyLeft : GoodIn wsX3_round (wsV RX3 63 RX3 yX3_moneyLeft wsX3_moneyLeft) := goodIn_app (goodIn_of _ (by decide +kernel)) ggX3_round_X3_moneyLeft
set_option maxRecDepth 20000 in
theorem ggX3_round_X3_shareMoneyLeft : GoodIn wsX3_round wsX3_shareMoneyLeft := goodIn_ca (goodIn_r _ [51, 5, 3, 52, 53, 54, 55, 56, 57, 58, 59, 60, 31, 32, 33, 9, 34, 35, 36, 4, 37, 38, 39, 40, 41, 42, 43, 44, 45, 27, 46, 29, 30, 47, 61, 62, 63, 64, 65, 66, 67, 68, 69, 70, 71, 72, 73, 74, 75, 76, 77, 78, 79, 20, 80, 22, 81, 82, 83, 84, 85, 86, 87, 88, 89, 90, 91, 92, 93, 94, 95, 96, 97, 98, 99, 100, 101, 102, 103, 104, 105, 106, 107, 108, 109, 110, 111, 112, 113, 114, 115, 116, 117, 118, 119, 120, 121, 122, 123, 124, 125, 126, 127, 128, 129, 130, 131, 132, 133, 134, 135, 136, 137, 138, 139, 140, 141, 142, 143, 144, 145, 146, 147, 148, 149, 150, 151, 152, 153, 154, 155, 156, 157, 158, 159, 183, 184, 185, 186, 187, 188, 189, 190, 191, 192, 193, 194, 195, 196, 197, 203, 204, 205, 206, 207, 208, 209, 210, 198, 199, 200, 201, 202] (by decide +kernel) (by decide +kernel)) (goodIn_sub (fun _ h => List.mem_cons_of_mem _ (List.mem_append_right _ h)) (by decide +kernel))
set_option maxRecDepth 20000 in
theorem gX3_round_X3_shareMoneyLeft : GoodIn wsX3_round (wsV RX3 149 RX3 yX3_shareMoneyLeft wsX3_shareMoneyLeft) := goodIn_app (goodIn_of _ (by decide +kernel)) ggX3_round_X3_shareMoneyLeft
set_option maxRecDepth 20000 in
theorem ggX3_round_X2_gainers : GoodIn wsX3_round wsX2_gainers := goodIn_r _ [163, 60, 104, 203, 204, 205, 206, 207, 208, 209, 210] (by decide +kernel) (by decide +kernel)
set_option maxRecDepth 20000 in
theorem gX3_round_X2_gainers : GoodIn wsX3_round (wsV RX3 153 RX2 yX2_gainers wsX2_gainers) := goodIn_app (goodIn_of _ (by decide +kernel)) ggX3_round_X2_gainers
set_option maxRecDepth 20000 in
theorem ggX3_round_X1_hasPlacesFor : GoodIn wsX3_round wsX1_hasPlacesFor := goodIn_r _ [167, 29, 198, 199, 200, 201, 202] (by decide +kernel) (by decide +kernel)
set_option maxRecDepth 20000 in
theorem gX3_round_X1_hasPlacesFor : GoodIn wsX3_round (wsV RX3 156 RX1 yX1_hasPlacesFor wsX1_hasPlacesFor) := goodIn_app (goodIn_of _ (by decide +kernel)) ggX3_round_X1_hasPlacesFor
set_option maxRecDepth 20000 in
theorem ggX3_round_X3_makePayments : GoodIn wsX3_round wsX3_makePayments := goodIn_r _ [171, 3, 52, 5, 4, 172, 173, 174, 175, 58, 176, 60, 97, 104, 177, 178, 179, 27, 180, 88, 29, 47, 30, 181, 182, 165, 166, 167, 183, 184, 185, 186, 187, 188, 189, 190, 191, 192, 193, 194, 195, 196, 197, 203, 204, 205, 206, 207, 208, 209, 210, 198, 199, 200, 201, 202] (by decide +kernel) (by decide +kernel)
set_option maxRecDepth 20000 in
theorem gX3_round_X3_makePayments : GoodIn wsX3_round (wsV RX3 161 RX3 yX3_makePayments wsX3_makePayments) := goodIn_app (goodIn_of _ (by decide +kernel)) ggX3_round_X3_makePayments
theorem dX3_round_0 : decode cX3_round 0 = .ok (.aload_n 0, 1) := by decide +kernel
theorem dX3_round_1 : decode cX3_round 1 = .ok (.iload_n 1, 1) := by decide +kernel
theorem dX3_round_2 : decode cX3_round 2 = .ok (.invokevirtual 137, 3) := by decide +kernel
theorem dX3_round_5 : decode cX3_round 5 = .ok (.aload_n 0, 1) := by decide +kernel
theorem dX3_round_6 : decode cX3_round 6 = .ok (.getfield 19, 3) := by decide +kernel
theorem dX3_round_9 : decode cX3_round 9 = .ok (.iconst 1, 1) := by decide +kernel
theorem dX3_round_10 : decode cX3_round 10 = .ok (.invokevirtual 131, 3) := by decide +kernel
theorem dX3_round_13 : decode cX3_round 13 = .ok (.ifCond .gt 14, 3) := by decide +kernel
theorem dX3_round_16 : decode cX3_round 16 = .ok (.aload_n 0, 1) := by decide +kernel
theorem dX3_round_17 : decode cX3_round 17 = .ok (.getfield 19, 3) := by decide +kernel
theorem dX3_round_20 : decode cX3_round 20 = .ok (.iconst 3, 1) := by decide +kernel
theorem dX3_round_21 : decode cX3_round 21 = .ok (.invokevirtual 131, 3) := by decide +kernel
theorem dX3_round_24 : decode cX3_round 24 = .ok (.ifCond .le 13, 3) := by decide +kernel
theorem dX3_round_27 : decode cX3_round 27 = .ok (.new 103, 3) := by decide +kernel
theorem dX3_round_30 : decode cX3_round 30 = .ok (.dup, 1) := by decide +kernel
theorem dX3_round_31 : decode cX3_round 31 = .ok (.ldc 140, 2) := by decide +kernel
theorem dX3_round_33 : decode cX3_round 33 = .ok (.invokespecial 107, 3) := by decide +kernel
theorem dX3_round_36 : decode cX3_round 36 = .ok (.athrow, 1) := by decide +kernel
theorem dX3_round_37 : decode cX3_round 37 = .ok (.aload_n 0, 1) := by decide +kernel
theorem dX3_round_38 : decode cX3_round 38 = .ok (.getfield 26, 3) := by decide +kernel
theorem dX3_round_41 : decode cX3_round 41 = .ok (.invokevirtual 142, 3) := by decide +kernel
theorem dX3_round_44 : decode cX3_round 44 = .ok (.ifCond .eq 13, 3) := by decide +kernel
theorem dX3_round_47 : decode cX3_round 47 = .ok (.new 103, 3) := by decide +kernel
theorem dX3_round_50 : decode cX3_round 50 = .ok (.dup, 1) := by decide +kernel
theorem dX3_round_51 : decode cX3_round 51 = .ok (.ldc 145, 2) := by decide +kernel
theorem dX3_round_53 : decode cX3_round 53 = .ok (.invokespecial 107, 3) := by decide +kernel
theorem dX3_round_56 : decode cX3_round 56 = .ok (.athrow, 1) := by decide +kernel
theorem dX3_round_57 : decode cX3_round 57 = .ok (.aload_n 0, 1) := by decide +kernel
theorem dX3_round_58 : decode cX3_round 58 = .ok (.invokevirtual 63, 3) := by decide +kernel
theorem dX3_round_61 : decode cX3_round 61 = .ok (.iconst 1, 1) := by decide +kernel
theorem dX3_round_62 : decode cX3_round 62 = .ok (.if_icmp .ge 13, 3) := by decide +kernel
theorem dX3_round_65 : decode cX3_round 65 = .ok (.new 103, 3) := by decide +kernel
theorem dX3_round_68 : decode cX3_round 68 = .ok (.dup, 1) := by decide +kernel
theorem dX3_round_69 : decode cX3_round 69 = .ok (.ldc 147, 2) := by decide +kernel
theorem dX3_round_71 : decode cX3_round 71 = .ok (.invokespecial 107, 3) := by decide +kernel
theorem dX3_round_74 : decode cX3_round 74 = .ok (.athrow, 1) := by decide +kernel
theorem dX3_round_75 : decode cX3_round 75 = .ok (.aload_n 0, 1) := by decide +kernel
theorem dX3_round_76 : decode cX3_round 76 = .ok (.iload_n 1, 1) := by decide +kernel
theorem dX3_round_77 : decode cX3_round 77 = .ok (.iconst 0, 1) := by decide +kernel
theorem dX3_round_78 : decode cX3_round 78 = .ok (.invokevirtual 149, 3) := by decide +kernel
theorem dX3_round_81 : decode cX3_round 81 = .ok (.aload_n 0, 1) := by decide +kernel
theorem dX3_round_82 : decode cX3_round 82 = .ok (.getfield 33, 3) := by decide +kernel
theorem dX3_round_85 : decode cX3_round 85 = .ok (.invokevirtual 153, 3) := by decide +kernel
theorem dX3_round_88 : decode cX3_round 88 = .ok (.istore_n 2, 1) := by decide +kernel
theorem dX3_round_89 : decode cX3_round 89 = .ok (.aload_n 0, 1) := by decide +kernel
theorem dX3_round_90 : decode cX3_round 90 = .ok (.getfield 26, 3) := by decide +kernel
theorem dX3_round_93 : decode cX3_round 93 = .ok (.iload_n 2, 1) := by decide +kernel
theorem dX3_round_94 : decode cX3_round 94 = .ok (.invokevirtual 156, 3) := by decide +kernel
theorem dX3_round_97 : decode cX3_round 97 = .ok (.ifCond .ne 13, 3) := by decide +kernel
theorem dX3_round_100 : decode cX3_round 100 = .ok (.new 103, 3) := by decide +kernel
theorem dX3_round_103 : decode cX3_round 103 = .ok (.dup, 1) := by decide +kernel
theorem dX3_round_104 : decode cX3_round 104 = .ok (.ldc 159, 2) := by decide +kernel
theorem dX3_round_106 : decode cX3_round 106 = .ok (.invokespecial 107, 3) := by decide +kernel
theorem dX3_round_109 : decode cX3_round 109 = .ok (.athrow, 1) := by decide +kernel
theorem dX3_round_110 : decode cX3_round 110 = .ok (.aload_n 0, 1) := by decide +kernel
theorem dX3_round_111 : decode cX3_round 111 = .ok (.invokevirtual 161, 3) := by decide +kernel
theorem dX3_round_114 : decode cX3_round 114 = .ok (.iload_n 2, 1) := by decide +kernel
theorem dX3_round_115 : decode cX3_round 115 = .ok (.ireturn, 1) := by decide +kernel
set_option maxRecDepth 20000 in
theorem ggX3_cash_X3_mustBePayment : GoodIn wsX3_cash wsX3_mustBePayment := goodIn_ca (goodIn_r _ [10, 11, 12, 3, 13, 14, 15, 16, 17, 18, 19, 20, 21, 22, 23, 24, 25, 26, 27, 28, 29, 30, 31, 32] (by decide +kernel) (by decide +kernel)) (goodIn_sub (fun _ h => List.mem_cons_of_mem _ (List.mem_append_right _ h)) (by decide +kernel))
set_option maxRecDepth 20000 in
theorem gX3_cash_X3_mustBePayment : GoodIn wsX3_cash (wsV RX3 164 RX3 yX3_mustBePayment wsX3_mustBePayment) := goodIn_app (goodIn_of _ (by decide +kernel)) ggX3_cash_X3_mustBePayment
theorem dX3_cash_0 : decode cX3_cash 0 = .ok (.aload_n 0, 1) := by decide +kernel
theorem dX3_cash_1 : decode cX3_cash 1 = .ok (.iload_n 1, 1) := by decide +kernel
theorem dX3_cash_2 : decode cX3_cash 2 = .ok (.invokevirtual 164, 3) := by decide +kernel
theorem dX3_cash_5 : decode cX3_cash 5 = .ok (.aload_n 0, 1) := by decide +kernel
theorem dX3_cash_6 : decode cX3_cash 6 = .ok (.getfield 26, 3) := by decide +kernel
theorem dX3_cash_9 : decode cX3_cash 9 = .ok (.getfield 167, 3) := by decide +kernel
theorem dX3_cash_12 : decode cX3_cash 12 = .ok (.iload_n 1, 1) := by decide +kernel
theorem dX3_cash_13 : decode cX3_cash 13 = .ok (.iaload, 1) := by decide +kernel
theorem dX3_cash_14 : decode cX3_cash 14 = .ok (.ifCond .eq 13, 3) := by decide +kernel
theorem dX3_cash_17 : decode cX3_cash 17 = .ok (.new 103, 3) := by decide +kernel
theorem dX3_cash_20 : decode cX3_cash 20 = .ok (.dup, 1) := by decide +kernel
theorem dX3_cash_21 : decode cX3_cash 21 = .ok (.ldc 168, 2) := by decide +kernel
theorem dX3_cash_23 : decode cX3_cash 23 = .ok (.invokespecial 107, 3) := by decide +kernel
theorem dX3_cash_26 : decode cX3_cash 26 = .ok (.athrow, 1) := by decide +kernel
theorem dX3_cash_27 : decode cX3_cash 27 = .ok (.aload_n 0, 1) := by decide +kernel
theorem dX3_cash_28 : decode cX3_cash 28 = .ok (.getfield 26, 3) := by decide +kernel
theorem dX3_cash_31 : decode cX3_cash 31 = .ok (.getfield 167, 3) := by decide +kernel
theorem dX3_cash_34 : decode cX3_cash 34 = .ok (.iload_n 1, 1) := by decide +kernel
theorem dX3_cash_35 : decode cX3_cash 35 = .ok (.iconst 1, 1) := by decide +kernel
theorem dX3_cash_36 : decode cX3_cash 36 = .ok (.iastore, 1) := by decide +kernel
theorem dX3_cash_37 : decode cX3_cash 37 = .ok (.aload_n 0, 1) := by decide +kernel
theorem dX3_cash_38 : decode cX3_cash 38 = .ok (.getfield 26, 3) := by decide +kernel
theorem dX3_cash_41 : decode cX3_cash 41 = .ok (.getfield 170, 3) := by decide +kernel
theorem dX3_cash_44 : decode cX3_cash 44 = .ok (.iload_n 1, 1) := by decide +kernel
theorem dX3_cash_45 : decode cX3_cash 45 = .ok (.iaload, 1) := by decide +kernel
theorem dX3_cash_46 : decode cX3_cash 46 = .ok (.ireturn, 1) := by decide +kernel
theorem dX3_today_0 : decode cX3_today 0 = .ok (.aload_n 0, 1) := by decide +kernel
theorem dX3_today_1 : decode cX3_today 1 = .ok (.getfield 76, 3) := by decide +kernel
theorem dX3_today_4 : decode cX3_today 4 = .ok (.ireturn, 1) := by decide +kernel
theorem dX3_claims_0 : decode cX3_claims 0 = .ok (.aload_n 0, 1) := by decide +kernel
theorem dX3_claims_1 : decode cX3_claims 1 = .ok (.getfield 19, 3) := by decide +kernel
theorem dX3_claims_4 : decode cX3_claims 4 = .ok (.getfield 173, 3) := by decide +kernel
theorem dX3_claims_7 : decode cX3_claims 7 = .ok (.ireturn, 1) := by decide +kernel
set_option maxRecDepth 20000 in
theorem ggX3_claimOf_X3_isOutside : GoodIn wsX3_claimOf wsX3_isOutside := goodIn_r _ [8] (by decide +kernel) (by decide +kernel)
set_option maxRecDepth 20000 in
theorem gX3_claimOf_X3_isOutside : GoodIn wsX3_claimOf (va_wsS RX3 39 yX3_isOutside wsX3_isOutside) := goodIn_app (goodIn_of _ (by decide +kernel)) ggX3_claimOf_X3_isOutside
theorem dX3_claimOf_0 : decode cX3_claimOf 0 = .ok (.iload_n 1, 1) := by decide +kernel
theorem dX3_claimOf_1 : decode cX3_claimOf 1 = .ok (.iconst 0, 1) := by decide +kernel
theorem dX3_claimOf_2 : decode cX3_claimOf 2 = .ok (.bipush 29, 2) := by decide +kernel
theorem dX3_claimOf_4 : decode cX3_claimOf 4 = .ok (.invokestatic 39, 3) := by decide +kernel
theorem dX3_claimOf_7 : decode cX3_claimOf 7 = .ok (.ifCond .eq 13, 3) := by decide +kernel
theorem dX3_claimOf_10 : decode cX3_claimOf 10 = .ok (.new 67, 3) := by decide +kernel
theorem dX3_claimOf_13 : decode cX3_claimOf 13 = .ok (.dup, 1) := by decide +kernel
theorem dX3_claimOf_14 : decode cX3_claimOf 14 = .ok (.ldc 176, 2) := by decide +kernel
theorem dX3_claimOf_16 : decode cX3_claimOf 16 = .ok (.invokespecial 71, 3) := by decide +kernel
theorem dX3_claimOf_19 : decode cX3_claimOf 19 = .ok (.athrow, 1) := by decide +kernel
theorem dX3_claimOf_20 : decode cX3_claimOf 20 = .ok (.aload_n 0, 1) := by decide +kernel
theorem dX3_claimOf_21 : decode cX3_claimOf 21 = .ok (.getfield 19, 3) := by decide +kernel
theorem dX3_claimOf_24 : decode cX3_claimOf 24 = .ok (.getfield 88, 3) := by decide +kernel
theorem dX3_claimOf_27 : decode cX3_claimOf 27 = .ok (.iload_n 1, 1) := by decide +kernel
theorem dX3_claimOf_28 : decode cX3_claimOf 28 = .ok (.iaload, 1) := by decide +kernel
theorem dX3_claimOf_29 : decode cX3_claimOf 29 = .ok (.ireturn, 1) := by decide +kernel
set_option maxRecDepth 20000 in
theorem ggX3_stateOf_X3_mustBeClaim : GoodIn wsX3_stateOf wsX3_mustBeClaim := goodIn_ca (goodIn_r _ [7, 8, 9, 1, 10, 11, 12, 13, 14, 15, 16, 17, 18, 19, 20, 21, 22, 23, 24, 25, 26, 27, 28, 29, 30] (by decide +kernel) (by decide +kernel)) (goodIn_sub (fun _ h => List.mem_cons_of_mem _ (List.mem_append_right _ h)) (by decide +kernel))
set_option maxRecDepth 20000 in
theorem gX3_stateOf_X3_mustBeClaim : GoodIn wsX3_stateOf (wsV RX3 112 RX3 yX3_mustBeClaim wsX3_mustBeClaim) := goodIn_app (goodIn_of _ (by decide +kernel)) ggX3_stateOf_X3_mustBeClaim
theorem dX3_stateOf_0 : decode cX3_stateOf 0 = .ok (.aload_n 0, 1) := by decide +kernel
theorem dX3_stateOf_1 : decode cX3_stateOf 1 = .ok (.iload_n 1, 1) := by decide +kernel
theorem dX3_stateOf_2 : decode cX3_stateOf 2 = .ok (.invokevirtual 112, 3) := by decide +kernel
theorem dX3_stateOf_5 : decode cX3_stateOf 5 = .ok (.aload_n 0, 1) := by decide +kernel
theorem dX3_stateOf_6 : decode cX3_stateOf 6 = .ok (.getfield 19, 3) := by decide +kernel
theorem dX3_stateOf_9 : decode cX3_stateOf 9 = .ok (.getfield 115, 3) := by decide +kernel
theorem dX3_stateOf_12 : decode cX3_stateOf 12 = .ok (.iload_n 1, 1) := by decide +kernel
theorem dX3_stateOf_13 : decode cX3_stateOf 13 = .ok (.iaload, 1) := by decide +kernel
theorem dX3_stateOf_14 : decode cX3_stateOf 14 = .ok (.ireturn, 1) := by decide +kernel
set_option maxRecDepth 20000 in
theorem ggX3_gradeOf_X3_mustBeClaim : GoodIn wsX3_gradeOf wsX3_mustBeClaim := goodIn_ca (goodIn_r _ [7, 8, 9, 1, 10, 11, 12, 13, 14, 15, 16, 17, 18, 19, 20, 21, 22, 23, 24, 25, 26, 27, 28, 29, 30] (by decide +kernel) (by decide +kernel)) (goodIn_sub (fun _ h => List.mem_cons_of_mem _ (List.mem_append_right _ h)) (by decide +kernel))
set_option maxRecDepth 20000 in
theorem gX3_gradeOf_X3_mustBeClaim : GoodIn wsX3_gradeOf (wsV RX3 112 RX3 yX3_mustBeClaim wsX3_mustBeClaim) := goodIn_app (goodIn_of _ (by decide +kernel)) ggX3_gradeOf_X3_mustBeClaim
theorem dX3_gradeOf_0 : decode cX3_gradeOf 0 = .ok (.aload_n 0, 1) := by decide +kernel
theorem dX3_gradeOf_1 : decode cX3_gradeOf 1 = .ok (.iload_n 1, 1) := by decide +kernel
theorem dX3_gradeOf_2 : decode cX3_gradeOf 2 = .ok (.invokevirtual 112, 3) := by decide +kernel
theorem dX3_gradeOf_5 : decode cX3_gradeOf 5 = .ok (.aload_n 0, 1) := by decide +kernel
theorem dX3_gradeOf_6 : decode cX3_gradeOf 6 = .ok (.getfield 19, 3) := by decide +kernel
theorem dX3_gradeOf_9 : decode cX3_gradeOf 9 = .ok (.getfield 178, 3) := by decide +kernel
theorem dX3_gradeOf_12 : decode cX3_gradeOf 12 = .ok (.iload_n 1, 1) := by decide +kernel
theorem dX3_gradeOf_13 : decode cX3_gradeOf 13 = .ok (.iaload, 1) := by decide +kernel
theorem dX3_gradeOf_14 : decode cX3_gradeOf 14 = .ok (.ireturn, 1) := by decide +kernel
set_option maxRecDepth 20000 in
theorem ggX3_room_X3_mustBeClaim : GoodIn wsX3_room wsX3_mustBeClaim := goodIn_ca (goodIn_r _ [9, 10, 11, 2, 12, 13, 14, 15, 16, 17, 30, 31, 32, 33, 34, 35, 36, 37, 38, 39, 40, 41, 42, 43, 44] (by decide +kernel) (by decide +kernel)) (goodIn_sub (fun _ h => List.mem_cons_of_mem _ (List.mem_append_right _ h)) (by decide +kernel))
set_option maxRecDepth 20000 in
theorem gX3_room_X3_mustBeClaim : GoodIn wsX3_room (wsV RX3 112 RX3 yX3_mustBeClaim wsX3_mustBeClaim) := goodIn_app (goodIn_of _ (by decide +kernel)) ggX3_room_X3_mustBeClaim
set_option maxRecDepth 20000 in
theorem ggX3_room_X3_valueAt : GoodIn wsX3_room wsX3_valueAt := goodIn_r _ [20] (by decide +kernel) (by decide +kernel)
set_option maxRecDepth 20000 in
theorem gX3_room_X3_valueAt : GoodIn wsX3_room (va_wsS RX3 181 yX3_valueAt wsX3_valueAt) := goodIn_app (goodIn_of _ (by decide +kernel)) ggX3_room_X3_valueAt
set_option maxRecDepth 20000 in
theorem ggX3_room_X1_sumFor : GoodIn wsX3_room wsX1_sumFor := goodIn_r _ [25, 26, 27, 28, 29, 45, 46, 47, 48, 49] (by decide +kernel) (by decide +kernel)
set_option maxRecDepth 20000 in
theorem gX3_room_X1_sumFor : GoodIn wsX3_room (wsV RX3 185 RX1 yX1_sumFor wsX1_sumFor) := goodIn_app (goodIn_of _ (by decide +kernel)) ggX3_room_X1_sumFor
theorem dX3_room_0 : decode cX3_room 0 = .ok (.aload_n 0, 1) := by decide +kernel
theorem dX3_room_1 : decode cX3_room 1 = .ok (.iload_n 1, 1) := by decide +kernel
theorem dX3_room_2 : decode cX3_room 2 = .ok (.invokevirtual 112, 3) := by decide +kernel
theorem dX3_room_5 : decode cX3_room 5 = .ok (.aload_n 0, 1) := by decide +kernel
theorem dX3_room_6 : decode cX3_room 6 = .ok (.getfield 13, 3) := by decide +kernel
theorem dX3_room_9 : decode cX3_room 9 = .ok (.aload_n 0, 1) := by decide +kernel
theorem dX3_room_10 : decode cX3_room 10 = .ok (.getfield 19, 3) := by decide +kernel
theorem dX3_room_13 : decode cX3_room 13 = .ok (.getfield 178, 3) := by decide +kernel
theorem dX3_room_16 : decode cX3_room 16 = .ok (.iload_n 1, 1) := by decide +kernel
theorem dX3_room_17 : decode cX3_room 17 = .ok (.iaload, 1) := by decide +kernel
theorem dX3_room_18 : decode cX3_room 18 = .ok (.invokestatic 181, 3) := by decide +kernel
theorem dX3_room_21 : decode cX3_room 21 = .ok (.aload_n 0, 1) := by decide +kernel
theorem dX3_room_22 : decode cX3_room 22 = .ok (.getfield 26, 3) := by decide +kernel
theorem dX3_room_25 : decode cX3_room 25 = .ok (.iload_n 1, 1) := by decide +kernel
theorem dX3_room_26 : decode cX3_room 26 = .ok (.invokevirtual 185, 3) := by decide +kernel
theorem dX3_room_29 : decode cX3_room 29 = .ok (.isub, 1) := by decide +kernel
theorem dX3_room_30 : decode cX3_room 30 = .ok (.istore_n 2, 1) := by decide +kernel
theorem dX3_room_31 : decode cX3_room 31 = .ok (.iload_n 2, 1) := by decide +kernel
theorem dX3_room_32 : decode cX3_room 32 = .ok (.ifCond .ge 7, 3) := by decide +kernel
theorem dX3_room_35 : decode cX3_room 35 = .ok (.iconst 0, 1) := by decide +kernel
theorem dX3_room_36 : decode cX3_room 36 = .ok (.goto 4, 3) := by decide +kernel
theorem dX3_room_39 : decode cX3_room 39 = .ok (.iload_n 2, 1) := by decide +kernel
theorem dX3_room_40 : decode cX3_room 40 = .ok (.ireturn, 1) := by decide +kernel
set_option maxRecDepth 20000 in
theorem ggX3_paidTo_X3_mustBeClaim : GoodIn wsX3_paidTo wsX3_mustBeClaim := goodIn_ca (goodIn_r _ [6, 7, 8, 9, 10, 11, 12, 13, 14, 15, 25, 26, 27, 28, 29, 30, 31, 32, 33, 34, 35, 36, 37, 38, 39] (by decide +kernel) (by decide +kernel)) (goodIn_sub (fun _ h => List.mem_cons_of_mem _ (List.mem_append_right _ h)) (by decide +kernel))
set_option maxRecDepth 20000 in
theorem gX3_paidTo_X3_mustBeClaim : GoodIn wsX3_paidTo (wsV RX3 112 RX3 yX3_mustBeClaim wsX3_mustBeClaim) := goodIn_app (goodIn_of _ (by decide +kernel)) ggX3_paidTo_X3_mustBeClaim
set_option maxRecDepth 20000 in
theorem ggX3_paidTo_X1_sumFor : GoodIn wsX3_paidTo wsX1_sumFor := goodIn_r _ [20, 21, 22, 23, 24, 40, 41, 42, 43, 44] (by decide +kernel) (by decide +kernel)
set_option maxRecDepth 20000 in
theorem gX3_paidTo_X1_sumFor : GoodIn wsX3_paidTo (wsV RX3 185 RX1 yX1_sumFor wsX1_sumFor) := goodIn_app (goodIn_of _ (by decide +kernel)) ggX3_paidTo_X1_sumFor
theorem dX3_paidTo_0 : decode cX3_paidTo 0 = .ok (.aload_n 0, 1) := by decide +kernel
theorem dX3_paidTo_1 : decode cX3_paidTo 1 = .ok (.iload_n 1, 1) := by decide +kernel
theorem dX3_paidTo_2 : decode cX3_paidTo 2 = .ok (.invokevirtual 112, 3) := by decide +kernel
theorem dX3_paidTo_5 : decode cX3_paidTo 5 = .ok (.aload_n 0, 1) := by decide +kernel
theorem dX3_paidTo_6 : decode cX3_paidTo 6 = .ok (.getfield 26, 3) := by decide +kernel
theorem dX3_paidTo_9 : decode cX3_paidTo 9 = .ok (.iload_n 1, 1) := by decide +kernel
theorem dX3_paidTo_10 : decode cX3_paidTo 10 = .ok (.invokevirtual 185, 3) := by decide +kernel
theorem dX3_paidTo_13 : decode cX3_paidTo 13 = .ok (.ireturn, 1) := by decide +kernel
set_option maxRecDepth 20000 in
theorem ggX3_count_X3_isOutside : GoodIn wsX3_count wsX3_isOutside := goodIn_r _ [7] (by decide +kernel) (by decide +kernel)
set_option maxRecDepth 20000 in
theorem gX3_count_X3_isOutside : GoodIn wsX3_count (va_wsS RX3 39 yX3_isOutside wsX3_isOutside) := goodIn_app (goodIn_of _ (by decide +kernel)) ggX3_count_X3_isOutside
set_option maxRecDepth 20000 in
theorem ggX3_count_X0_tally : GoodIn wsX3_count wsX0_tally := goodIn_r _ [12, 13, 14, 24, 25, 26, 27, 28, 29] (by decide +kernel) (by decide +kernel)
set_option maxRecDepth 20000 in
theorem gX3_count_X0_tally : GoodIn wsX3_count (wsV RX3 131 RX0 yX0_tally wsX0_tally) := goodIn_app (goodIn_of _ (by decide +kernel)) ggX3_count_X0_tally
theorem dX3_count_0 : decode cX3_count 0 = .ok (.iload_n 1, 1) := by decide +kernel
theorem dX3_count_1 : decode cX3_count 1 = .ok (.iconst 0, 1) := by decide +kernel
theorem dX3_count_2 : decode cX3_count 2 = .ok (.iconst 3, 1) := by decide +kernel
theorem dX3_count_3 : decode cX3_count 3 = .ok (.invokestatic 39, 3) := by decide +kernel
theorem dX3_count_6 : decode cX3_count 6 = .ok (.ifCond .eq 13, 3) := by decide +kernel
theorem dX3_count_9 : decode cX3_count 9 = .ok (.new 43, 3) := by decide +kernel
theorem dX3_count_12 : decode cX3_count 12 = .ok (.dup, 1) := by decide +kernel
theorem dX3_count_13 : decode cX3_count 13 = .ok (.ldc 188, 2) := by decide +kernel
theorem dX3_count_15 : decode cX3_count 15 = .ok (.invokespecial 47, 3) := by decide +kernel
theorem dX3_count_18 : decode cX3_count 18 = .ok (.athrow, 1) := by decide +kernel
theorem dX3_count_19 : decode cX3_count 19 = .ok (.aload_n 0, 1) := by decide +kernel
theorem dX3_count_20 : decode cX3_count 20 = .ok (.getfield 19, 3) := by decide +kernel
theorem dX3_count_23 : decode cX3_count 23 = .ok (.iload_n 1, 1) := by decide +kernel
theorem dX3_count_24 : decode cX3_count 24 = .ok (.invokevirtual 131, 3) := by decide +kernel
theorem dX3_count_27 : decode cX3_count 27 = .ok (.ireturn, 1) := by decide +kernel
set_option maxRecDepth 20000 in
theorem ggX3_moneyLeft_X3_fee : GoodIn wsX3_moneyLeft wsX3_fee := goodIn_r _ [8, 1, 9, 10, 19, 20, 21, 22, 23, 24, 25, 26, 27] (by decide +kernel) (by decide +kernel)
set_option maxRecDepth 20000 in
theorem gX3_moneyLeft_X3_fee : GoodIn wsX3_moneyLeft (wsV RX3 190 RX3 yX3_fee wsX3_fee) := goodIn_app (goodIn_of _ (by decide +kernel)) ggX3_moneyLeft_X3_fee
set_option maxRecDepth 20000 in
theorem ggX3_moneyLeft_X1_sumOfAll : GoodIn wsX3_moneyLeft wsX1_sumOfAll := goodIn_r _ [15, 16, 17, 18, 28, 29, 30, 31, 32] (by decide +kernel) (by decide +kernel)
set_option maxRecDepth 20000 in
theorem gX3_moneyLeft_X1_sumOfAll : GoodIn wsX3_moneyLeft (wsV RX3 193 RX1 yX1_sumOfAll wsX1_sumOfAll) := goodIn_app (goodIn_of _ (by decide +kernel)) ggX3_moneyLeft_X1_sumOfAll
theorem dX3_moneyLeft_0 : decode cX3_moneyLeft 0 = .ok (.aload_n 0, 1) := by decide +kernel
theorem dX3_moneyLeft_1 : decode cX3_moneyLeft 1 = .ok (.getfield 53, 3) := by decide +kernel
theorem dX3_moneyLeft_4 : decode cX3_moneyLeft 4 = .ok (.aload_n 0, 1) := by decide +kernel
theorem dX3_moneyLeft_5 : decode cX3_moneyLeft 5 = .ok (.invokevirtual 190, 3) := by decide +kernel
theorem dX3_moneyLeft_8 : decode cX3_moneyLeft 8 = .ok (.isub, 1) := by decide +kernel
theorem dX3_moneyLeft_9 : decode cX3_moneyLeft 9 = .ok (.aload_n 0, 1) := by decide +kernel
theorem dX3_moneyLeft_10 : decode cX3_moneyLeft 10 = .ok (.getfield 60, 3) := by decide +kernel
theorem dX3_moneyLeft_13 : decode cX3_moneyLeft 13 = .ok (.isub, 1) := by decide +kernel
theorem dX3_moneyLeft_14 : decode cX3_moneyLeft 14 = .ok (.aload_n 0, 1) := by decide +kernel
theorem dX3_moneyLeft_15 : decode cX3_moneyLeft 15 = .ok (.getfield 26, 3) := by decide +kernel
theorem dX3_moneyLeft_18 : decode cX3_moneyLeft 18 = .ok (.invokevirtual 193, 3) := by decide +kernel
theorem dX3_moneyLeft_21 : decode cX3_moneyLeft 21 = .ok (.isub, 1) := by decide +kernel
theorem dX3_moneyLeft_22 : decode cX3_moneyLeft 22 = .ok (.ireturn, 1) := by decide +kernel
theorem dX3_fee_0 : decode cX3_fee 0 = .ok (.aload_n 0, 1) := by decide +kernel
theorem dX3_fee_1 : decode cX3_fee 1 = .ok (.getfield 53, 3) := by decide +kernel
theorem dX3_fee_4 : decode cX3_fee 4 = .ok (.i2l, 1) := by decide +kernel
theorem dX3_fee_5 : decode cX3_fee 5 = .ok (.aload_n 0, 1) := by decide +kernel
theorem dX3_fee_6 : decode cX3_fee 6 = .ok (.getfield 57, 3) := by decide +kernel
theorem dX3_fee_9 : decode cX3_fee 9 = .ok (.i2l, 1) := by decide +kernel
theorem dX3_fee_10 : decode cX3_fee 10 = .ok (.lmul, 1) := by decide +kernel
theorem dX3_fee_11 : decode cX3_fee 11 = .ok (.ldc2_w 196, 3) := by decide +kernel
theorem dX3_fee_14 : decode cX3_fee 14 = .ok (.ldiv, 1) := by decide +kernel
theorem dX3_fee_15 : decode cX3_fee 15 = .ok (.l2i, 1) := by decide +kernel
theorem dX3_fee_16 : decode cX3_fee 16 = .ok (.ireturn, 1) := by decide +kernel
theorem dX3_payments_0 : decode cX3_payments 0 = .ok (.aload_n 0, 1) := by decide +kernel
theorem dX3_payments_1 : decode cX3_payments 1 = .ok (.getfield 26, 3) := by decide +kernel
theorem dX3_payments_4 : decode cX3_payments 4 = .ok (.getfield 198, 3) := by decide +kernel
theorem dX3_payments_7 : decode cX3_payments 7 = .ok (.ireturn, 1) := by decide +kernel
set_option maxRecDepth 20000 in
theorem ggX3_paymentTo_X3_mustBePayment : GoodIn wsX3_paymentTo wsX3_mustBePayment := goodIn_ca (goodIn_r _ [7, 8, 9, 1, 10, 11, 12, 13, 14, 15, 16, 17, 18, 19, 20, 21, 22, 23, 24, 25, 26, 27, 28, 29] (by decide +kernel) (by decide +kernel)) (goodIn_sub (fun _ h => List.mem_cons_of_mem _ (List.mem_append_right _ h)) (by decide +kernel))
set_option maxRecDepth 20000 in
theorem gX3_paymentTo_X3_mustBePayment : GoodIn wsX3_paymentTo (wsV RX3 164 RX3 yX3_mustBePayment wsX3_mustBePayment) := goodIn_app (goodIn_of _ (by decide +kernel)) ggX3_paymentTo_X3_mustBePayment
theorem dX3_paymentTo_0 : decode cX3_paymentTo 0 = .ok (.aload_n 0, 1) := by decide +kernel
theorem dX3_paymentTo_1 : decode cX3_paymentTo 1 = .ok (.iload_n 1, 1) := by decide +kernel
theorem dX3_paymentTo_2 : decode cX3_paymentTo 2 = .ok (.invokevirtual 164, 3) := by decide +kernel
theorem dX3_paymentTo_5 : decode cX3_paymentTo 5 = .ok (.aload_n 0, 1) := by decide +kernel
theorem dX3_paymentTo_6 : decode cX3_paymentTo 6 = .ok (.getfield 26, 3) := by decide +kernel
theorem dX3_paymentTo_9 : decode cX3_paymentTo 9 = .ok (.getfield 199, 3) := by decide +kernel
theorem dX3_paymentTo_12 : decode cX3_paymentTo 12 = .ok (.iload_n 1, 1) := by decide +kernel
theorem dX3_paymentTo_13 : decode cX3_paymentTo 13 = .ok (.iaload, 1) := by decide +kernel
theorem dX3_paymentTo_14 : decode cX3_paymentTo 14 = .ok (.ireturn, 1) := by decide +kernel
set_option maxRecDepth 20000 in
theorem ggX3_amountOf_X3_mustBePayment : GoodIn wsX3_amountOf wsX3_mustBePayment := goodIn_ca (goodIn_r _ [7, 8, 9, 1, 10, 11, 12, 13, 14, 15, 16, 17, 18, 19, 20, 21, 22, 23, 24, 25, 26, 27, 28, 29] (by decide +kernel) (by decide +kernel)) (goodIn_sub (fun _ h => List.mem_cons_of_mem _ (List.mem_append_right _ h)) (by decide +kernel))
set_option maxRecDepth 20000 in
theorem gX3_amountOf_X3_mustBePayment : GoodIn wsX3_amountOf (wsV RX3 164 RX3 yX3_mustBePayment wsX3_mustBePayment) := goodIn_app (goodIn_of _ (by decide +kernel)) ggX3_amountOf_X3_mustBePayment
theorem dX3_amountOf_0 : decode cX3_amountOf 0 = .ok (.aload_n 0, 1) := by decide +kernel
theorem dX3_amountOf_1 : decode cX3_amountOf 1 = .ok (.iload_n 1, 1) := by decide +kernel
theorem dX3_amountOf_2 : decode cX3_amountOf 2 = .ok (.invokevirtual 164, 3) := by decide +kernel
theorem dX3_amountOf_5 : decode cX3_amountOf 5 = .ok (.aload_n 0, 1) := by decide +kernel
theorem dX3_amountOf_6 : decode cX3_amountOf 6 = .ok (.getfield 26, 3) := by decide +kernel
theorem dX3_amountOf_9 : decode cX3_amountOf 9 = .ok (.getfield 170, 3) := by decide +kernel
theorem dX3_amountOf_12 : decode cX3_amountOf 12 = .ok (.iload_n 1, 1) := by decide +kernel
theorem dX3_amountOf_13 : decode cX3_amountOf 13 = .ok (.iaload, 1) := by decide +kernel
theorem dX3_amountOf_14 : decode cX3_amountOf 14 = .ok (.ireturn, 1) := by decide +kernel
set_option maxRecDepth 20000 in
theorem ggX3_paymentState_X3_mustBePayment : GoodIn wsX3_paymentState wsX3_mustBePayment := goodIn_ca (goodIn_r _ [7, 8, 9, 1, 10, 11, 12, 13, 14, 15, 16, 17, 18, 19, 20, 21, 22, 23, 24, 25, 26, 27, 28, 29] (by decide +kernel) (by decide +kernel)) (goodIn_sub (fun _ h => List.mem_cons_of_mem _ (List.mem_append_right _ h)) (by decide +kernel))
set_option maxRecDepth 20000 in
theorem gX3_paymentState_X3_mustBePayment : GoodIn wsX3_paymentState (wsV RX3 164 RX3 yX3_mustBePayment wsX3_mustBePayment) := goodIn_app (goodIn_of _ (by decide +kernel)) ggX3_paymentState_X3_mustBePayment
theorem dX3_paymentState_0 : decode cX3_paymentState 0 = .ok (.aload_n 0, 1) := by decide +kernel
theorem dX3_paymentState_1 : decode cX3_paymentState 1 = .ok (.iload_n 1, 1) := by decide +kernel
theorem dX3_paymentState_2 : decode cX3_paymentState 2 = .ok (.invokevirtual 164, 3) := by decide +kernel
theorem dX3_paymentState_5 : decode cX3_paymentState 5 = .ok (.aload_n 0, 1) := by decide +kernel
theorem dX3_paymentState_6 : decode cX3_paymentState 6 = .ok (.getfield 26, 3) := by decide +kernel
theorem dX3_paymentState_9 : decode cX3_paymentState 9 = .ok (.getfield 167, 3) := by decide +kernel
theorem dX3_paymentState_12 : decode cX3_paymentState 12 = .ok (.iload_n 1, 1) := by decide +kernel
theorem dX3_paymentState_13 : decode cX3_paymentState 13 = .ok (.iaload, 1) := by decide +kernel
theorem dX3_paymentState_14 : decode cX3_paymentState 14 = .ok (.ireturn, 1) := by decide +kernel
set_option maxRecDepth 20000 in
theorem ggX3_shareOf_X3_shareFor : GoodIn wsX3_shareOf wsX3_shareFor := goodIn_ca (goodIn_ca (goodIn_r _ [5, 6, 7, 8, 9, 4, 10, 11, 12, 13, 14, 15, 16, 17, 18, 19, 20, 21, 22, 23, 24, 25, 26, 27, 28, 29, 30, 31, 32, 33, 34, 35, 36, 37, 38, 39, 40, 41, 42, 43, 44, 45, 46, 47, 48, 49, 50, 51, 52, 53, 54, 55, 56, 57, 58, 59, 60, 61, 62, 63, 64, 65, 66, 67, 68, 69, 70, 71, 72, 73, 74, 75, 76, 77, 78, 79, 80, 81, 82, 83, 84, 85, 86, 87, 88, 89, 90, 91, 92, 93, 94, 95, 96, 97, 98, 99, 100, 101, 102, 103, 104, 105, 106, 107, 108, 109, 110, 111, 112, 113, 114, 115, 116, 117, 118, 119, 120, 121, 122, 123, 124, 125, 126, 127, 128, 129, 130, 131, 132, 133, 134, 135, 136, 137, 138, 139, 140, 141, 142, 143, 144, 145, 146, 147, 148, 149, 150, 151, 152, 153, 154, 155, 156, 157, 158, 159, 160, 161, 162, 163, 164, 165, 166, 167, 168, 169, 170, 171, 172, 173, 174, 175, 176, 177, 178, 179, 180, 181, 182, 183, 184] (by decide +kernel) (by decide +kernel)) (goodIn_sub (fun _ h => List.mem_cons_of_mem _ (List.mem_append_left _ (List.mem_append_right _ h))) (by decide +kernel))) (goodIn_sub (fun _ h => List.mem_cons_of_mem _ (List.mem_append_right _ h)) (by decide +kernel))
set_option maxRecDepth 20000 in
theorem gX3_shareOf_X3_shareFor : GoodIn wsX3_shareOf (wsV RX3 202 RX3 yX3_shareFor wsX3_shareFor) := goodIn_app (goodIn_of _ (by decide +kernel)) ggX3_shareOf_X3_shareFor
theorem dX3_shareOf_0 : decode cX3_shareOf 0 = .ok (.aload_n 0, 1) := by decide +kernel
theorem dX3_shareOf_1 : decode cX3_shareOf 1 = .ok (.iload_n 1, 1) := by decide +kernel
theorem dX3_shareOf_2 : decode cX3_shareOf 2 = .ok (.iload_n 2, 1) := by decide +kernel
theorem dX3_shareOf_3 : decode cX3_shareOf 3 = .ok (.iconst 0, 1) := by decide +kernel
theorem dX3_shareOf_4 : decode cX3_shareOf 4 = .ok (.invokevirtual 202, 3) := by decide +kernel
theorem dX3_shareOf_7 : decode cX3_shareOf 7 = .ok (.ireturn, 1) := by decide +kernel
set_option maxRecDepth 20000 in
theorem ggX3_shareBySorting_X3_shareFor : GoodIn wsX3_shareBySorting wsX3_shareFor := goodIn_ca (goodIn_ca (goodIn_r _ [5, 6, 7, 8, 9, 4, 10, 11, 12, 13, 14, 15, 16, 17, 18, 19, 20, 21, 22, 23, 24, 25, 26, 27, 28, 29, 30, 31, 32, 33, 34, 35, 36, 37, 38, 39, 40, 41, 42, 43, 44, 45, 46, 47, 48, 49, 50, 51, 52, 53, 54, 55, 56, 57, 58, 59, 60, 61, 62, 63, 64, 65, 66, 67, 68, 69, 70, 71, 72, 73, 74, 75, 76, 77, 78, 79, 80, 81, 82, 83, 84, 85, 86, 87, 88, 89, 90, 91, 92, 93, 94, 95, 96, 97, 98, 99, 100, 101, 102, 103, 104, 105, 106, 107, 108, 109, 110, 111, 112, 113, 114, 115, 116, 117, 118, 119, 120, 121, 122, 123, 124, 125, 126, 127, 128, 129, 130, 131, 132, 133, 134, 135, 136, 137, 138, 139, 140, 141, 142, 143, 144, 145, 146, 147, 148, 149, 150, 151, 152, 153, 154, 155, 156, 157, 158, 159, 160, 161, 162, 163, 164, 165, 166, 167, 168, 169, 170, 171, 172, 173, 174, 175, 176, 177, 178, 179, 180, 181, 182, 183, 184] (by decide +kernel) (by decide +kernel)) (goodIn_sub (fun _ h => List.mem_cons_of_mem _ (List.mem_append_left _ (List.mem_append_right _ h))) (by decide +kernel))) (goodIn_sub (fun _ h => List.mem_cons_of_mem _ (List.mem_append_right _ h)) (by decide +kernel))
set_option maxRecDepth 20000 in
theorem gX3_shareBySorting_X3_shareFor : GoodIn wsX3_shareBySorting (wsV RX3 202 RX3 yX3_shareFor wsX3_shareFor) := goodIn_app (goodIn_of _ (by decide +kernel)) ggX3_shareBySorting_X3_shareFor
theorem dX3_shareBySorting_0 : decode cX3_shareBySorting 0 = .ok (.aload_n 0, 1) := by decide +kernel
theorem dX3_shareBySorting_1 : decode cX3_shareBySorting 1 = .ok (.iload_n 1, 1) := by decide +kernel
theorem dX3_shareBySorting_2 : decode cX3_shareBySorting 2 = .ok (.iload_n 2, 1) := by decide +kernel
theorem dX3_shareBySorting_3 : decode cX3_shareBySorting 3 = .ok (.iconst 1, 1) := by decide +kernel
theorem dX3_shareBySorting_4 : decode cX3_shareBySorting 4 = .ok (.invokevirtual 202, 3) := by decide +kernel
theorem dX3_shareBySorting_7 : decode cX3_shareBySorting 7 = .ok (.ireturn, 1) := by decide +kernel
theorem dX3_isOutside_0 : decode cX3_isOutside 0 = .ok (.iload_n 0, 1) := by decide +kernel
theorem dX3_isOutside_1 : decode cX3_isOutside 1 = .ok (.iload_n 1, 1) := by decide +kernel
theorem dX3_isOutside_2 : decode cX3_isOutside 2 = .ok (.if_icmp .lt 8, 3) := by decide +kernel
theorem dX3_isOutside_5 : decode cX3_isOutside 5 = .ok (.iload_n 0, 1) := by decide +kernel
theorem dX3_isOutside_6 : decode cX3_isOutside 6 = .ok (.iload_n 2, 1) := by decide +kernel
theorem dX3_isOutside_7 : decode cX3_isOutside 7 = .ok (.if_icmp .le 7, 3) := by decide +kernel
theorem dX3_isOutside_10 : decode cX3_isOutside 10 = .ok (.iconst 1, 1) := by decide +kernel
theorem dX3_isOutside_11 : decode cX3_isOutside 11 = .ok (.goto 4, 3) := by decide +kernel
theorem dX3_isOutside_14 : decode cX3_isOutside 14 = .ok (.iconst 0, 1) := by decide +kernel
theorem dX3_isOutside_15 : decode cX3_isOutside 15 = .ok (.ireturn, 1) := by decide +kernel
theorem dX3_valueAt_0 : decode cX3_valueAt 0 = .ok (.iload_n 1, 1) := by decide +kernel
theorem dX3_valueAt_1 : decode cX3_valueAt 1 = .ok (.ifCond .lt 15, 3) := by decide +kernel
theorem dX3_valueAt_4 : decode cX3_valueAt 4 = .ok (.iload_n 1, 1) := by decide +kernel
theorem dX3_valueAt_5 : decode cX3_valueAt 5 = .ok (.aload_n 0, 1) := by decide +kernel
theorem dX3_valueAt_6 : decode cX3_valueAt 6 = .ok (.arraylength, 1) := by decide +kernel
theorem dX3_valueAt_7 : decode cX3_valueAt 7 = .ok (.if_icmp .ge 9, 3) := by decide +kernel
theorem dX3_valueAt_10 : decode cX3_valueAt 10 = .ok (.aload_n 0, 1) := by decide +kernel
theorem dX3_valueAt_11 : decode cX3_valueAt 11 = .ok (.iload_n 1, 1) := by decide +kernel
theorem dX3_valueAt_12 : decode cX3_valueAt 12 = .ok (.iaload, 1) := by decide +kernel
theorem dX3_valueAt_13 : decode cX3_valueAt 13 = .ok (.goto 4, 3) := by decide +kernel
theorem dX3_valueAt_16 : decode cX3_valueAt 16 = .ok (.iconst 0, 1) := by decide +kernel
theorem dX3_valueAt_17 : decode cX3_valueAt 17 = .ok (.ireturn, 1) := by decide +kernel
set_option maxRecDepth 20000 in
theorem ggX3_mustBeClaim_X0_has : GoodIn wsX3_mustBeClaim wsX0_has := goodIn_r _ [8, 9, 19, 20, 21, 22, 23, 24] (by decide +kernel) (by decide +kernel)
set_option maxRecDepth 20000 in
theorem gX3_mustBeClaim_X0_has : GoodIn wsX3_mustBeClaim (wsV RX3 91 RX0 yX0_has wsX0_has) := goodIn_app (goodIn_of _ (by decide +kernel)) ggX3_mustBeClaim_X0_has
theorem dX3_mustBeClaim_0 : decode cX3_mustBeClaim 0 = .ok (.aload_n 0, 1) := by decide +kernel
theorem dX3_mustBeClaim_1 : decode cX3_mustBeClaim 1 = .ok (.getfield 19, 3) := by decide +kernel
theorem dX3_mustBeClaim_4 : decode cX3_mustBeClaim 4 = .ok (.iload_n 1, 1) := by decide +kernel
theorem dX3_mustBeClaim_5 : decode cX3_mustBeClaim 5 = .ok (.invokevirtual 91, 3) := by decide +kernel
theorem dX3_mustBeClaim_8 : decode cX3_mustBeClaim 8 = .ok (.ifCond .ne 13, 3) := by decide +kernel
theorem dX3_mustBeClaim_11 : decode cX3_mustBeClaim 11 = .ok (.new 67, 3) := by decide +kernel
theorem dX3_mustBeClaim_14 : decode cX3_mustBeClaim 14 = .ok (.dup, 1) := by decide +kernel
theorem dX3_mustBeClaim_15 : decode cX3_mustBeClaim 15 = .ok (.ldc 206, 2) := by decide +kernel
theorem dX3_mustBeClaim_17 : decode cX3_mustBeClaim 17 = .ok (.invokespecial 71, 3) := by decide +kernel
theorem dX3_mustBeClaim_20 : decode cX3_mustBeClaim 20 = .ok (.athrow, 1) := by decide +kernel
theorem dX3_mustBeClaim_21 : decode cX3_mustBeClaim 21 = .ok (.return_, 1) := by decide +kernel
set_option maxRecDepth 20000 in
theorem ggX3_mustBePayment_X1_has : GoodIn wsX3_mustBePayment wsX1_has := goodIn_r _ [8, 9, 19, 20, 21, 22, 23] (by decide +kernel) (by decide +kernel)
set_option maxRecDepth 20000 in
theorem gX3_mustBePayment_X1_has : GoodIn wsX3_mustBePayment (wsV RX3 208 RX1 yX1_has wsX1_has) := goodIn_app (goodIn_of _ (by decide +kernel)) ggX3_mustBePayment_X1_has
theorem dX3_mustBePayment_0 : decode cX3_mustBePayment 0 = .ok (.aload_n 0, 1) := by decide +kernel
theorem dX3_mustBePayment_1 : decode cX3_mustBePayment 1 = .ok (.getfield 26, 3) := by decide +kernel
theorem dX3_mustBePayment_4 : decode cX3_mustBePayment 4 = .ok (.iload_n 1, 1) := by decide +kernel
theorem dX3_mustBePayment_5 : decode cX3_mustBePayment 5 = .ok (.invokevirtual 208, 3) := by decide +kernel
theorem dX3_mustBePayment_8 : decode cX3_mustBePayment 8 = .ok (.ifCond .ne 13, 3) := by decide +kernel
theorem dX3_mustBePayment_11 : decode cX3_mustBePayment 11 = .ok (.new 67, 3) := by decide +kernel
theorem dX3_mustBePayment_14 : decode cX3_mustBePayment 14 = .ok (.dup, 1) := by decide +kernel
theorem dX3_mustBePayment_15 : decode cX3_mustBePayment 15 = .ok (.ldc 209, 2) := by decide +kernel
theorem dX3_mustBePayment_17 : decode cX3_mustBePayment 17 = .ok (.invokespecial 71, 3) := by decide +kernel
theorem dX3_mustBePayment_20 : decode cX3_mustBePayment 20 = .ok (.athrow, 1) := by decide +kernel
theorem dX3_mustBePayment_21 : decode cX3_mustBePayment 21 = .ok (.return_, 1) := by decide +kernel
set_option maxRecDepth 20000 in
theorem ggX3_mustBeLeast_X3_isOutside : GoodIn wsX3_mustBeLeast wsX3_isOutside := goodIn_r _ [7] (by decide +kernel) (by decide +kernel)
set_option maxRecDepth 20000 in
theorem gX3_mustBeLeast_X3_isOutside : GoodIn wsX3_mustBeLeast (va_wsS RX3 39 yX3_isOutside wsX3_isOutside) := goodIn_app (goodIn_of _ (by decide +kernel)) ggX3_mustBeLeast_X3_isOutside
theorem dX3_mustBeLeast_0 : decode cX3_mustBeLeast 0 = .ok (.iload_n 1, 1) := by decide +kernel
theorem dX3_mustBeLeast_1 : decode cX3_mustBeLeast 1 = .ok (.iconst 0, 1) := by decide +kernel
theorem dX3_mustBeLeast_2 : decode cX3_mustBeLeast 2 = .ok (.ldc 211, 2) := by decide +kernel
theorem dX3_mustBeLeast_4 : decode cX3_mustBeLeast 4 = .ok (.invokestatic 39, 3) := by decide +kernel
theorem dX3_mustBeLeast_7 : decode cX3_mustBeLeast 7 = .ok (.ifCond .eq 13, 3) := by decide +kernel
theorem dX3_mustBeLeast_10 : decode cX3_mustBeLeast 10 = .ok (.new 43, 3) := by decide +kernel
theorem dX3_mustBeLeast_13 : decode cX3_mustBeLeast 13 = .ok (.dup, 1) := by decide +kernel
theorem dX3_mustBeLeast_14 : decode cX3_mustBeLeast 14 = .ok (.ldc 212, 2) := by decide +kernel
theorem dX3_mustBeLeast_16 : decode cX3_mustBeLeast 16 = .ok (.invokespecial 47, 3) := by decide +kernel
theorem dX3_mustBeLeast_19 : decode cX3_mustBeLeast 19 = .ok (.athrow, 1) := by decide +kernel
theorem dX3_mustBeLeast_20 : decode cX3_mustBeLeast 20 = .ok (.return_, 1) := by decide +kernel
theorem dX3_mustHaveNoPayments_0 : decode cX3_mustHaveNoPayments 0 = .ok (.aload_n 0, 1) := by decide +kernel
theorem dX3_mustHaveNoPayments_1 : decode cX3_mustHaveNoPayments 1 = .ok (.getfield 26, 3) := by decide +kernel
theorem dX3_mustHaveNoPayments_4 : decode cX3_mustHaveNoPayments 4 = .ok (.getfield 198, 3) := by decide +kernel
theorem dX3_mustHaveNoPayments_7 : decode cX3_mustHaveNoPayments 7 = .ok (.ifCond .le 13, 3) := by decide +kernel
theorem dX3_mustHaveNoPayments_10 : decode cX3_mustHaveNoPayments 10 = .ok (.new 103, 3) := by decide +kernel
theorem dX3_mustHaveNoPayments_13 : decode cX3_mustHaveNoPayments 13 = .ok (.dup, 1) := by decide +kernel
theorem dX3_mustHaveNoPayments_14 : decode cX3_mustHaveNoPayments 14 = .ok (.ldc 214, 2) := by decide +kernel
theorem dX3_mustHaveNoPayments_16 : decode cX3_mustHaveNoPayments 16 = .ok (.invokespecial 107, 3) := by decide +kernel
theorem dX3_mustHaveNoPayments_19 : decode cX3_mustHaveNoPayments 19 = .ok (.athrow, 1) := by decide +kernel
theorem dX3_mustHaveNoPayments_20 : decode cX3_mustHaveNoPayments 20 = .ok (.return_, 1) := by decide +kernel
set_option maxRecDepth 20000 in
theorem ggX3_shareFor_X3_mustBeClaim : GoodIn wsX3_shareFor wsX3_mustBeClaim := goodIn_ca (goodIn_r _ [6, 7, 8, 9, 10, 11, 12, 13, 14, 15, 153, 154, 155, 156, 157, 158, 159, 160, 161, 162, 163, 164, 165, 166, 167] (by decide +kernel) (by decide +kernel)) (goodIn_sub (fun _ h => List.mem_cons_of_mem _ (List.mem_append_left _ (List.mem_append_right _ h))) (by decide +kernel))
set_option maxRecDepth 20000 in
theorem gX3_shareFor_X3_mustBeClaim : GoodIn wsX3_shareFor (wsV RX3 112 RX3 yX3_mustBeClaim wsX3_mustBeClaim) := goodIn_app (goodIn_of _ (by decide +kernel)) ggX3_shareFor_X3_mustBeClaim
set_option maxRecDepth 20000 in
theorem ggX3_shareFor_X3_mustBeLeast : GoodIn wsX3_shareFor wsX3_mustBeLeast := goodIn_ca (goodIn_r _ [19, 20, 21, 22, 23, 24, 5, 25] (by decide +kernel) (by decide +kernel)) (goodIn_sub (fun _ h => List.mem_cons_of_mem _ (List.mem_append_right _ h)) (by decide +kernel))
set_option maxRecDepth 20000 in
theorem gX3_shareFor_X3_mustBeLeast : GoodIn wsX3_shareFor (wsV RX3 137 RX3 yX3_mustBeLeast wsX3_mustBeLeast) := goodIn_app (goodIn_of _ (by decide +kernel)) ggX3_shareFor_X3_mustBeLeast
set_option maxRecDepth 20000 in
theorem ggX3_shareFor_X3_shareMoneyLeft : GoodIn wsX3_shareFor wsX3_shareMoneyLeft := goodIn_ca (goodIn_r _ [29, 1, 9, 30, 31, 32, 33, 34, 35, 36, 37, 38, 39, 40, 41, 5, 42, 43, 44, 45, 46, 47, 48, 49, 50, 51, 52, 53, 54, 55, 56, 57, 58, 59, 60, 61, 62, 63, 64, 65, 66, 67, 68, 69, 2, 3, 4, 6, 7, 8, 10, 11, 12, 13, 14, 15, 70, 71, 72, 73, 74, 75, 76, 77, 78, 79, 80, 81, 82, 83, 84, 85, 86, 87, 88, 89, 90, 91, 92, 93, 94, 95, 96, 97, 98, 99, 100, 101, 102, 103, 104, 105, 106, 107, 108, 109, 110, 111, 112, 113, 114, 115, 116, 117, 118, 119, 120, 121, 122, 123, 124, 125, 126, 127, 128, 129, 130, 131, 132, 133, 134, 135, 136, 137, 138, 139, 140, 141, 142, 143, 144, 145, 146, 147, 148, 153, 154, 155, 156, 157, 158, 159, 160, 161, 162, 163, 164, 165, 166, 167, 168, 169, 170, 171, 172, 173, 174, 175, 176, 177, 178, 179, 180] (by decide +kernel) (by decide +kernel)) (goodIn_sub (fun _ h => List.mem_cons_of_mem _ (List.mem_append_left _ (List.mem_append_right _ h))) (by decide +kernel))
set_option maxRecDepth 20000 in
theorem gX3_shareFor_X3_shareMoneyLeft : GoodIn wsX3_shareFor (wsV RX3 149 RX3 yX3_shareMoneyLeft wsX3_shareMoneyLeft) := goodIn_app (goodIn_of _ (by decide +kernel)) ggX3_shareFor_X3_shareMoneyLeft
set_option maxRecDepth 20000 in
theorem ggX3_shareFor_X2_shareGivenTo : GoodIn wsX3_shareFor wsX2_shareGivenTo := goodIn_r _ [152, 38, 86, 93, 168, 169, 170, 171, 172, 173, 174, 175] (by decide +kernel) (by decide +kernel)
set_option maxRecDepth 20000 in
theorem gX3_shareFor_X2_shareGivenTo : GoodIn wsX3_shareFor (wsV RX3 216 RX2 yX2_shareGivenTo wsX2_shareGivenTo) := goodIn_app (goodIn_of _ (by decide +kernel)) ggX3_shareFor_X2_shareGivenTo
theorem dX3_shareFor_0 : decode cX3_shareFor 0 = .ok (.aload_n 0, 1) := by decide +kernel
theorem dX3_shareFor_1 : decode cX3_shareFor 1 = .ok (.iload_n 1, 1) := by decide +kernel
theorem dX3_shareFor_2 : decode cX3_shareFor 2 = .ok (.invokevirtual 112, 3) := by decide +kernel
theorem dX3_shareFor_5 : decode cX3_shareFor 5 = .ok (.aload_n 0, 1) := by decide +kernel
theorem dX3_shareFor_6 : decode cX3_shareFor 6 = .ok (.iload_n 2, 1) := by decide +kernel
theorem dX3_shareFor_7 : decode cX3_shareFor 7 = .ok (.invokevirtual 137, 3) := by decide +kernel
theorem dX3_shareFor_10 : decode cX3_shareFor 10 = .ok (.aload_n 0, 1) := by decide +kernel
theorem dX3_shareFor_11 : decode cX3_shareFor 11 = .ok (.iload_n 2, 1) := by decide +kernel
theorem dX3_shareFor_12 : decode cX3_shareFor 12 = .ok (.iload_n 3, 1) := by decide +kernel
theorem dX3_shareFor_13 : decode cX3_shareFor 13 = .ok (.invokevirtual 149, 3) := by decide +kernel
theorem dX3_shareFor_16 : decode cX3_shareFor 16 = .ok (.aload_n 0, 1) := by decide +kernel
theorem dX3_shareFor_17 : decode cX3_shareFor 17 = .ok (.getfield 33, 3) := by decide +kernel
theorem dX3_shareFor_20 : decode cX3_shareFor 20 = .ok (.iload_n 1, 1) := by decide +kernel
theorem dX3_shareFor_21 : decode cX3_shareFor 21 = .ok (.invokevirtual 216, 3) := by decide +kernel
theorem dX3_shareFor_24 : decode cX3_shareFor 24 = .ok (.ireturn, 1) := by decide +kernel
set_option maxRecDepth 20000 in
theorem ggX3_shareMoneyLeft_X2_clear : GoodIn wsX3_shareMoneyLeft wsX2_clear := goodIn_r _ [10, 11, 150, 151, 152, 153, 154, 155, 156, 157] (by decide +kernel) (by decide +kernel)
set_option maxRecDepth 20000 in
theorem gX3_shareMoneyLeft_X2_clear : GoodIn wsX3_shareMoneyLeft (wsV RX3 219 RX2 yX2_clear wsX2_clear) := goodIn_app (goodIn_of _ (by decide +kernel)) ggX3_shareMoneyLeft_X2_clear
set_option maxRecDepth 20000 in
theorem ggX3_shareMoneyLeft_X3_moneyLeft : GoodIn wsX3_shareMoneyLeft wsX3_moneyLeft := goodIn_r _ [16, 17, 18, 19, 20, 21, 22, 15, 23, 24, 25, 26, 27, 28, 29, 30, 31, 32, 33, 135, 136, 137, 138, 139, 140, 141, 142, 143, 158, 159, 160, 161, 162] (by decide +kernel) (by decide +kernel)
set_option maxRecDepth 20000 in
theorem gX3_shareMoneyLeft_X3_moneyLeft : GoodIn wsX3_shareMoneyLeft (wsV RX3 63 RX3 yX3_moneyLeft wsX3_moneyLeft) := goodIn_app (goodIn_of _ (by decide +kernel)) ggX3_shareMoneyLeft_X3_moneyLeft
set_option maxRecDepth 20000 in
theorem ggX3_shareMoneyLeft_X3_takesPart : GoodIn wsX3_shareMoneyLeft wsX3_takesPart := goodIn_ca (goodIn_r _ [37, 2, 38, 19, 39, 40, 41, 15, 42, 43, 5, 44, 45, 46, 47, 48, 49, 50, 51, 52, 53, 54, 55, 56, 57, 58, 59, 60, 61, 29, 62, 31, 63, 32, 33, 64, 65, 66, 67, 135, 136, 137, 138, 139, 140, 141, 142, 143, 144, 145, 146, 147, 148, 149, 158, 159, 160, 161, 162] (by decide +kernel) (by decide +kernel)) (goodIn_sub (fun _ h => List.mem_cons_of_mem _ (List.mem_append_right _ h)) (by decide +kernel))
set_option maxRecDepth 20000 in
theorem gX3_shareMoneyLeft_X3_takesPart : GoodIn wsX3_shareMoneyLeft (wsV RX3 222 RX3 yX3_takesPart wsX3_takesPart) := goodIn_app (goodIn_of _ (by decide +kernel)) ggX3_shareMoneyLeft_X3_takesPart
set_option maxRecDepth 20000 in
theorem ggX3_shareMoneyLeft_X3_valueAt : GoodIn wsX3_shareMoneyLeft wsX3_valueAt := goodIn_r _ [58] (by decide +kernel) (by decide +kernel)
set_option maxRecDepth 20000 in
theorem gX3_shareMoneyLeft_X3_valueAt : GoodIn wsX3_shareMoneyLeft (va_wsS RX3 181 yX3_valueAt wsX3_valueAt) := goodIn_app (goodIn_of _ (by decide +kernel)) ggX3_shareMoneyLeft_X3_valueAt
set_option maxRecDepth 20000 in
theorem ggX3_shareMoneyLeft_X3_room : GoodIn wsX3_shareMoneyLeft wsX3_room := goodIn_ca (goodIn_r _ [42, 43, 2, 5, 19, 44, 45, 46, 15, 47, 48, 49, 50, 51, 52, 53, 54, 55, 56, 57, 58, 59, 60, 61, 29, 62, 31, 63, 32, 33, 135, 136, 137, 138, 139, 140, 141, 142, 143, 144, 145, 146, 147, 148, 149, 158, 159, 160, 161, 162] (by decide +kernel) (by decide +kernel)) (goodIn_sub (fun _ h => List.mem_cons_of_mem _ (List.mem_append_right _ h)) (by decide +kernel))
set_option maxRecDepth 20000 in
theorem gX3_shareMoneyLeft_X3_room : GoodIn wsX3_shareMoneyLeft (wsV RX3 225 RX3 yX3_room wsX3_room) := goodIn_app (goodIn_of _ (by decide +kernel)) ggX3_shareMoneyLeft_X3_room
set_option maxRecDepth 20000 in
theorem ggX3_shareMoneyLeft_X2_add : GoodIn wsX3_shareMoneyLeft wsX2_add := goodIn_r _ [71, 11, 72, 73, 74, 150, 151, 152, 153, 154, 155, 156, 157] (by decide +kernel) (by decide +kernel)
set_option maxRecDepth 20000 in
theorem gX3_shareMoneyLeft_X2_add : GoodIn wsX3_shareMoneyLeft (wsV RX3 228 RX2 yX2_add wsX2_add) := goodIn_app (goodIn_of _ (by decide +kernel)) ggX3_shareMoneyLeft_X2_add
set_option maxRecDepth 20000 in
theorem ggX3_shareMoneyLeft_X2_shareOut : GoodIn wsX3_shareMoneyLeft wsX2_shareOut := goodIn_r _ [78, 11, 79, 80, 81, 82, 9, 83, 84, 85, 86, 87, 74, 73, 88, 89, 90, 91, 72, 92, 93, 94, 95, 96, 97, 98, 99, 100, 101, 102, 103, 104, 105, 106, 107, 108, 109, 110, 111, 112, 113, 114, 115, 116, 117, 118, 119, 120, 121, 122, 123, 124, 125, 126, 127, 128, 129, 130, 131, 132, 133, 134, 150, 151, 152, 153, 154, 155, 156, 157] (by decide +kernel) (by decide +kernel)
set_option maxRecDepth 20000 in
theorem gX3_shareMoneyLeft_X2_shareOut : GoodIn wsX3_shareMoneyLeft (wsV RX3 232 RX2 yX2_shareOut wsX2_shareOut) := goodIn_app (goodIn_of _ (by decide +kernel)) ggX3_shareMoneyLeft_X2_shareOut
theorem dX3_shareMoneyLeft_0 : decode cX3_shareMoneyLeft 0 = .ok (.aload_n 0, 1) := by decide +kernel
theorem dX3_shareMoneyLeft_1 : decode cX3_shareMoneyLeft 1 = .ok (.getfield 33, 3) := by decide +kernel
theorem dX3_shareMoneyLeft_4 : decode cX3_shareMoneyLeft 4 = .ok (.invokevirtual 219, 3) := by decide +kernel
theorem dX3_shareMoneyLeft_7 : decode cX3_shareMoneyLeft 7 = .ok (.aload_n 0, 1) := by decide +kernel
theorem dX3_shareMoneyLeft_8 : decode cX3_shareMoneyLeft 8 = .ok (.invokevirtual 63, 3) := by decide +kernel
theorem dX3_shareMoneyLeft_11 : decode cX3_shareMoneyLeft 11 = .ok (.istore_n 3, 1) := by decide +kernel
theorem dX3_shareMoneyLeft_12 : decode cX3_shareMoneyLeft 12 = .ok (.iload_n 3, 1) := by decide +kernel
theorem dX3_shareMoneyLeft_13 : decode cX3_shareMoneyLeft 13 = .ok (.iconst 1, 1) := by decide +kernel
theorem dX3_shareMoneyLeft_14 : decode cX3_shareMoneyLeft 14 = .ok (.if_icmp .ge 4, 3) := by decide +kernel
theorem dX3_shareMoneyLeft_17 : decode cX3_shareMoneyLeft 17 = .ok (.return_, 1) := by decide +kernel
theorem dX3_shareMoneyLeft_18 : decode cX3_shareMoneyLeft 18 = .ok (.iconst 0, 1) := by decide +kernel
theorem dX3_shareMoneyLeft_19 : decode cX3_shareMoneyLeft 19 = .ok (.istore 4, 2) := by decide +kernel
theorem dX3_shareMoneyLeft_21 : decode cX3_shareMoneyLeft 21 = .ok (.iload 4, 2) := by decide +kernel
theorem dX3_shareMoneyLeft_23 : decode cX3_shareMoneyLeft 23 = .ok (.aload_n 0, 1) := by decide +kernel
theorem dX3_shareMoneyLeft_24 : decode cX3_shareMoneyLeft 24 = .ok (.getfield 19, 3) := by decide +kernel
theorem dX3_shareMoneyLeft_27 : decode cX3_shareMoneyLeft 27 = .ok (.getfield 173, 3) := by decide +kernel
theorem dX3_shareMoneyLeft_30 : decode cX3_shareMoneyLeft 30 = .ok (.if_icmp .ge 50, 3) := by decide +kernel
theorem dX3_shareMoneyLeft_33 : decode cX3_shareMoneyLeft 33 = .ok (.aload_n 0, 1) := by decide +kernel
theorem dX3_shareMoneyLeft_34 : decode cX3_shareMoneyLeft 34 = .ok (.iload 4, 2) := by decide +kernel
theorem dX3_shareMoneyLeft_36 : decode cX3_shareMoneyLeft 36 = .ok (.invokevirtual 222, 3) := by decide +kernel
theorem dX3_shareMoneyLeft_39 : decode cX3_shareMoneyLeft 39 = .ok (.ifCond .eq 35, 3) := by decide +kernel
theorem dX3_shareMoneyLeft_42 : decode cX3_shareMoneyLeft 42 = .ok (.aload_n 0, 1) := by decide +kernel
theorem dX3_shareMoneyLeft_43 : decode cX3_shareMoneyLeft 43 = .ok (.getfield 33, 3) := by decide +kernel
theorem dX3_shareMoneyLeft_46 : decode cX3_shareMoneyLeft 46 = .ok (.iload 4, 2) := by decide +kernel
theorem dX3_shareMoneyLeft_48 : decode cX3_shareMoneyLeft 48 = .ok (.aload_n 0, 1) := by decide +kernel
theorem dX3_shareMoneyLeft_49 : decode cX3_shareMoneyLeft 49 = .ok (.getfield 9, 3) := by decide +kernel
theorem dX3_shareMoneyLeft_52 : decode cX3_shareMoneyLeft 52 = .ok (.aload_n 0, 1) := by decide +kernel
theorem dX3_shareMoneyLeft_53 : decode cX3_shareMoneyLeft 53 = .ok (.getfield 19, 3) := by decide +kernel
theorem dX3_shareMoneyLeft_56 : decode cX3_shareMoneyLeft 56 = .ok (.getfield 178, 3) := by decide +kernel
theorem dX3_shareMoneyLeft_59 : decode cX3_shareMoneyLeft 59 = .ok (.iload 4, 2) := by decide +kernel
theorem dX3_shareMoneyLeft_61 : decode cX3_shareMoneyLeft 61 = .ok (.iaload, 1) := by decide +kernel
theorem dX3_shareMoneyLeft_62 : decode cX3_shareMoneyLeft 62 = .ok (.invokestatic 181, 3) := by decide +kernel
theorem dX3_shareMoneyLeft_65 : decode cX3_shareMoneyLeft 65 = .ok (.aload_n 0, 1) := by decide +kernel
theorem dX3_shareMoneyLeft_66 : decode cX3_shareMoneyLeft 66 = .ok (.iload 4, 2) := by decide +kernel
theorem dX3_shareMoneyLeft_68 : decode cX3_shareMoneyLeft 68 = .ok (.invokevirtual 225, 3) := by decide +kernel
theorem dX3_shareMoneyLeft_71 : decode cX3_shareMoneyLeft 71 = .ok (.invokevirtual 228, 3) := by decide +kernel
theorem dX3_shareMoneyLeft_74 : decode cX3_shareMoneyLeft 74 = .ok (.iinc 4 1, 3) := by decide +kernel
theorem dX3_shareMoneyLeft_77 : decode cX3_shareMoneyLeft 77 = .ok (.goto (-56), 3) := by decide +kernel
theorem dX3_shareMoneyLeft_80 : decode cX3_shareMoneyLeft 80 = .ok (.aload_n 0, 1) := by decide +kernel
theorem dX3_shareMoneyLeft_81 : decode cX3_shareMoneyLeft 81 = .ok (.getfield 33, 3) := by decide +kernel
theorem dX3_shareMoneyLeft_84 : decode cX3_shareMoneyLeft 84 = .ok (.iload_n 3, 1) := by decide +kernel
theorem dX3_shareMoneyLeft_85 : decode cX3_shareMoneyLeft 85 = .ok (.iload_n 1, 1) := by decide +kernel
theorem dX3_shareMoneyLeft_86 : decode cX3_shareMoneyLeft 86 = .ok (.iload_n 2, 1) := by decide +kernel
theorem dX3_shareMoneyLeft_87 : decode cX3_shareMoneyLeft 87 = .ok (.invokevirtual 232, 3) := by decide +kernel
theorem dX3_shareMoneyLeft_90 : decode cX3_shareMoneyLeft 90 = .ok (.return_, 1) := by decide +kernel
set_option maxRecDepth 20000 in
theorem ggX3_takesPart_X3_room : GoodIn wsX3_takesPart wsX3_room := goodIn_ca (goodIn_r _ [8, 9, 1, 10, 3, 11, 12, 13, 7, 14, 15, 16, 17, 18, 19, 20, 21, 22, 23, 24, 25, 26, 27, 28, 29, 30, 31, 32, 33, 34, 39, 40, 41, 42, 43, 44, 45, 46, 47, 48, 49, 50, 51, 52, 53, 54, 55, 56, 57, 58] (by decide +kernel) (by decide +kernel)) (goodIn_sub (fun _ h => List.mem_cons_of_mem _ (List.mem_append_right _ h)) (by decide +kernel))
set_option maxRecDepth 20000 in
theorem gX3_takesPart_X3_room : GoodIn wsX3_takesPart (wsV RX3 225 RX3 yX3_room wsX3_room) := goodIn_app (goodIn_of _ (by decide +kernel)) ggX3_takesPart_X3_room
set_option maxRecDepth 20000 in
theorem ggX3_takesPart_X1_hasVoidFor : GoodIn wsX3_takesPart wsX1_hasVoidFor := goodIn_r _ [38, 31, 32, 33, 54, 55, 56, 57, 58] (by decide +kernel) (by decide +kernel)
set_option maxRecDepth 20000 in
theorem gX3_takesPart_X1_hasVoidFor : GoodIn wsX3_takesPart (wsV RX3 235 RX1 yX1_hasVoidFor wsX1_hasVoidFor) := goodIn_app (goodIn_of _ (by decide +kernel)) ggX3_takesPart_X1_hasVoidFor
theorem dX3_takesPart_0 : decode cX3_takesPart 0 = .ok (.aload_n 0, 1) := by decide +kernel
theorem dX3_takesPart_1 : decode cX3_takesPart 1 = .ok (.getfield 19, 3) := by decide +kernel
theorem dX3_takesPart_4 : decode cX3_takesPart 4 = .ok (.getfield 115, 3) := by decide +kernel
theorem dX3_takesPart_7 : decode cX3_takesPart 7 = .ok (.iload_n 1, 1) := by decide +kernel
theorem dX3_takesPart_8 : decode cX3_takesPart 8 = .ok (.iaload, 1) := by decide +kernel
theorem dX3_takesPart_9 : decode cX3_takesPart 9 = .ok (.ifCond .ne 26, 3) := by decide +kernel
theorem dX3_takesPart_12 : decode cX3_takesPart 12 = .ok (.aload_n 0, 1) := by decide +kernel
theorem dX3_takesPart_13 : decode cX3_takesPart 13 = .ok (.iload_n 1, 1) := by decide +kernel
theorem dX3_takesPart_14 : decode cX3_takesPart 14 = .ok (.invokevirtual 225, 3) := by decide +kernel
theorem dX3_takesPart_17 : decode cX3_takesPart 17 = .ok (.ifCond .le 18, 3) := by decide +kernel
theorem dX3_takesPart_20 : decode cX3_takesPart 20 = .ok (.aload_n 0, 1) := by decide +kernel
theorem dX3_takesPart_21 : decode cX3_takesPart 21 = .ok (.getfield 26, 3) := by decide +kernel
theorem dX3_takesPart_24 : decode cX3_takesPart 24 = .ok (.iload_n 1, 1) := by decide +kernel
theorem dX3_takesPart_25 : decode cX3_takesPart 25 = .ok (.invokevirtual 235, 3) := by decide +kernel
theorem dX3_takesPart_28 : decode cX3_takesPart 28 = .ok (.ifCond .ne 7, 3) := by decide +kernel
theorem dX3_takesPart_31 : decode cX3_takesPart 31 = .ok (.iconst 1, 1) := by decide +kernel
theorem dX3_takesPart_32 : decode cX3_takesPart 32 = .ok (.goto 4, 3) := by decide +kernel
theorem dX3_takesPart_35 : decode cX3_takesPart 35 = .ok (.iconst 0, 1) := by decide +kernel
theorem dX3_takesPart_36 : decode cX3_takesPart 36 = .ok (.ireturn, 1) := by decide +kernel
set_option maxRecDepth 20000 in
theorem ggX3_makePayments_X2_shareGivenTo : GoodIn wsX3_makePayments wsX2_shareGivenTo := goodIn_r _ [10, 11, 12, 13, 43, 44, 45, 46, 47, 48, 49, 50] (by decide +kernel) (by decide +kernel)
set_option maxRecDepth 20000 in
theorem gX3_makePayments_X2_shareGivenTo : GoodIn wsX3_makePayments (wsV RX3 216 RX2 yX2_shareGivenTo wsX2_shareGivenTo) := goodIn_app (goodIn_of _ (by decide +kernel)) ggX3_makePayments_X2_shareGivenTo
set_option maxRecDepth 20000 in
theorem ggX3_makePayments_X1_add : GoodIn wsX3_makePayments wsX1_add := goodIn_r _ [18, 19, 20, 21, 22, 23, 24, 25, 26, 17, 27, 51, 52, 53, 54, 55] (by decide +kernel) (by decide +kernel)
set_option maxRecDepth 20000 in
theorem gX3_makePayments_X1_add : GoodIn wsX3_makePayments (wsV RX3 238 RX1 yX1_add wsX1_add) := goodIn_app (goodIn_of _ (by decide +kernel)) ggX3_makePayments_X1_add
theorem dX3_makePayments_0 : decode cX3_makePayments 0 = .ok (.iconst 0, 1) := by decide +kernel
theorem dX3_makePayments_1 : decode cX3_makePayments 1 = .ok (.istore_n 1, 1) := by decide +kernel
theorem dX3_makePayments_2 : decode cX3_makePayments 2 = .ok (.iload_n 1, 1) := by decide +kernel
theorem dX3_makePayments_3 : decode cX3_makePayments 3 = .ok (.aload_n 0, 1) := by decide +kernel
theorem dX3_makePayments_4 : decode cX3_makePayments 4 = .ok (.getfield 19, 3) := by decide +kernel
theorem dX3_makePayments_7 : decode cX3_makePayments 7 = .ok (.getfield 173, 3) := by decide +kernel
theorem dX3_makePayments_10 : decode cX3_makePayments 10 = .ok (.if_icmp .ge 35, 3) := by decide +kernel
theorem dX3_makePayments_13 : decode cX3_makePayments 13 = .ok (.aload_n 0, 1) := by decide +kernel
theorem dX3_makePayments_14 : decode cX3_makePayments 14 = .ok (.getfield 33, 3) := by decide +kernel
theorem dX3_makePayments_17 : decode cX3_makePayments 17 = .ok (.iload_n 1, 1) := by decide +kernel
theorem dX3_makePayments_18 : decode cX3_makePayments 18 = .ok (.invokevirtual 216, 3) := by decide +kernel
theorem dX3_makePayments_21 : decode cX3_makePayments 21 = .ok (.istore_n 2, 1) := by decide +kernel
theorem dX3_makePayments_22 : decode cX3_makePayments 22 = .ok (.iload_n 2, 1) := by decide +kernel
theorem dX3_makePayments_23 : decode cX3_makePayments 23 = .ok (.ifCond .le 16, 3) := by decide +kernel
theorem dX3_makePayments_26 : decode cX3_makePayments 26 = .ok (.aload_n 0, 1) := by decide +kernel
theorem dX3_makePayments_27 : decode cX3_makePayments 27 = .ok (.getfield 26, 3) := by decide +kernel
theorem dX3_makePayments_30 : decode cX3_makePayments 30 = .ok (.iload_n 1, 1) := by decide +kernel
theorem dX3_makePayments_31 : decode cX3_makePayments 31 = .ok (.iload_n 2, 1) := by decide +kernel
theorem dX3_makePayments_32 : decode cX3_makePayments 32 = .ok (.aload_n 0, 1) := by decide +kernel
theorem dX3_makePayments_33 : decode cX3_makePayments 33 = .ok (.getfield 76, 3) := by decide +kernel
theorem dX3_makePayments_36 : decode cX3_makePayments 36 = .ok (.invokevirtual 238, 3) := by decide +kernel
theorem dX3_makePayments_39 : decode cX3_makePayments 39 = .ok (.iinc 1 1, 3) := by decide +kernel
theorem dX3_makePayments_42 : decode cX3_makePayments 42 = .ok (.goto (-40), 3) := by decide +kernel
theorem dX3_makePayments_45 : decode cX3_makePayments 45 = .ok (.return_, 1) := by decide +kernel
