theorem dX0_init_0 : decode cX0_init 0 = .ok (.aload_n 0, 1) := by decide +kernel
theorem dX0_init_1 : decode cX0_init 1 = .ok (.invokespecial 3, 3) := by decide +kernel
theorem dX0_init_4 : decode cX0_init 4 = .ok (.aload_n 0, 1) := by decide +kernel
theorem dX0_init_5 : decode cX0_init 5 = .ok (.bipush 30, 2) := by decide +kernel
theorem dX0_init_7 : decode cX0_init 7 = .ok (.newarray .int, 2) := by decide +kernel
theorem dX0_init_9 : decode cX0_init 9 = .ok (.putfield 9, 3) := by decide +kernel
theorem dX0_init_12 : decode cX0_init 12 = .ok (.aload_n 0, 1) := by decide +kernel
theorem dX0_init_13 : decode cX0_init 13 = .ok (.bipush 24, 2) := by decide +kernel
theorem dX0_init_15 : decode cX0_init 15 = .ok (.newarray .int, 2) := by decide +kernel
theorem dX0_init_17 : decode cX0_init 17 = .ok (.putfield 15, 3) := by decide +kernel
theorem dX0_init_20 : decode cX0_init 20 = .ok (.aload_n 0, 1) := by decide +kernel
theorem dX0_init_21 : decode cX0_init 21 = .ok (.bipush 24, 2) := by decide +kernel
theorem dX0_init_23 : decode cX0_init 23 = .ok (.newarray .int, 2) := by decide +kernel
theorem dX0_init_25 : decode cX0_init 25 = .ok (.putfield 18, 3) := by decide +kernel
theorem dX0_init_28 : decode cX0_init 28 = .ok (.aload_n 0, 1) := by decide +kernel
theorem dX0_init_29 : decode cX0_init 29 = .ok (.bipush 24, 2) := by decide +kernel
theorem dX0_init_31 : decode cX0_init 31 = .ok (.newarray .int, 2) := by decide +kernel
theorem dX0_init_33 : decode cX0_init 33 = .ok (.putfield 21, 3) := by decide +kernel
theorem dX0_init_36 : decode cX0_init 36 = .ok (.aload_n 0, 1) := by decide +kernel
theorem dX0_init_37 : decode cX0_init 37 = .ok (.bipush 24, 2) := by decide +kernel
theorem dX0_init_39 : decode cX0_init 39 = .ok (.newarray .boolean, 2) := by decide +kernel
theorem dX0_init_41 : decode cX0_init 41 = .ok (.putfield 24, 3) := by decide +kernel
theorem dX0_init_44 : decode cX0_init 44 = .ok (.iconst 0, 1) := by decide +kernel
theorem dX0_init_45 : decode cX0_init 45 = .ok (.istore_n 1, 1) := by decide +kernel
theorem dX0_init_46 : decode cX0_init 46 = .ok (.iload_n 1, 1) := by decide +kernel
theorem dX0_init_47 : decode cX0_init 47 = .ok (.bipush 30, 2) := by decide +kernel
theorem dX0_init_49 : decode cX0_init 49 = .ok (.if_icmp .ge 16, 3) := by decide +kernel
theorem dX0_init_52 : decode cX0_init 52 = .ok (.aload_n 0, 1) := by decide +kernel
theorem dX0_init_53 : decode cX0_init 53 = .ok (.getfield 9, 3) := by decide +kernel
theorem dX0_init_56 : decode cX0_init 56 = .ok (.iload_n 1, 1) := by decide +kernel
theorem dX0_init_57 : decode cX0_init 57 = .ok (.iconst (-1), 1) := by decide +kernel
theorem dX0_init_58 : decode cX0_init 58 = .ok (.iastore, 1) := by decide +kernel
theorem dX0_init_59 : decode cX0_init 59 = .ok (.iinc 1 1, 3) := by decide +kernel
theorem dX0_init_62 : decode cX0_init 62 = .ok (.goto (-16), 3) := by decide +kernel
theorem dX0_init_65 : decode cX0_init 65 = .ok (.return_, 1) := by decide +kernel
theorem dX0_has_0 : decode cX0_has 0 = .ok (.iload_n 1, 1) := by decide +kernel
theorem dX0_has_1 : decode cX0_has 1 = .ok (.ifCond .lt 15, 3) := by decide +kernel
theorem dX0_has_4 : decode cX0_has 4 = .ok (.iload_n 1, 1) := by decide +kernel
theorem dX0_has_5 : decode cX0_has 5 = .ok (.aload_n 0, 1) := by decide +kernel
theorem dX0_has_6 : decode cX0_has 6 = .ok (.getfield 28, 3) := by decide +kernel
theorem dX0_has_9 : decode cX0_has 9 = .ok (.if_icmp .ge 7, 3) := by decide +kernel
theorem dX0_has_12 : decode cX0_has 12 = .ok (.iconst 1, 1) := by decide +kernel
theorem dX0_has_13 : decode cX0_has 13 = .ok (.goto 4, 3) := by decide +kernel
theorem dX0_has_16 : decode cX0_has 16 = .ok (.iconst 0, 1) := by decide +kernel
theorem dX0_has_17 : decode cX0_has 17 = .ok (.ireturn, 1) := by decide +kernel
theorem dX0_tally_0 : decode cX0_tally 0 = .ok (.iconst 0, 1) := by decide +kernel
theorem dX0_tally_1 : decode cX0_tally 1 = .ok (.istore_n 2, 1) := by decide +kernel
theorem dX0_tally_2 : decode cX0_tally 2 = .ok (.iconst 0, 1) := by decide +kernel
theorem dX0_tally_3 : decode cX0_tally 3 = .ok (.istore_n 3, 1) := by decide +kernel
theorem dX0_tally_4 : decode cX0_tally 4 = .ok (.iload_n 3, 1) := by decide +kernel
theorem dX0_tally_5 : decode cX0_tally 5 = .ok (.aload_n 0, 1) := by decide +kernel
theorem dX0_tally_6 : decode cX0_tally 6 = .ok (.getfield 28, 3) := by decide +kernel
theorem dX0_tally_9 : decode cX0_tally 9 = .ok (.if_icmp .ge 22, 3) := by decide +kernel
theorem dX0_tally_12 : decode cX0_tally 12 = .ok (.aload_n 0, 1) := by decide +kernel
theorem dX0_tally_13 : decode cX0_tally 13 = .ok (.getfield 18, 3) := by decide +kernel
theorem dX0_tally_16 : decode cX0_tally 16 = .ok (.iload_n 3, 1) := by decide +kernel
theorem dX0_tally_17 : decode cX0_tally 17 = .ok (.iaload, 1) := by decide +kernel
theorem dX0_tally_18 : decode cX0_tally 18 = .ok (.iload_n 1, 1) := by decide +kernel
theorem dX0_tally_19 : decode cX0_tally 19 = .ok (.if_icmp .ne 6, 3) := by decide +kernel
theorem dX0_tally_22 : decode cX0_tally 22 = .ok (.iinc 2 1, 3) := by decide +kernel
theorem dX0_tally_25 : decode cX0_tally 25 = .ok (.iinc 3 1, 3) := by decide +kernel
theorem dX0_tally_28 : decode cX0_tally 28 = .ok (.goto (-24), 3) := by decide +kernel
theorem dX0_tally_31 : decode cX0_tally 31 = .ok (.iload_n 2, 1) := by decide +kernel
theorem dX0_tally_32 : decode cX0_tally 32 = .ok (.ireturn, 1) := by decide +kernel
theorem dX1_init_0 : decode cX1_init 0 = .ok (.aload_n 0, 1) := by decide +kernel
theorem dX1_init_1 : decode cX1_init 1 = .ok (.invokespecial 3, 3) := by decide +kernel
theorem dX1_init_4 : decode cX1_init 4 = .ok (.aload_n 0, 1) := by decide +kernel
theorem dX1_init_5 : decode cX1_init 5 = .ok (.bipush 100, 2) := by decide +kernel
theorem dX1_init_7 : decode cX1_init 7 = .ok (.newarray .int, 2) := by decide +kernel
theorem dX1_init_9 : decode cX1_init 9 = .ok (.putfield 9, 3) := by decide +kernel
theorem dX1_init_12 : decode cX1_init 12 = .ok (.aload_n 0, 1) := by decide +kernel
theorem dX1_init_13 : decode cX1_init 13 = .ok (.bipush 100, 2) := by decide +kernel
theorem dX1_init_15 : decode cX1_init 15 = .ok (.newarray .int, 2) := by decide +kernel
theorem dX1_init_17 : decode cX1_init 17 = .ok (.putfield 15, 3) := by decide +kernel
theorem dX1_init_20 : decode cX1_init 20 = .ok (.aload_n 0, 1) := by decide +kernel
theorem dX1_init_21 : decode cX1_init 21 = .ok (.bipush 100, 2) := by decide +kernel
theorem dX1_init_23 : decode cX1_init 23 = .ok (.newarray .int, 2) := by decide +kernel
theorem dX1_init_25 : decode cX1_init 25 = .ok (.putfield 18, 3) := by decide +kernel
theorem dX1_init_28 : decode cX1_init 28 = .ok (.aload_n 0, 1) := by decide +kernel
theorem dX1_init_29 : decode cX1_init 29 = .ok (.bipush 100, 2) := by decide +kernel
theorem dX1_init_31 : decode cX1_init 31 = .ok (.newarray .int, 2) := by decide +kernel
theorem dX1_init_33 : decode cX1_init 33 = .ok (.putfield 21, 3) := by decide +kernel
theorem dX1_init_36 : decode cX1_init 36 = .ok (.return_, 1) := by decide +kernel
theorem dX1_has_0 : decode cX1_has 0 = .ok (.iload_n 1, 1) := by decide +kernel
theorem dX1_has_1 : decode cX1_has 1 = .ok (.ifCond .lt 15, 3) := by decide +kernel
theorem dX1_has_4 : decode cX1_has 4 = .ok (.iload_n 1, 1) := by decide +kernel
theorem dX1_has_5 : decode cX1_has 5 = .ok (.aload_n 0, 1) := by decide +kernel
theorem dX1_has_6 : decode cX1_has 6 = .ok (.getfield 24, 3) := by decide +kernel
theorem dX1_has_9 : decode cX1_has 9 = .ok (.if_icmp .ge 7, 3) := by decide +kernel
theorem dX1_has_12 : decode cX1_has 12 = .ok (.iconst 1, 1) := by decide +kernel
theorem dX1_has_13 : decode cX1_has 13 = .ok (.goto 4, 3) := by decide +kernel
theorem dX1_has_16 : decode cX1_has 16 = .ok (.iconst 0, 1) := by decide +kernel
theorem dX1_has_17 : decode cX1_has 17 = .ok (.ireturn, 1) := by decide +kernel
theorem dX1_sumOfAll_0 : decode cX1_sumOfAll 0 = .ok (.iconst 0, 1) := by decide +kernel
theorem dX1_sumOfAll_1 : decode cX1_sumOfAll 1 = .ok (.istore_n 1, 1) := by decide +kernel
theorem dX1_sumOfAll_2 : decode cX1_sumOfAll 2 = .ok (.iconst 0, 1) := by decide +kernel
theorem dX1_sumOfAll_3 : decode cX1_sumOfAll 3 = .ok (.istore_n 2, 1) := by decide +kernel
theorem dX1_sumOfAll_4 : decode cX1_sumOfAll 4 = .ok (.iload_n 2, 1) := by decide +kernel
theorem dX1_sumOfAll_5 : decode cX1_sumOfAll 5 = .ok (.aload_n 0, 1) := by decide +kernel
theorem dX1_sumOfAll_6 : decode cX1_sumOfAll 6 = .ok (.getfield 24, 3) := by decide +kernel
theorem dX1_sumOfAll_9 : decode cX1_sumOfAll 9 = .ok (.if_icmp .ge 28, 3) := by decide +kernel
theorem dX1_sumOfAll_12 : decode cX1_sumOfAll 12 = .ok (.aload_n 0, 1) := by decide +kernel
theorem dX1_sumOfAll_13 : decode cX1_sumOfAll 13 = .ok (.getfield 18, 3) := by decide +kernel
theorem dX1_sumOfAll_16 : decode cX1_sumOfAll 16 = .ok (.iload_n 2, 1) := by decide +kernel
theorem dX1_sumOfAll_17 : decode cX1_sumOfAll 17 = .ok (.iaload, 1) := by decide +kernel
theorem dX1_sumOfAll_18 : decode cX1_sumOfAll 18 = .ok (.iconst 2, 1) := by decide +kernel
theorem dX1_sumOfAll_19 : decode cX1_sumOfAll 19 = .ok (.if_icmp .eq 12, 3) := by decide +kernel
theorem dX1_sumOfAll_22 : decode cX1_sumOfAll 22 = .ok (.iload_n 1, 1) := by decide +kernel
theorem dX1_sumOfAll_23 : decode cX1_sumOfAll 23 = .ok (.aload_n 0, 1) := by decide +kernel
theorem dX1_sumOfAll_24 : decode cX1_sumOfAll 24 = .ok (.getfield 15, 3) := by decide +kernel
theorem dX1_sumOfAll_27 : decode cX1_sumOfAll 27 = .ok (.iload_n 2, 1) := by decide +kernel
theorem dX1_sumOfAll_28 : decode cX1_sumOfAll 28 = .ok (.iaload, 1) := by decide +kernel
theorem dX1_sumOfAll_29 : decode cX1_sumOfAll 29 = .ok (.iadd, 1) := by decide +kernel
theorem dX1_sumOfAll_30 : decode cX1_sumOfAll 30 = .ok (.istore_n 1, 1) := by decide +kernel
theorem dX1_sumOfAll_31 : decode cX1_sumOfAll 31 = .ok (.iinc 2 1, 3) := by decide +kernel
theorem dX1_sumOfAll_34 : decode cX1_sumOfAll 34 = .ok (.goto (-30), 3) := by decide +kernel
theorem dX1_sumOfAll_37 : decode cX1_sumOfAll 37 = .ok (.iload_n 1, 1) := by decide +kernel
theorem dX1_sumOfAll_38 : decode cX1_sumOfAll 38 = .ok (.ireturn, 1) := by decide +kernel
theorem dX2_init_0 : decode cX2_init 0 = .ok (.aload_n 0, 1) := by decide +kernel
theorem dX2_init_1 : decode cX2_init 1 = .ok (.invokespecial 3, 3) := by decide +kernel
theorem dX2_init_4 : decode cX2_init 4 = .ok (.aload_n 0, 1) := by decide +kernel
theorem dX2_init_5 : decode cX2_init 5 = .ok (.bipush 24, 2) := by decide +kernel
theorem dX2_init_7 : decode cX2_init 7 = .ok (.newarray .int, 2) := by decide +kernel
theorem dX2_init_9 : decode cX2_init 9 = .ok (.putfield 9, 3) := by decide +kernel
theorem dX2_init_12 : decode cX2_init 12 = .ok (.aload_n 0, 1) := by decide +kernel
theorem dX2_init_13 : decode cX2_init 13 = .ok (.bipush 24, 2) := by decide +kernel
theorem dX2_init_15 : decode cX2_init 15 = .ok (.newarray .int, 2) := by decide +kernel
theorem dX2_init_17 : decode cX2_init 17 = .ok (.putfield 15, 3) := by decide +kernel
theorem dX2_init_20 : decode cX2_init 20 = .ok (.aload_n 0, 1) := by decide +kernel
theorem dX2_init_21 : decode cX2_init 21 = .ok (.bipush 24, 2) := by decide +kernel
theorem dX2_init_23 : decode cX2_init 23 = .ok (.newarray .int, 2) := by decide +kernel
theorem dX2_init_25 : decode cX2_init 25 = .ok (.putfield 18, 3) := by decide +kernel
theorem dX2_init_28 : decode cX2_init 28 = .ok (.aload_n 0, 1) := by decide +kernel
theorem dX2_init_29 : decode cX2_init 29 = .ok (.bipush 24, 2) := by decide +kernel
theorem dX2_init_31 : decode cX2_init 31 = .ok (.newarray .int, 2) := by decide +kernel
theorem dX2_init_33 : decode cX2_init 33 = .ok (.putfield 21, 3) := by decide +kernel
theorem dX2_init_36 : decode cX2_init 36 = .ok (.aload_n 0, 1) := by decide +kernel
theorem dX2_init_37 : decode cX2_init 37 = .ok (.bipush 24, 2) := by decide +kernel
theorem dX2_init_39 : decode cX2_init 39 = .ok (.newarray .boolean, 2) := by decide +kernel
theorem dX2_init_41 : decode cX2_init 41 = .ok (.putfield 24, 3) := by decide +kernel
theorem dX2_init_44 : decode cX2_init 44 = .ok (.return_, 1) := by decide +kernel
set_option maxRecDepth 20000 in
theorem ggX3_init_X0_init : GoodIn wsX3_init wsX0_init := goodIn_r _ [22, 23, 2, 3, 4, 24, 25, 26, 27, 28, 29, 54, 55, 56, 57, 58, 59] (by decide +kernel) (by decide +kernel)
set_option maxRecDepth 20000 in
theorem gX3_init_X0_init : GoodIn wsX3_init (wsX0_init) := ggX3_init_X0_init
set_option maxRecDepth 20000 in
theorem ggX3_init_X1_init : GoodIn wsX3_init wsX1_init := goodIn_r _ [31, 32, 2, 3, 4, 33, 34, 35, 36, 60, 61, 62, 63, 64] (by decide +kernel) (by decide +kernel)
set_option maxRecDepth 20000 in
theorem gX3_init_X1_init_n25 : GoodIn wsX3_init (wsX1_init) := ggX3_init_X1_init
set_option maxRecDepth 20000 in
theorem ggX3_init_X2_init : GoodIn wsX3_init wsX2_init := goodIn_r _ [38, 39, 2, 3, 4, 40, 41, 42, 43, 28, 44, 65, 66, 67, 68, 69, 70, 71, 72] (by decide +kernel) (by decide +kernel)
set_option maxRecDepth 20000 in
theorem gX3_init_X2_init_n32 : GoodIn wsX3_init (wsX2_init) := ggX3_init_X2_init
theorem dX3_init_0 : decode cX3_init 0 = .ok (.aload_n 0, 1) := by decide +kernel
theorem dX3_init_1 : decode cX3_init 1 = .ok (.invokespecial 1, 3) := by decide +kernel
theorem dX3_init_4 : decode cX3_init 4 = .ok (.aload_n 0, 1) := by decide +kernel
theorem dX3_init_5 : decode cX3_init 5 = .ok (.iconst 5, 1) := by decide +kernel
theorem dX3_init_6 : decode cX3_init 6 = .ok (.newarray .int, 2) := by decide +kernel
theorem dX3_init_8 : decode cX3_init 8 = .ok (.putfield 9, 3) := by decide +kernel
theorem dX3_init_11 : decode cX3_init 11 = .ok (.aload_n 0, 1) := by decide +kernel
theorem dX3_init_12 : decode cX3_init 12 = .ok (.iconst 5, 1) := by decide +kernel
theorem dX3_init_13 : decode cX3_init 13 = .ok (.newarray .int, 2) := by decide +kernel
theorem dX3_init_15 : decode cX3_init 15 = .ok (.putfield 13, 3) := by decide +kernel
theorem dX3_init_18 : decode cX3_init 18 = .ok (.aload_n 0, 1) := by decide +kernel
theorem dX3_init_19 : decode cX3_init 19 = .ok (.new 16, 3) := by decide +kernel
theorem dX3_init_22 : decode cX3_init 22 = .ok (.dup, 1) := by decide +kernel
theorem dX3_init_23 : decode cX3_init 23 = .ok (.invokespecial 18, 3) := by decide +kernel
theorem dX3_init_26 : decode cX3_init 26 = .ok (.putfield 19, 3) := by decide +kernel
theorem dX3_init_29 : decode cX3_init 29 = .ok (.aload_n 0, 1) := by decide +kernel
theorem dX3_init_30 : decode cX3_init 30 = .ok (.new 23, 3) := by decide +kernel
theorem dX3_init_33 : decode cX3_init 33 = .ok (.dup, 1) := by decide +kernel
theorem dX3_init_34 : decode cX3_init 34 = .ok (.invokespecial 25, 3) := by decide +kernel
theorem dX3_init_37 : decode cX3_init 37 = .ok (.putfield 26, 3) := by decide +kernel
theorem dX3_init_40 : decode cX3_init 40 = .ok (.aload_n 0, 1) := by decide +kernel
theorem dX3_init_41 : decode cX3_init 41 = .ok (.new 30, 3) := by decide +kernel
theorem dX3_init_44 : decode cX3_init 44 = .ok (.dup, 1) := by decide +kernel
theorem dX3_init_45 : decode cX3_init 45 = .ok (.invokespecial 32, 3) := by decide +kernel
theorem dX3_init_48 : decode cX3_init 48 = .ok (.putfield 33, 3) := by decide +kernel
theorem dX3_init_51 : decode cX3_init 51 = .ok (.iconst 0, 1) := by decide +kernel
theorem dX3_init_52 : decode cX3_init 52 = .ok (.istore_n 1, 1) := by decide +kernel
theorem dX3_init_53 : decode cX3_init 53 = .ok (.iload_n 1, 1) := by decide +kernel
theorem dX3_init_54 : decode cX3_init 54 = .ok (.iconst 5, 1) := by decide +kernel
theorem dX3_init_55 : decode cX3_init 55 = .ok (.if_icmp .ge 24, 3) := by decide +kernel
theorem dX3_init_58 : decode cX3_init 58 = .ok (.aload_n 0, 1) := by decide +kernel
theorem dX3_init_59 : decode cX3_init 59 = .ok (.getfield 9, 3) := by decide +kernel
theorem dX3_init_62 : decode cX3_init 62 = .ok (.iload_n 1, 1) := by decide +kernel
theorem dX3_init_63 : decode cX3_init 63 = .ok (.iconst 1, 1) := by decide +kernel
theorem dX3_init_64 : decode cX3_init 64 = .ok (.iastore, 1) := by decide +kernel
theorem dX3_init_65 : decode cX3_init 65 = .ok (.aload_n 0, 1) := by decide +kernel
theorem dX3_init_66 : decode cX3_init 66 = .ok (.getfield 13, 3) := by decide +kernel
theorem dX3_init_69 : decode cX3_init 69 = .ok (.iload_n 1, 1) := by decide +kernel
theorem dX3_init_70 : decode cX3_init 70 = .ok (.ldc 37, 2) := by decide +kernel
theorem dX3_init_72 : decode cX3_init 72 = .ok (.iastore, 1) := by decide +kernel
theorem dX3_init_73 : decode cX3_init 73 = .ok (.iinc 1 1, 3) := by decide +kernel
theorem dX3_init_76 : decode cX3_init 76 = .ok (.goto (-23), 3) := by decide +kernel
theorem dX3_init_79 : decode cX3_init 79 = .ok (.return_, 1) := by decide +kernel
set_option maxRecDepth 20000 in
theorem ggX3_setFund_X3_isOutside : GoodIn wsX3_setFund wsX3_isOutside := goodIn_r _ [11] (by decide +kernel) (by decide +kernel)
set_option maxRecDepth 20000 in
theorem gX3_setFund_X3_isOutside : GoodIn wsX3_setFund (va_wsS RX3 39 yX3_isOutside wsX3_isOutside) := goodIn_app (goodIn_of _ (by decide +kernel)) ggX3_setFund_X3_isOutside
set_option maxRecDepth 20000 in
theorem ggX3_setFund_X3_mustHaveNoPayments : GoodIn wsX3_setFund wsX3_mustHaveNoPayments := goodIn_ca (goodIn_r _ [15, 16, 17, 18, 19, 37, 38, 39, 40, 41, 42, 43, 44, 45, 46, 47, 48, 49, 50] (by decide +kernel) (by decide +kernel)) (goodIn_sub (fun _ h => List.mem_cons_of_mem _ (List.mem_append_right _ h)) (by decide +kernel))
set_option maxRecDepth 20000 in
theorem gX3_setFund_X3_mustHaveNoPayments : GoodIn wsX3_setFund (wsV RX3 50 RX3 yX3_mustHaveNoPayments wsX3_mustHaveNoPayments) := goodIn_app (goodIn_of _ (by decide +kernel)) ggX3_setFund_X3_mustHaveNoPayments
set_option maxRecDepth 20000 in
theorem ggX3_setFund_X3_moneyLeft : GoodIn wsX3_setFund wsX3_moneyLeft := goodIn_r _ [23, 5, 7, 18, 24, 25, 26, 10, 27, 6, 28, 29, 30, 31, 32, 33, 34, 35, 36, 37, 38, 39, 40, 41, 42, 43, 44, 45, 46, 47, 48, 49, 50] (by decide +kernel) (by decide +kernel)
set_option maxRecDepth 20000 in
theorem gX3_setFund_X3_moneyLeft : GoodIn wsX3_setFund (wsV RX3 63 RX3 yX3_moneyLeft wsX3_moneyLeft) := goodIn_app (goodIn_of _ (by decide +kernel)) ggX3_setFund_X3_moneyLeft
theorem dX3_setFund_0 : decode cX3_setFund 0 = .ok (.iload_n 1, 1) := by decide +kernel
theorem dX3_setFund_1 : decode cX3_setFund 1 = .ok (.iconst 0, 1) := by decide +kernel
theorem dX3_setFund_2 : decode cX3_setFund 2 = .ok (.ldc 38, 2) := by decide +kernel
theorem dX3_setFund_4 : decode cX3_setFund 4 = .ok (.invokestatic 39, 3) := by decide +kernel
theorem dX3_setFund_7 : decode cX3_setFund 7 = .ok (.ifCond .ne 24, 3) := by decide +kernel
theorem dX3_setFund_10 : decode cX3_setFund 10 = .ok (.iload_n 2, 1) := by decide +kernel
theorem dX3_setFund_11 : decode cX3_setFund 11 = .ok (.iconst 0, 1) := by decide +kernel
theorem dX3_setFund_12 : decode cX3_setFund 12 = .ok (.sipush 500, 3) := by decide +kernel
theorem dX3_setFund_15 : decode cX3_setFund 15 = .ok (.invokestatic 39, 3) := by decide +kernel
theorem dX3_setFund_18 : decode cX3_setFund 18 = .ok (.ifCond .ne 13, 3) := by decide +kernel
theorem dX3_setFund_21 : decode cX3_setFund 21 = .ok (.iload_n 3, 1) := by decide +kernel
theorem dX3_setFund_22 : decode cX3_setFund 22 = .ok (.iconst 0, 1) := by decide +kernel
theorem dX3_setFund_23 : decode cX3_setFund 23 = .ok (.ldc 37, 2) := by decide +kernel
theorem dX3_setFund_25 : decode cX3_setFund 25 = .ok (.invokestatic 39, 3) := by decide +kernel
theorem dX3_setFund_28 : decode cX3_setFund 28 = .ok (.ifCond .eq 13, 3) := by decide +kernel
theorem dX3_setFund_31 : decode cX3_setFund 31 = .ok (.new 43, 3) := by decide +kernel
theorem dX3_setFund_34 : decode cX3_setFund 34 = .ok (.dup, 1) := by decide +kernel
theorem dX3_setFund_35 : decode cX3_setFund 35 = .ok (.ldc 45, 2) := by decide +kernel
theorem dX3_setFund_37 : decode cX3_setFund 37 = .ok (.invokespecial 47, 3) := by decide +kernel
theorem dX3_setFund_40 : decode cX3_setFund 40 = .ok (.athrow, 1) := by decide +kernel
theorem dX3_setFund_41 : decode cX3_setFund 41 = .ok (.aload_n 0, 1) := by decide +kernel
theorem dX3_setFund_42 : decode cX3_setFund 42 = .ok (.invokevirtual 50, 3) := by decide +kernel
theorem dX3_setFund_45 : decode cX3_setFund 45 = .ok (.aload_n 0, 1) := by decide +kernel
theorem dX3_setFund_46 : decode cX3_setFund 46 = .ok (.iload_n 1, 1) := by decide +kernel
theorem dX3_setFund_47 : decode cX3_setFund 47 = .ok (.putfield 53, 3) := by decide +kernel
theorem dX3_setFund_50 : decode cX3_setFund 50 = .ok (.aload_n 0, 1) := by decide +kernel
theorem dX3_setFund_51 : decode cX3_setFund 51 = .ok (.iload_n 2, 1) := by decide +kernel
theorem dX3_setFund_52 : decode cX3_setFund 52 = .ok (.putfield 57, 3) := by decide +kernel
theorem dX3_setFund_55 : decode cX3_setFund 55 = .ok (.aload_n 0, 1) := by decide +kernel
theorem dX3_setFund_56 : decode cX3_setFund 56 = .ok (.iload_n 3, 1) := by decide +kernel
theorem dX3_setFund_57 : decode cX3_setFund 57 = .ok (.putfield 60, 3) := by decide +kernel
theorem dX3_setFund_60 : decode cX3_setFund 60 = .ok (.aload_n 0, 1) := by decide +kernel
theorem dX3_setFund_61 : decode cX3_setFund 61 = .ok (.invokevirtual 63, 3) := by decide +kernel
theorem dX3_setFund_64 : decode cX3_setFund 64 = .ok (.ireturn, 1) := by decide +kernel
set_option maxRecDepth 20000 in
theorem ggX3_setGrade_X3_isOutside : GoodIn wsX3_setGrade wsX3_isOutside := goodIn_r _ [11] (by decide +kernel) (by decide +kernel)
set_option maxRecDepth 20000 in
theorem gX3_setGrade_X3_isOutside : GoodIn wsX3_setGrade (va_wsS RX3 39 yX3_isOutside wsX3_isOutside) := goodIn_app (goodIn_of _ (by decide +kernel)) ggX3_setGrade_X3_isOutside
set_option maxRecDepth 20000 in
theorem ggX3_setGrade_X3_mustHaveNoPayments : GoodIn wsX3_setGrade wsX3_mustHaveNoPayments := goodIn_ca (goodIn_r _ [15, 16, 17, 18, 19, 20, 21, 22, 23, 24, 25, 26, 27, 28, 29, 30, 31, 32, 33] (by decide +kernel) (by decide +kernel)) (goodIn_sub (fun _ h => List.mem_cons_of_mem _ (List.mem_append_right _ h)) (by decide +kernel))
set_option maxRecDepth 20000 in
theorem gX3_setGrade_X3_mustHaveNoPayments : GoodIn wsX3_setGrade (wsV RX3 50 RX3 yX3_mustHaveNoPayments wsX3_mustHaveNoPayments) := goodIn_app (goodIn_of _ (by decide +kernel)) ggX3_setGrade_X3_mustHaveNoPayments
theorem dX3_setGrade_0 : decode cX3_setGrade 0 = .ok (.iload_n 1, 1) := by decide +kernel
theorem dX3_setGrade_1 : decode cX3_setGrade 1 = .ok (.iconst 0, 1) := by decide +kernel
theorem dX3_setGrade_2 : decode cX3_setGrade 2 = .ok (.iconst 4, 1) := by decide +kernel
theorem dX3_setGrade_3 : decode cX3_setGrade 3 = .ok (.invokestatic 39, 3) := by decide +kernel
theorem dX3_setGrade_6 : decode cX3_setGrade 6 = .ok (.ifCond .eq 13, 3) := by decide +kernel
theorem dX3_setGrade_9 : decode cX3_setGrade 9 = .ok (.new 67, 3) := by decide +kernel
theorem dX3_setGrade_12 : decode cX3_setGrade 12 = .ok (.dup, 1) := by decide +kernel
theorem dX3_setGrade_13 : decode cX3_setGrade 13 = .ok (.ldc 69, 2) := by decide +kernel
theorem dX3_setGrade_15 : decode cX3_setGrade 15 = .ok (.invokespecial 71, 3) := by decide +kernel
theorem dX3_setGrade_18 : decode cX3_setGrade 18 = .ok (.athrow, 1) := by decide +kernel
theorem dX3_setGrade_19 : decode cX3_setGrade 19 = .ok (.iload_n 2, 1) := by decide +kernel
theorem dX3_setGrade_20 : decode cX3_setGrade 20 = .ok (.iconst 1, 1) := by decide +kernel
theorem dX3_setGrade_21 : decode cX3_setGrade 21 = .ok (.bipush 100, 2) := by decide +kernel
theorem dX3_setGrade_23 : decode cX3_setGrade 23 = .ok (.invokestatic 39, 3) := by decide +kernel
theorem dX3_setGrade_26 : decode cX3_setGrade 26 = .ok (.ifCond .ne 13, 3) := by decide +kernel
theorem dX3_setGrade_29 : decode cX3_setGrade 29 = .ok (.iload_n 3, 1) := by decide +kernel
theorem dX3_setGrade_30 : decode cX3_setGrade 30 = .ok (.iconst 1, 1) := by decide +kernel
theorem dX3_setGrade_31 : decode cX3_setGrade 31 = .ok (.ldc 37, 2) := by decide +kernel
theorem dX3_setGrade_33 : decode cX3_setGrade 33 = .ok (.invokestatic 39, 3) := by decide +kernel
theorem dX3_setGrade_36 : decode cX3_setGrade 36 = .ok (.ifCond .eq 13, 3) := by decide +kernel
theorem dX3_setGrade_39 : decode cX3_setGrade 39 = .ok (.new 43, 3) := by decide +kernel
theorem dX3_setGrade_42 : decode cX3_setGrade 42 = .ok (.dup, 1) := by decide +kernel
theorem dX3_setGrade_43 : decode cX3_setGrade 43 = .ok (.ldc 72, 2) := by decide +kernel
theorem dX3_setGrade_45 : decode cX3_setGrade 45 = .ok (.invokespecial 47, 3) := by decide +kernel
theorem dX3_setGrade_48 : decode cX3_setGrade 48 = .ok (.athrow, 1) := by decide +kernel
theorem dX3_setGrade_49 : decode cX3_setGrade 49 = .ok (.aload_n 0, 1) := by decide +kernel
theorem dX3_setGrade_50 : decode cX3_setGrade 50 = .ok (.invokevirtual 50, 3) := by decide +kernel
theorem dX3_setGrade_53 : decode cX3_setGrade 53 = .ok (.aload_n 0, 1) := by decide +kernel
theorem dX3_setGrade_54 : decode cX3_setGrade 54 = .ok (.getfield 9, 3) := by decide +kernel
theorem dX3_setGrade_57 : decode cX3_setGrade 57 = .ok (.iload_n 1, 1) := by decide +kernel
theorem dX3_setGrade_58 : decode cX3_setGrade 58 = .ok (.iload_n 2, 1) := by decide +kernel
theorem dX3_setGrade_59 : decode cX3_setGrade 59 = .ok (.iastore, 1) := by decide +kernel
theorem dX3_setGrade_60 : decode cX3_setGrade 60 = .ok (.aload_n 0, 1) := by decide +kernel
theorem dX3_setGrade_61 : decode cX3_setGrade 61 = .ok (.getfield 13, 3) := by decide +kernel
theorem dX3_setGrade_64 : decode cX3_setGrade 64 = .ok (.iload_n 1, 1) := by decide +kernel
theorem dX3_setGrade_65 : decode cX3_setGrade 65 = .ok (.iload_n 3, 1) := by decide +kernel
theorem dX3_setGrade_66 : decode cX3_setGrade 66 = .ok (.iastore, 1) := by decide +kernel
theorem dX3_setGrade_67 : decode cX3_setGrade 67 = .ok (.return_, 1) := by decide +kernel
set_option maxRecDepth 20000 in
theorem ggX3_pass_X3_isOutside : GoodIn wsX3_pass wsX3_isOutside := goodIn_r _ [9] (by decide +kernel) (by decide +kernel)
set_option maxRecDepth 20000 in
theorem gX3_pass_X3_isOutside : GoodIn wsX3_pass (va_wsS RX3 39 yX3_isOutside wsX3_isOutside) := goodIn_app (goodIn_of _ (by decide +kernel)) ggX3_pass_X3_isOutside
theorem dX3_pass_0 : decode cX3_pass 0 = .ok (.iload_n 1, 1) := by decide +kernel
theorem dX3_pass_1 : decode cX3_pass 1 = .ok (.iconst 1, 1) := by decide +kernel
theorem dX3_pass_2 : decode cX3_pass 2 = .ok (.sipush 200, 3) := by decide +kernel
theorem dX3_pass_5 : decode cX3_pass 5 = .ok (.invokestatic 39, 3) := by decide +kernel
theorem dX3_pass_8 : decode cX3_pass 8 = .ok (.ifCond .eq 13, 3) := by decide +kernel
theorem dX3_pass_11 : decode cX3_pass 11 = .ok (.new 43, 3) := by decide +kernel
theorem dX3_pass_14 : decode cX3_pass 14 = .ok (.dup, 1) := by decide +kernel
theorem dX3_pass_15 : decode cX3_pass 15 = .ok (.ldc 74, 2) := by decide +kernel
theorem dX3_pass_17 : decode cX3_pass 17 = .ok (.invokespecial 47, 3) := by decide +kernel
theorem dX3_pass_20 : decode cX3_pass 20 = .ok (.athrow, 1) := by decide +kernel
theorem dX3_pass_21 : decode cX3_pass 21 = .ok (.aload_n 0, 1) := by decide +kernel
theorem dX3_pass_22 : decode cX3_pass 22 = .ok (.dup, 1) := by decide +kernel
theorem dX3_pass_23 : decode cX3_pass 23 = .ok (.getfield 76, 3) := by decide +kernel
theorem dX3_pass_26 : decode cX3_pass 26 = .ok (.iload_n 1, 1) := by decide +kernel
theorem dX3_pass_27 : decode cX3_pass 27 = .ok (.iadd, 1) := by decide +kernel
theorem dX3_pass_28 : decode cX3_pass 28 = .ok (.putfield 76, 3) := by decide +kernel
theorem dX3_pass_31 : decode cX3_pass 31 = .ok (.aload_n 0, 1) := by decide +kernel
theorem dX3_pass_32 : decode cX3_pass 32 = .ok (.getfield 19, 3) := by decide +kernel
theorem dX3_pass_35 : decode cX3_pass 35 = .ok (.aload_n 0, 1) := by decide +kernel
theorem dX3_pass_36 : decode cX3_pass 36 = .ok (.getfield 76, 3) := by decide +kernel
theorem dX3_pass_39 : decode cX3_pass 39 = .ok (.invokevirtual 79, 3) := by decide +kernel
theorem dX3_pass_42 : decode cX3_pass 42 = .ok (.aload_n 0, 1) := by decide +kernel
theorem dX3_pass_43 : decode cX3_pass 43 = .ok (.getfield 26, 3) := by decide +kernel
theorem dX3_pass_46 : decode cX3_pass 46 = .ok (.aload_n 0, 1) := by decide +kernel
theorem dX3_pass_47 : decode cX3_pass 47 = .ok (.getfield 76, 3) := by decide +kernel
theorem dX3_pass_50 : decode cX3_pass 50 = .ok (.invokevirtual 83, 3) := by decide +kernel
theorem dX3_pass_53 : decode cX3_pass 53 = .ok (.aload_n 0, 1) := by decide +kernel
theorem dX3_pass_54 : decode cX3_pass 54 = .ok (.getfield 76, 3) := by decide +kernel
theorem dX3_pass_57 : decode cX3_pass 57 = .ok (.ireturn, 1) := by decide +kernel
set_option maxRecDepth 20000 in
theorem ggX3_claim_X3_isOutside : GoodIn wsX3_claim wsX3_isOutside := goodIn_r _ [13] (by decide +kernel) (by decide +kernel)
set_option maxRecDepth 20000 in
theorem gX3_claim_X3_isOutside : GoodIn wsX3_claim (va_wsS RX3 39 yX3_isOutside wsX3_isOutside) := goodIn_app (goodIn_of _ (by decide +kernel)) ggX3_claim_X3_isOutside
set_option maxRecDepth 20000 in
theorem ggX3_claim_X0_has : GoodIn wsX3_claim wsX0_has := goodIn_r _ [18, 19, 49, 50, 51, 52, 53, 54] (by decide +kernel) (by decide +kernel)
set_option maxRecDepth 20000 in
theorem gX3_claim_X0_has : GoodIn wsX3_claim (wsV RX3 91 RX0 yX0_has wsX0_has) := goodIn_app (goodIn_of _ (by decide +kernel)) ggX3_claim_X0_has
theorem dX3_claim_0 : decode cX3_claim 0 = .ok (.iload_n 1, 1) := by decide +kernel
theorem dX3_claim_1 : decode cX3_claim 1 = .ok (.iconst 0, 1) := by decide +kernel
theorem dX3_claim_2 : decode cX3_claim 2 = .ok (.bipush 29, 2) := by decide +kernel
theorem dX3_claim_4 : decode cX3_claim 4 = .ok (.invokestatic 39, 3) := by decide +kernel
theorem dX3_claim_7 : decode cX3_claim 7 = .ok (.ifCond .ne 12, 3) := by decide +kernel
theorem dX3_claim_10 : decode cX3_claim 10 = .ok (.iload_n 2, 1) := by decide +kernel
theorem dX3_claim_11 : decode cX3_claim 11 = .ok (.iconst 0, 1) := by decide +kernel
theorem dX3_claim_12 : decode cX3_claim 12 = .ok (.iconst 4, 1) := by decide +kernel
theorem dX3_claim_13 : decode cX3_claim 13 = .ok (.invokestatic 39, 3) := by decide +kernel
theorem dX3_claim_16 : decode cX3_claim 16 = .ok (.ifCond .eq 13, 3) := by decide +kernel
theorem dX3_claim_19 : decode cX3_claim 19 = .ok (.new 67, 3) := by decide +kernel
theorem dX3_claim_22 : decode cX3_claim 22 = .ok (.dup, 1) := by decide +kernel
theorem dX3_claim_23 : decode cX3_claim 23 = .ok (.ldc 86, 2) := by decide +kernel
theorem dX3_claim_25 : decode cX3_claim 25 = .ok (.invokespecial 71, 3) := by decide +kernel
theorem dX3_claim_28 : decode cX3_claim 28 = .ok (.athrow, 1) := by decide +kernel
theorem dX3_claim_29 : decode cX3_claim 29 = .ok (.iload 4, 2) := by decide +kernel
theorem dX3_claim_31 : decode cX3_claim 31 = .ok (.iconst 0, 1) := by decide +kernel
theorem dX3_claim_32 : decode cX3_claim 32 = .ok (.bipush 100, 2) := by decide +kernel
theorem dX3_claim_34 : decode cX3_claim 34 = .ok (.invokestatic 39, 3) := by decide +kernel
theorem dX3_claim_37 : decode cX3_claim 37 = .ok (.ifCond .eq 13, 3) := by decide +kernel
theorem dX3_claim_40 : decode cX3_claim 40 = .ok (.new 43, 3) := by decide +kernel
theorem dX3_claim_43 : decode cX3_claim 43 = .ok (.dup, 1) := by decide +kernel
theorem dX3_claim_44 : decode cX3_claim 44 = .ok (.ldc 74, 2) := by decide +kernel
theorem dX3_claim_46 : decode cX3_claim 46 = .ok (.invokespecial 47, 3) := by decide +kernel
theorem dX3_claim_49 : decode cX3_claim 49 = .ok (.athrow, 1) := by decide +kernel
theorem dX3_claim_50 : decode cX3_claim 50 = .ok (.aload_n 0, 1) := by decide +kernel
theorem dX3_claim_51 : decode cX3_claim 51 = .ok (.getfield 19, 3) := by decide +kernel
theorem dX3_claim_54 : decode cX3_claim 54 = .ok (.getfield 88, 3) := by decide +kernel
theorem dX3_claim_57 : decode cX3_claim 57 = .ok (.iload_n 1, 1) := by decide +kernel
theorem dX3_claim_58 : decode cX3_claim 58 = .ok (.iaload, 1) := by decide +kernel
theorem dX3_claim_59 : decode cX3_claim 59 = .ok (.istore 5, 2) := by decide +kernel
theorem dX3_claim_61 : decode cX3_claim 61 = .ok (.aload_n 0, 1) := by decide +kernel
theorem dX3_claim_62 : decode cX3_claim 62 = .ok (.getfield 19, 3) := by decide +kernel
theorem dX3_claim_65 : decode cX3_claim 65 = .ok (.iload 5, 2) := by decide +kernel
theorem dX3_claim_67 : decode cX3_claim 67 = .ok (.invokevirtual 91, 3) := by decide +kernel
theorem dX3_claim_70 : decode cX3_claim 70 = .ok (.ifCond .eq 17, 3) := by decide +kernel
theorem dX3_claim_73 : decode cX3_claim 73 = .ok (.aload_n 0, 1) := by decide +kernel
theorem dX3_claim_74 : decode cX3_claim 74 = .ok (.getfield 19, 3) := by decide +kernel
theorem dX3_claim_77 : decode cX3_claim 77 = .ok (.iload 5, 2) := by decide +kernel
theorem dX3_claim_79 : decode cX3_claim 79 = .ok (.iload_n 2, 1) := by decide +kernel
theorem dX3_claim_80 : decode cX3_claim 80 = .ok (.iload_n 3, 1) := by decide +kernel
theorem dX3_claim_81 : decode cX3_claim 81 = .ok (.invokevirtual 95, 3) := by decide +kernel
theorem dX3_claim_84 : decode cX3_claim 84 = .ok (.iload 5, 2) := by decide +kernel
theorem dX3_claim_86 : decode cX3_claim 86 = .ok (.ireturn, 1) := by decide +kernel
theorem dX3_claim_87 : decode cX3_claim 87 = .ok (.aload_n 0, 1) := by decide +kernel
theorem dX3_claim_88 : decode cX3_claim 88 = .ok (.getfield 19, 3) := by decide +kernel
theorem dX3_claim_91 : decode cX3_claim 91 = .ok (.invokevirtual 99, 3) := by decide +kernel
theorem dX3_claim_94 : decode cX3_claim 94 = .ok (.ifCond .ne 13, 3) := by decide +kernel
theorem dX3_claim_97 : decode cX3_claim 97 = .ok (.new 103, 3) := by decide +kernel
theorem dX3_claim_100 : decode cX3_claim 100 = .ok (.dup, 1) := by decide +kernel
theorem dX3_claim_101 : decode cX3_claim 101 = .ok (.ldc 105, 2) := by decide +kernel
theorem dX3_claim_103 : decode cX3_claim 103 = .ok (.invokespecial 107, 3) := by decide +kernel
theorem dX3_claim_106 : decode cX3_claim 106 = .ok (.athrow, 1) := by decide +kernel
theorem dX3_claim_107 : decode cX3_claim 107 = .ok (.aload_n 0, 1) := by decide +kernel
theorem dX3_claim_108 : decode cX3_claim 108 = .ok (.getfield 19, 3) := by decide +kernel
theorem dX3_claim_111 : decode cX3_claim 111 = .ok (.iload_n 1, 1) := by decide +kernel
theorem dX3_claim_112 : decode cX3_claim 112 = .ok (.iload_n 2, 1) := by decide +kernel
theorem dX3_claim_113 : decode cX3_claim 113 = .ok (.iload_n 3, 1) := by decide +kernel
theorem dX3_claim_114 : decode cX3_claim 114 = .ok (.ifCond .eq 7, 3) := by decide +kernel
theorem dX3_claim_117 : decode cX3_claim 117 = .ok (.iconst 1, 1) := by decide +kernel
theorem dX3_claim_118 : decode cX3_claim 118 = .ok (.goto 4, 3) := by decide +kernel
theorem dX3_claim_121 : decode cX3_claim 121 = .ok (.iconst 0, 1) := by decide +kernel
theorem dX3_claim_122 : decode cX3_claim 122 = .ok (.aload_n 0, 1) := by decide +kernel
theorem dX3_claim_123 : decode cX3_claim 123 = .ok (.getfield 76, 3) := by decide +kernel
theorem dX3_claim_126 : decode cX3_claim 126 = .ok (.iload 4, 2) := by decide +kernel
theorem dX3_claim_128 : decode cX3_claim 128 = .ok (.iadd, 1) := by decide +kernel
theorem dX3_claim_129 : decode cX3_claim 129 = .ok (.invokevirtual 108, 3) := by decide +kernel
theorem dX3_claim_132 : decode cX3_claim 132 = .ok (.ireturn, 1) := by decide +kernel
set_option maxRecDepth 20000 in
theorem ggX3_cure_X3_mustBeClaim : GoodIn wsX3_cure wsX3_mustBeClaim := goodIn_ca (goodIn_r _ [11, 12, 13, 3, 14, 15, 16, 17, 18, 19, 20, 21, 22, 23, 24, 25, 26, 27, 28, 29, 30, 31, 32, 33, 34] (by decide +kernel) (by decide +kernel)) (goodIn_sub (fun _ h => List.mem_cons_of_mem _ (List.mem_append_right _ h)) (by decide +kernel))
set_option maxRecDepth 20000 in
theorem gX3_cure_X3_mustBeClaim : GoodIn wsX3_cure (wsV RX3 112 RX3 yX3_mustBeClaim wsX3_mustBeClaim) := goodIn_app (goodIn_of _ (by decide +kernel)) ggX3_cure_X3_mustBeClaim
theorem dX3_cure_0 : decode cX3_cure 0 = .ok (.aload_n 0, 1) := by decide +kernel
theorem dX3_cure_1 : decode cX3_cure 1 = .ok (.iload_n 1, 1) := by decide +kernel
theorem dX3_cure_2 : decode cX3_cure 2 = .ok (.invokevirtual 112, 3) := by decide +kernel
theorem dX3_cure_5 : decode cX3_cure 5 = .ok (.aload_n 0, 1) := by decide +kernel
theorem dX3_cure_6 : decode cX3_cure 6 = .ok (.getfield 19, 3) := by decide +kernel
theorem dX3_cure_9 : decode cX3_cure 9 = .ok (.getfield 115, 3) := by decide +kernel
theorem dX3_cure_12 : decode cX3_cure 12 = .ok (.iload_n 1, 1) := by decide +kernel
theorem dX3_cure_13 : decode cX3_cure 13 = .ok (.iaload, 1) := by decide +kernel
theorem dX3_cure_14 : decode cX3_cure 14 = .ok (.iconst 1, 1) := by decide +kernel
theorem dX3_cure_15 : decode cX3_cure 15 = .ok (.if_icmp .eq 13, 3) := by decide +kernel
theorem dX3_cure_18 : decode cX3_cure 18 = .ok (.new 103, 3) := by decide +kernel
theorem dX3_cure_21 : decode cX3_cure 21 = .ok (.dup, 1) := by decide +kernel
theorem dX3_cure_22 : decode cX3_cure 22 = .ok (.ldc 118, 2) := by decide +kernel
theorem dX3_cure_24 : decode cX3_cure 24 = .ok (.invokespecial 107, 3) := by decide +kernel
theorem dX3_cure_27 : decode cX3_cure 27 = .ok (.athrow, 1) := by decide +kernel
theorem dX3_cure_28 : decode cX3_cure 28 = .ok (.aload_n 0, 1) := by decide +kernel
theorem dX3_cure_29 : decode cX3_cure 29 = .ok (.getfield 19, 3) := by decide +kernel
theorem dX3_cure_32 : decode cX3_cure 32 = .ok (.getfield 115, 3) := by decide +kernel
theorem dX3_cure_35 : decode cX3_cure 35 = .ok (.iload_n 1, 1) := by decide +kernel
theorem dX3_cure_36 : decode cX3_cure 36 = .ok (.iconst 0, 1) := by decide +kernel
theorem dX3_cure_37 : decode cX3_cure 37 = .ok (.iastore, 1) := by decide +kernel
theorem dX3_cure_38 : decode cX3_cure 38 = .ok (.aload_n 0, 1) := by decide +kernel
theorem dX3_cure_39 : decode cX3_cure 39 = .ok (.getfield 19, 3) := by decide +kernel
theorem dX3_cure_42 : decode cX3_cure 42 = .ok (.getfield 120, 3) := by decide +kernel
theorem dX3_cure_45 : decode cX3_cure 45 = .ok (.iload_n 1, 1) := by decide +kernel
theorem dX3_cure_46 : decode cX3_cure 46 = .ok (.iaload, 1) := by decide +kernel
theorem dX3_cure_47 : decode cX3_cure 47 = .ok (.aload_n 0, 1) := by decide +kernel
theorem dX3_cure_48 : decode cX3_cure 48 = .ok (.getfield 76, 3) := by decide +kernel
theorem dX3_cure_51 : decode cX3_cure 51 = .ok (.isub, 1) := by decide +kernel
theorem dX3_cure_52 : decode cX3_cure 52 = .ok (.ireturn, 1) := by decide +kernel
set_option maxRecDepth 20000 in
theorem ggX3_deny_X3_mustBeClaim : GoodIn wsX3_deny wsX3_mustBeClaim := goodIn_ca (goodIn_r _ [9, 10, 11, 3, 12, 13, 14, 15, 16, 17, 18, 19, 20, 21, 22, 23, 24, 25, 26, 27, 28, 29, 30, 31, 32] (by decide +kernel) (by decide +kernel)) (goodIn_sub (fun _ h => List.mem_cons_of_mem _ (List.mem_append_right _ h)) (by decide +kernel))
set_option maxRecDepth 20000 in
theorem gX3_deny_X3_mustBeClaim : GoodIn wsX3_deny (wsV RX3 112 RX3 yX3_mustBeClaim wsX3_mustBeClaim) := goodIn_app (goodIn_of _ (by decide +kernel)) ggX3_deny_X3_mustBeClaim
theorem dX3_deny_0 : decode cX3_deny 0 = .ok (.aload_n 0, 1) := by decide +kernel
theorem dX3_deny_1 : decode cX3_deny 1 = .ok (.iload_n 1, 1) := by decide +kernel
theorem dX3_deny_2 : decode cX3_deny 2 = .ok (.invokevirtual 112, 3) := by decide +kernel
theorem dX3_deny_5 : decode cX3_deny 5 = .ok (.aload_n 0, 1) := by decide +kernel
theorem dX3_deny_6 : decode cX3_deny 6 = .ok (.getfield 19, 3) := by decide +kernel
theorem dX3_deny_9 : decode cX3_deny 9 = .ok (.getfield 115, 3) := by decide +kernel
theorem dX3_deny_12 : decode cX3_deny 12 = .ok (.iload_n 1, 1) := by decide +kernel
theorem dX3_deny_13 : decode cX3_deny 13 = .ok (.iaload, 1) := by decide +kernel
theorem dX3_deny_14 : decode cX3_deny 14 = .ok (.istore_n 2, 1) := by decide +kernel
theorem dX3_deny_15 : decode cX3_deny 15 = .ok (.iload_n 2, 1) := by decide +kernel
theorem dX3_deny_16 : decode cX3_deny 16 = .ok (.ifCond .eq 18, 3) := by decide +kernel
theorem dX3_deny_19 : decode cX3_deny 19 = .ok (.iload_n 2, 1) := by decide +kernel
theorem dX3_deny_20 : decode cX3_deny 20 = .ok (.iconst 1, 1) := by decide +kernel
theorem dX3_deny_21 : decode cX3_deny 21 = .ok (.if_icmp .eq 13, 3) := by decide +kernel
theorem dX3_deny_24 : decode cX3_deny 24 = .ok (.new 103, 3) := by decide +kernel
theorem dX3_deny_27 : decode cX3_deny 27 = .ok (.dup, 1) := by decide +kernel
theorem dX3_deny_28 : decode cX3_deny 28 = .ok (.ldc 123, 2) := by decide +kernel
theorem dX3_deny_30 : decode cX3_deny 30 = .ok (.invokespecial 107, 3) := by decide +kernel
theorem dX3_deny_33 : decode cX3_deny 33 = .ok (.athrow, 1) := by decide +kernel
theorem dX3_deny_34 : decode cX3_deny 34 = .ok (.aload_n 0, 1) := by decide +kernel
theorem dX3_deny_35 : decode cX3_deny 35 = .ok (.getfield 19, 3) := by decide +kernel
theorem dX3_deny_38 : decode cX3_deny 38 = .ok (.getfield 115, 3) := by decide +kernel
theorem dX3_deny_41 : decode cX3_deny 41 = .ok (.iload_n 1, 1) := by decide +kernel
theorem dX3_deny_42 : decode cX3_deny 42 = .ok (.iconst 2, 1) := by decide +kernel
theorem dX3_deny_43 : decode cX3_deny 43 = .ok (.iastore, 1) := by decide +kernel
theorem dX3_deny_44 : decode cX3_deny 44 = .ok (.iload_n 2, 1) := by decide +kernel
theorem dX3_deny_45 : decode cX3_deny 45 = .ok (.ireturn, 1) := by decide +kernel
set_option maxRecDepth 20000 in
theorem ggX3_object_X3_mustBeClaim : GoodIn wsX3_object wsX3_mustBeClaim := goodIn_ca (goodIn_r _ [10, 11, 12, 3, 13, 14, 15, 16, 17, 18, 24, 25, 26, 27, 28, 29, 30, 31, 32, 33, 34, 35, 36, 37, 38] (by decide +kernel) (by decide +kernel)) (goodIn_sub (fun _ h => List.mem_cons_of_mem _ (List.mem_append_right _ h)) (by decide +kernel))
set_option maxRecDepth 20000 in
theorem gX3_object_X3_mustBeClaim : GoodIn wsX3_object (wsV RX3 112 RX3 yX3_mustBeClaim wsX3_mustBeClaim) := goodIn_app (goodIn_of _ (by decide +kernel)) ggX3_object_X3_mustBeClaim
set_option maxRecDepth 20000 in
theorem ggX3_object_X0_tally : GoodIn wsX3_object wsX0_tally := goodIn_r _ [22, 18, 23, 33, 34, 35, 36, 37, 38] (by decide +kernel) (by decide +kernel)
set_option maxRecDepth 20000 in
theorem gX3_object_X0_tally : GoodIn wsX3_object (wsV RX3 131 RX0 yX0_tally wsX0_tally) := goodIn_app (goodIn_of _ (by decide +kernel)) ggX3_object_X0_tally
theorem dX3_object_0 : decode cX3_object 0 = .ok (.aload_n 0, 1) := by decide +kernel
theorem dX3_object_1 : decode cX3_object 1 = .ok (.iload_n 1, 1) := by decide +kernel
theorem dX3_object_2 : decode cX3_object 2 = .ok (.invokevirtual 112, 3) := by decide +kernel
theorem dX3_object_5 : decode cX3_object 5 = .ok (.aload_n 0, 1) := by decide +kernel
theorem dX3_object_6 : decode cX3_object 6 = .ok (.getfield 19, 3) := by decide +kernel
theorem dX3_object_9 : decode cX3_object 9 = .ok (.getfield 115, 3) := by decide +kernel
theorem dX3_object_12 : decode cX3_object 12 = .ok (.iload_n 1, 1) := by decide +kernel
theorem dX3_object_13 : decode cX3_object 13 = .ok (.iaload, 1) := by decide +kernel
theorem dX3_object_14 : decode cX3_object 14 = .ok (.iconst 2, 1) := by decide +kernel
theorem dX3_object_15 : decode cX3_object 15 = .ok (.if_icmp .ne 15, 3) := by decide +kernel
theorem dX3_object_18 : decode cX3_object 18 = .ok (.aload_n 0, 1) := by decide +kernel
theorem dX3_object_19 : decode cX3_object 19 = .ok (.getfield 19, 3) := by decide +kernel
theorem dX3_object_22 : decode cX3_object 22 = .ok (.getfield 125, 3) := by decide +kernel
theorem dX3_object_25 : decode cX3_object 25 = .ok (.iload_n 1, 1) := by decide +kernel
theorem dX3_object_26 : decode cX3_object 26 = .ok (.baload, 1) := by decide +kernel
theorem dX3_object_27 : decode cX3_object 27 = .ok (.ifCond .eq 13, 3) := by decide +kernel
theorem dX3_object_30 : decode cX3_object 30 = .ok (.new 103, 3) := by decide +kernel
theorem dX3_object_33 : decode cX3_object 33 = .ok (.dup, 1) := by decide +kernel
theorem dX3_object_34 : decode cX3_object 34 = .ok (.ldc 129, 2) := by decide +kernel
theorem dX3_object_36 : decode cX3_object 36 = .ok (.invokespecial 107, 3) := by decide +kernel
theorem dX3_object_39 : decode cX3_object 39 = .ok (.athrow, 1) := by decide +kernel
theorem dX3_object_40 : decode cX3_object 40 = .ok (.aload_n 0, 1) := by decide +kernel
theorem dX3_object_41 : decode cX3_object 41 = .ok (.getfield 19, 3) := by decide +kernel
theorem dX3_object_44 : decode cX3_object 44 = .ok (.getfield 115, 3) := by decide +kernel
theorem dX3_object_47 : decode cX3_object 47 = .ok (.iload_n 1, 1) := by decide +kernel
theorem dX3_object_48 : decode cX3_object 48 = .ok (.iconst 3, 1) := by decide +kernel
theorem dX3_object_49 : decode cX3_object 49 = .ok (.iastore, 1) := by decide +kernel
theorem dX3_object_50 : decode cX3_object 50 = .ok (.aload_n 0, 1) := by decide +kernel
theorem dX3_object_51 : decode cX3_object 51 = .ok (.getfield 19, 3) := by decide +kernel
theorem dX3_object_54 : decode cX3_object 54 = .ok (.getfield 125, 3) := by decide +kernel
theorem dX3_object_57 : decode cX3_object 57 = .ok (.iload_n 1, 1) := by decide +kernel
theorem dX3_object_58 : decode cX3_object 58 = .ok (.iconst 1, 1) := by decide +kernel
theorem dX3_object_59 : decode cX3_object 59 = .ok (.bastore, 1) := by decide +kernel
theorem dX3_object_60 : decode cX3_object 60 = .ok (.aload_n 0, 1) := by decide +kernel
theorem dX3_object_61 : decode cX3_object 61 = .ok (.getfield 19, 3) := by decide +kernel
theorem dX3_object_64 : decode cX3_object 64 = .ok (.iconst 3, 1) := by decide +kernel
theorem dX3_object_65 : decode cX3_object 65 = .ok (.invokevirtual 131, 3) := by decide +kernel
theorem dX3_object_68 : decode cX3_object 68 = .ok (.ireturn, 1) := by decide +kernel
set_option maxRecDepth 20000 in
theorem ggX3_decide_X3_mustBeClaim : GoodIn wsX3_decide wsX3_mustBeClaim := goodIn_ca (goodIn_r _ [9, 10, 11, 3, 12, 13, 14, 15, 16, 17, 23, 24, 25, 26, 27, 28, 29, 30, 31, 32, 33, 34, 35, 36, 37] (by decide +kernel) (by decide +kernel)) (goodIn_sub (fun _ h => List.mem_cons_of_mem _ (List.mem_append_right _ h)) (by decide +kernel))
set_option maxRecDepth 20000 in
theorem gX3_decide_X3_mustBeClaim : GoodIn wsX3_decide (wsV RX3 112 RX3 yX3_mustBeClaim wsX3_mustBeClaim) := goodIn_app (goodIn_of _ (by decide +kernel)) ggX3_decide_X3_mustBeClaim
set_option maxRecDepth 20000 in
theorem ggX3_decide_X0_tally : GoodIn wsX3_decide wsX0_tally := goodIn_r _ [21, 17, 22, 32, 33, 34, 35, 36, 37] (by decide +kernel) (by decide +kernel)
set_option maxRecDepth 20000 in
theorem gX3_decide_X0_tally : GoodIn wsX3_decide (wsV RX3 131 RX0 yX0_tally wsX0_tally) := goodIn_app (goodIn_of _ (by decide +kernel)) ggX3_decide_X0_tally
theorem dX3_decide_0 : decode cX3_decide 0 = .ok (.aload_n 0, 1) := by decide +kernel
theorem dX3_decide_1 : decode cX3_decide 1 = .ok (.iload_n 1, 1) := by decide +kernel
theorem dX3_decide_2 : decode cX3_decide 2 = .ok (.invokevirtual 112, 3) := by decide +kernel
theorem dX3_decide_5 : decode cX3_decide 5 = .ok (.aload_n 0, 1) := by decide +kernel
theorem dX3_decide_6 : decode cX3_decide 6 = .ok (.getfield 19, 3) := by decide +kernel
theorem dX3_decide_9 : decode cX3_decide 9 = .ok (.getfield 115, 3) := by decide +kernel
theorem dX3_decide_12 : decode cX3_decide 12 = .ok (.iload_n 1, 1) := by decide +kernel
theorem dX3_decide_13 : decode cX3_decide 13 = .ok (.iaload, 1) := by decide +kernel
theorem dX3_decide_14 : decode cX3_decide 14 = .ok (.iconst 3, 1) := by decide +kernel
theorem dX3_decide_15 : decode cX3_decide 15 = .ok (.if_icmp .eq 13, 3) := by decide +kernel
theorem dX3_decide_18 : decode cX3_decide 18 = .ok (.new 103, 3) := by decide +kernel
theorem dX3_decide_21 : decode cX3_decide 21 = .ok (.dup, 1) := by decide +kernel
theorem dX3_decide_22 : decode cX3_decide 22 = .ok (.ldc 135, 2) := by decide +kernel
theorem dX3_decide_24 : decode cX3_decide 24 = .ok (.invokespecial 107, 3) := by decide +kernel
theorem dX3_decide_27 : decode cX3_decide 27 = .ok (.athrow, 1) := by decide +kernel
theorem dX3_decide_28 : decode cX3_decide 28 = .ok (.aload_n 0, 1) := by decide +kernel
theorem dX3_decide_29 : decode cX3_decide 29 = .ok (.getfield 19, 3) := by decide +kernel
theorem dX3_decide_32 : decode cX3_decide 32 = .ok (.getfield 115, 3) := by decide +kernel
