theorem dX4_init_0 : decode cX4_init 0 = .ok (.aload_n 0, 1) := by decide +kernel
theorem dX4_init_1 : decode cX4_init 1 = .ok (.invokespecial 1, 3) := by decide +kernel
theorem dX4_init_4 : decode cX4_init 4 = .ok (.aload_n 0, 1) := by decide +kernel
theorem dX4_init_5 : decode cX4_init 5 = .ok (.iconst 5, 1) := by decide +kernel
theorem dX4_init_6 : decode cX4_init 6 = .ok (.newarray .int, 2) := by decide +kernel
theorem dX4_init_8 : decode cX4_init 8 = .ok (.putfield 7, 3) := by decide +kernel
theorem dX4_init_11 : decode cX4_init 11 = .ok (.aload_n 0, 1) := by decide +kernel
theorem dX4_init_12 : decode cX4_init 12 = .ok (.iconst 5, 1) := by decide +kernel
theorem dX4_init_13 : decode cX4_init 13 = .ok (.newarray .int, 2) := by decide +kernel
theorem dX4_init_15 : decode cX4_init 15 = .ok (.putfield 13, 3) := by decide +kernel
theorem dX4_init_18 : decode cX4_init 18 = .ok (.aload_n 0, 1) := by decide +kernel
theorem dX4_init_19 : decode cX4_init 19 = .ok (.bipush 24, 2) := by decide +kernel
theorem dX4_init_21 : decode cX4_init 21 = .ok (.newarray .int, 2) := by decide +kernel
theorem dX4_init_23 : decode cX4_init 23 = .ok (.putfield 16, 3) := by decide +kernel
theorem dX4_init_26 : decode cX4_init 26 = .ok (.aload_n 0, 1) := by decide +kernel
theorem dX4_init_27 : decode cX4_init 27 = .ok (.bipush 24, 2) := by decide +kernel
theorem dX4_init_29 : decode cX4_init 29 = .ok (.newarray .int, 2) := by decide +kernel
theorem dX4_init_31 : decode cX4_init 31 = .ok (.putfield 19, 3) := by decide +kernel
theorem dX4_init_34 : decode cX4_init 34 = .ok (.aload_n 0, 1) := by decide +kernel
theorem dX4_init_35 : decode cX4_init 35 = .ok (.bipush 24, 2) := by decide +kernel
theorem dX4_init_37 : decode cX4_init 37 = .ok (.newarray .int, 2) := by decide +kernel
theorem dX4_init_39 : decode cX4_init 39 = .ok (.putfield 22, 3) := by decide +kernel
theorem dX4_init_42 : decode cX4_init 42 = .ok (.aload_n 0, 1) := by decide +kernel
theorem dX4_init_43 : decode cX4_init 43 = .ok (.bipush 24, 2) := by decide +kernel
theorem dX4_init_45 : decode cX4_init 45 = .ok (.newarray .int, 2) := by decide +kernel
theorem dX4_init_47 : decode cX4_init 47 = .ok (.putfield 25, 3) := by decide +kernel
theorem dX4_init_50 : decode cX4_init 50 = .ok (.aload_n 0, 1) := by decide +kernel
theorem dX4_init_51 : decode cX4_init 51 = .ok (.bipush 24, 2) := by decide +kernel
theorem dX4_init_53 : decode cX4_init 53 = .ok (.newarray .boolean, 2) := by decide +kernel
theorem dX4_init_55 : decode cX4_init 55 = .ok (.putfield 28, 3) := by decide +kernel
theorem dX4_init_58 : decode cX4_init 58 = .ok (.aload_n 0, 1) := by decide +kernel
theorem dX4_init_59 : decode cX4_init 59 = .ok (.bipush 100, 2) := by decide +kernel
theorem dX4_init_61 : decode cX4_init 61 = .ok (.newarray .int, 2) := by decide +kernel
theorem dX4_init_63 : decode cX4_init 63 = .ok (.putfield 32, 3) := by decide +kernel
theorem dX4_init_66 : decode cX4_init 66 = .ok (.aload_n 0, 1) := by decide +kernel
theorem dX4_init_67 : decode cX4_init 67 = .ok (.bipush 100, 2) := by decide +kernel
theorem dX4_init_69 : decode cX4_init 69 = .ok (.newarray .int, 2) := by decide +kernel
theorem dX4_init_71 : decode cX4_init 71 = .ok (.putfield 35, 3) := by decide +kernel
theorem dX4_init_74 : decode cX4_init 74 = .ok (.aload_n 0, 1) := by decide +kernel
theorem dX4_init_75 : decode cX4_init 75 = .ok (.bipush 100, 2) := by decide +kernel
theorem dX4_init_77 : decode cX4_init 77 = .ok (.newarray .int, 2) := by decide +kernel
theorem dX4_init_79 : decode cX4_init 79 = .ok (.putfield 38, 3) := by decide +kernel
theorem dX4_init_82 : decode cX4_init 82 = .ok (.aload_n 0, 1) := by decide +kernel
theorem dX4_init_83 : decode cX4_init 83 = .ok (.bipush 100, 2) := by decide +kernel
theorem dX4_init_85 : decode cX4_init 85 = .ok (.newarray .int, 2) := by decide +kernel
theorem dX4_init_87 : decode cX4_init 87 = .ok (.putfield 41, 3) := by decide +kernel
theorem dX4_init_90 : decode cX4_init 90 = .ok (.aload_n 0, 1) := by decide +kernel
theorem dX4_init_91 : decode cX4_init 91 = .ok (.bipush 24, 2) := by decide +kernel
theorem dX4_init_93 : decode cX4_init 93 = .ok (.newarray .boolean, 2) := by decide +kernel
theorem dX4_init_95 : decode cX4_init 95 = .ok (.putfield 44, 3) := by decide +kernel
theorem dX4_init_98 : decode cX4_init 98 = .ok (.aload_n 0, 1) := by decide +kernel
theorem dX4_init_99 : decode cX4_init 99 = .ok (.bipush 24, 2) := by decide +kernel
theorem dX4_init_101 : decode cX4_init 101 = .ok (.newarray .boolean, 2) := by decide +kernel
theorem dX4_init_103 : decode cX4_init 103 = .ok (.putfield 47, 3) := by decide +kernel
theorem dX4_init_106 : decode cX4_init 106 = .ok (.aload_n 0, 1) := by decide +kernel
theorem dX4_init_107 : decode cX4_init 107 = .ok (.bipush 24, 2) := by decide +kernel
theorem dX4_init_109 : decode cX4_init 109 = .ok (.newarray .int, 2) := by decide +kernel
theorem dX4_init_111 : decode cX4_init 111 = .ok (.putfield 50, 3) := by decide +kernel
theorem dX4_init_114 : decode cX4_init 114 = .ok (.aload_n 0, 1) := by decide +kernel
theorem dX4_init_115 : decode cX4_init 115 = .ok (.bipush 24, 2) := by decide +kernel
theorem dX4_init_117 : decode cX4_init 117 = .ok (.newarray .int, 2) := by decide +kernel
theorem dX4_init_119 : decode cX4_init 119 = .ok (.putfield 53, 3) := by decide +kernel
theorem dX4_init_122 : decode cX4_init 122 = .ok (.iconst 0, 1) := by decide +kernel
theorem dX4_init_123 : decode cX4_init 123 = .ok (.istore_n 1, 1) := by decide +kernel
theorem dX4_init_124 : decode cX4_init 124 = .ok (.iload_n 1, 1) := by decide +kernel
theorem dX4_init_125 : decode cX4_init 125 = .ok (.iconst 5, 1) := by decide +kernel
theorem dX4_init_126 : decode cX4_init 126 = .ok (.if_icmp .ge 24, 3) := by decide +kernel
theorem dX4_init_129 : decode cX4_init 129 = .ok (.aload_n 0, 1) := by decide +kernel
theorem dX4_init_130 : decode cX4_init 130 = .ok (.getfield 7, 3) := by decide +kernel
theorem dX4_init_133 : decode cX4_init 133 = .ok (.iload_n 1, 1) := by decide +kernel
theorem dX4_init_134 : decode cX4_init 134 = .ok (.iconst 1, 1) := by decide +kernel
theorem dX4_init_135 : decode cX4_init 135 = .ok (.iastore, 1) := by decide +kernel
theorem dX4_init_136 : decode cX4_init 136 = .ok (.aload_n 0, 1) := by decide +kernel
theorem dX4_init_137 : decode cX4_init 137 = .ok (.getfield 13, 3) := by decide +kernel
theorem dX4_init_140 : decode cX4_init 140 = .ok (.iload_n 1, 1) := by decide +kernel
theorem dX4_init_141 : decode cX4_init 141 = .ok (.ldc 56, 2) := by decide +kernel
theorem dX4_init_143 : decode cX4_init 143 = .ok (.iastore, 1) := by decide +kernel
theorem dX4_init_144 : decode cX4_init 144 = .ok (.iinc 1 1, 3) := by decide +kernel
theorem dX4_init_147 : decode cX4_init 147 = .ok (.goto (-23), 3) := by decide +kernel
theorem dX4_init_150 : decode cX4_init 150 = .ok (.return_, 1) := by decide +kernel
theorem dX4_thrown_0 : decode cX4_thrown 0 = .ok (.aload_n 0, 1) := by decide +kernel
theorem dX4_thrown_1 : decode cX4_thrown 1 = .ok (.getfield 57, 3) := by decide +kernel
theorem dX4_thrown_4 : decode cX4_thrown 4 = .ok (.ireturn, 1) := by decide +kernel
theorem dX4_goes_0 : decode cX4_goes 0 = .ok (.aload_n 0, 1) := by decide +kernel
theorem dX4_goes_1 : decode cX4_goes 1 = .ok (.iload_n 1, 1) := by decide +kernel
theorem dX4_goes_2 : decode cX4_goes 2 = .ok (.putfield 57, 3) := by decide +kernel
theorem dX4_goes_5 : decode cX4_goes 5 = .ok (.iload_n 1, 1) := by decide +kernel
theorem dX4_goes_6 : decode cX4_goes 6 = .ok (.ifCond .ne 7, 3) := by decide +kernel
theorem dX4_goes_9 : decode cX4_goes 9 = .ok (.iconst 1, 1) := by decide +kernel
theorem dX4_goes_10 : decode cX4_goes 10 = .ok (.goto 4, 3) := by decide +kernel
theorem dX4_goes_13 : decode cX4_goes 13 = .ok (.iconst 0, 1) := by decide +kernel
theorem dX4_goes_14 : decode cX4_goes 14 = .ok (.ireturn, 1) := by decide +kernel
theorem dX4_isIn_0 : decode cX4_isIn 0 = .ok (.iload_n 0, 1) := by decide +kernel
theorem dX4_isIn_1 : decode cX4_isIn 1 = .ok (.iload_n 1, 1) := by decide +kernel
theorem dX4_isIn_2 : decode cX4_isIn 2 = .ok (.if_icmp .lt 12, 3) := by decide +kernel
theorem dX4_isIn_5 : decode cX4_isIn 5 = .ok (.iload_n 0, 1) := by decide +kernel
theorem dX4_isIn_6 : decode cX4_isIn 6 = .ok (.iload_n 2, 1) := by decide +kernel
theorem dX4_isIn_7 : decode cX4_isIn 7 = .ok (.if_icmp .gt 7, 3) := by decide +kernel
theorem dX4_isIn_10 : decode cX4_isIn 10 = .ok (.iconst 1, 1) := by decide +kernel
theorem dX4_isIn_11 : decode cX4_isIn 11 = .ok (.goto 4, 3) := by decide +kernel
theorem dX4_isIn_14 : decode cX4_isIn 14 = .ok (.iconst 0, 1) := by decide +kernel
theorem dX4_isIn_15 : decode cX4_isIn 15 = .ok (.ireturn, 1) := by decide +kernel
set_option maxRecDepth 20000 in
theorem ggX4_isClaim_X4_isIn : GoodIn wsX4_isClaim wsX4_isIn := goodIn_r _ [5] (by decide +kernel) (by decide +kernel)
set_option maxRecDepth 20000 in
theorem gX4_isClaim_X4_isIn : GoodIn wsX4_isClaim (va_wsS RX4 64 yX4_isIn wsX4_isIn) := goodIn_app (goodIn_of _ (by decide +kernel)) ggX4_isClaim_X4_isIn
theorem dX4_isClaim_0 : decode cX4_isClaim 0 = .ok (.iload_n 1, 1) := by decide +kernel
theorem dX4_isClaim_1 : decode cX4_isClaim 1 = .ok (.iconst 0, 1) := by decide +kernel
theorem dX4_isClaim_2 : decode cX4_isClaim 2 = .ok (.aload_n 0, 1) := by decide +kernel
theorem dX4_isClaim_3 : decode cX4_isClaim 3 = .ok (.getfield 61, 3) := by decide +kernel
theorem dX4_isClaim_6 : decode cX4_isClaim 6 = .ok (.iconst 1, 1) := by decide +kernel
theorem dX4_isClaim_7 : decode cX4_isClaim 7 = .ok (.isub, 1) := by decide +kernel
theorem dX4_isClaim_8 : decode cX4_isClaim 8 = .ok (.invokestatic 64, 3) := by decide +kernel
theorem dX4_isClaim_11 : decode cX4_isClaim 11 = .ok (.ireturn, 1) := by decide +kernel
set_option maxRecDepth 20000 in
theorem ggX4_isPayment_X4_isIn : GoodIn wsX4_isPayment wsX4_isIn := goodIn_r _ [5] (by decide +kernel) (by decide +kernel)
set_option maxRecDepth 20000 in
theorem gX4_isPayment_X4_isIn : GoodIn wsX4_isPayment (va_wsS RX4 64 yX4_isIn wsX4_isIn) := goodIn_app (goodIn_of _ (by decide +kernel)) ggX4_isPayment_X4_isIn
theorem dX4_isPayment_0 : decode cX4_isPayment 0 = .ok (.iload_n 1, 1) := by decide +kernel
theorem dX4_isPayment_1 : decode cX4_isPayment 1 = .ok (.iconst 0, 1) := by decide +kernel
theorem dX4_isPayment_2 : decode cX4_isPayment 2 = .ok (.aload_n 0, 1) := by decide +kernel
theorem dX4_isPayment_3 : decode cX4_isPayment 3 = .ok (.getfield 68, 3) := by decide +kernel
theorem dX4_isPayment_6 : decode cX4_isPayment 6 = .ok (.iconst 1, 1) := by decide +kernel
theorem dX4_isPayment_7 : decode cX4_isPayment 7 = .ok (.isub, 1) := by decide +kernel
theorem dX4_isPayment_8 : decode cX4_isPayment 8 = .ok (.invokestatic 64, 3) := by decide +kernel
theorem dX4_isPayment_11 : decode cX4_isPayment 11 = .ok (.ireturn, 1) := by decide +kernel
theorem dX4_feeNow_0 : decode cX4_feeNow 0 = .ok (.aload_n 0, 1) := by decide +kernel
theorem dX4_feeNow_1 : decode cX4_feeNow 1 = .ok (.getfield 71, 3) := by decide +kernel
theorem dX4_feeNow_4 : decode cX4_feeNow 4 = .ok (.i2l, 1) := by decide +kernel
theorem dX4_feeNow_5 : decode cX4_feeNow 5 = .ok (.aload_n 0, 1) := by decide +kernel
theorem dX4_feeNow_6 : decode cX4_feeNow 6 = .ok (.getfield 74, 3) := by decide +kernel
theorem dX4_feeNow_9 : decode cX4_feeNow 9 = .ok (.i2l, 1) := by decide +kernel
theorem dX4_feeNow_10 : decode cX4_feeNow 10 = .ok (.lmul, 1) := by decide +kernel
theorem dX4_feeNow_11 : decode cX4_feeNow 11 = .ok (.ldc2_w 77, 3) := by decide +kernel
theorem dX4_feeNow_14 : decode cX4_feeNow 14 = .ok (.ldiv, 1) := by decide +kernel
theorem dX4_feeNow_15 : decode cX4_feeNow 15 = .ok (.l2i, 1) := by decide +kernel
theorem dX4_feeNow_16 : decode cX4_feeNow 16 = .ok (.ireturn, 1) := by decide +kernel
set_option maxRecDepth 20000 in
theorem ggX4_left_X4_feeNow : GoodIn wsX4_left wsX4_feeNow := goodIn_r _ [10, 1, 11, 12, 13, 14, 15, 16, 17, 18, 19, 20, 21, 22, 23, 24, 25, 26, 27, 28, 29, 30, 31, 32, 33, 34] (by decide +kernel) (by decide +kernel)
set_option maxRecDepth 20000 in
theorem gX4_left_X4_feeNow : GoodIn wsX4_left (wsV RX4 79 RX4 yX4_feeNow wsX4_feeNow) := goodIn_app (goodIn_of _ (by decide +kernel)) ggX4_left_X4_feeNow
theorem dX4_left_0 : decode cX4_left 0 = .ok (.aload_n 0, 1) := by decide +kernel
theorem dX4_left_1 : decode cX4_left 1 = .ok (.getfield 71, 3) := by decide +kernel
theorem dX4_left_4 : decode cX4_left 4 = .ok (.aload_n 0, 1) := by decide +kernel
theorem dX4_left_5 : decode cX4_left 5 = .ok (.invokevirtual 79, 3) := by decide +kernel
theorem dX4_left_8 : decode cX4_left 8 = .ok (.isub, 1) := by decide +kernel
theorem dX4_left_9 : decode cX4_left 9 = .ok (.aload_n 0, 1) := by decide +kernel
theorem dX4_left_10 : decode cX4_left 10 = .ok (.getfield 83, 3) := by decide +kernel
theorem dX4_left_13 : decode cX4_left 13 = .ok (.isub, 1) := by decide +kernel
theorem dX4_left_14 : decode cX4_left 14 = .ok (.istore_n 1, 1) := by decide +kernel
theorem dX4_left_15 : decode cX4_left 15 = .ok (.iconst 0, 1) := by decide +kernel
theorem dX4_left_16 : decode cX4_left 16 = .ok (.istore_n 2, 1) := by decide +kernel
theorem dX4_left_17 : decode cX4_left 17 = .ok (.iload_n 2, 1) := by decide +kernel
theorem dX4_left_18 : decode cX4_left 18 = .ok (.aload_n 0, 1) := by decide +kernel
theorem dX4_left_19 : decode cX4_left 19 = .ok (.getfield 68, 3) := by decide +kernel
theorem dX4_left_22 : decode cX4_left 22 = .ok (.if_icmp .ge 32, 3) := by decide +kernel
theorem dX4_left_25 : decode cX4_left 25 = .ok (.iload_n 1, 1) := by decide +kernel
theorem dX4_left_26 : decode cX4_left 26 = .ok (.aload_n 0, 1) := by decide +kernel
theorem dX4_left_27 : decode cX4_left 27 = .ok (.getfield 41, 3) := by decide +kernel
theorem dX4_left_30 : decode cX4_left 30 = .ok (.iload_n 2, 1) := by decide +kernel
theorem dX4_left_31 : decode cX4_left 31 = .ok (.iaload, 1) := by decide +kernel
theorem dX4_left_32 : decode cX4_left 32 = .ok (.iconst 2, 1) := by decide +kernel
theorem dX4_left_33 : decode cX4_left 33 = .ok (.if_icmp .ne 7, 3) := by decide +kernel
theorem dX4_left_36 : decode cX4_left 36 = .ok (.iconst 0, 1) := by decide +kernel
theorem dX4_left_37 : decode cX4_left 37 = .ok (.goto 9, 3) := by decide +kernel
theorem dX4_left_40 : decode cX4_left 40 = .ok (.aload_n 0, 1) := by decide +kernel
theorem dX4_left_41 : decode cX4_left 41 = .ok (.getfield 35, 3) := by decide +kernel
theorem dX4_left_44 : decode cX4_left 44 = .ok (.iload_n 2, 1) := by decide +kernel
theorem dX4_left_45 : decode cX4_left 45 = .ok (.iaload, 1) := by decide +kernel
theorem dX4_left_46 : decode cX4_left 46 = .ok (.isub, 1) := by decide +kernel
theorem dX4_left_47 : decode cX4_left 47 = .ok (.istore_n 1, 1) := by decide +kernel
theorem dX4_left_48 : decode cX4_left 48 = .ok (.iinc 2 1, 3) := by decide +kernel
theorem dX4_left_51 : decode cX4_left 51 = .ok (.goto (-34), 3) := by decide +kernel
theorem dX4_left_54 : decode cX4_left 54 = .ok (.iload_n 1, 1) := by decide +kernel
theorem dX4_left_55 : decode cX4_left 55 = .ok (.ireturn, 1) := by decide +kernel
set_option maxRecDepth 20000 in
theorem ggX4_setFund_X4_isIn : GoodIn wsX4_setFund wsX4_isIn := goodIn_r _ [10] (by decide +kernel) (by decide +kernel)
set_option maxRecDepth 20000 in
theorem gX4_setFund_X4_isIn : GoodIn wsX4_setFund (va_wsS RX4 64 yX4_isIn wsX4_isIn) := goodIn_app (goodIn_of _ (by decide +kernel)) ggX4_setFund_X4_isIn
set_option maxRecDepth 20000 in
theorem ggX4_setFund_X4_goes : GoodIn wsX4_setFund wsX4_goes := goodIn_r _ [14, 15, 27, 28, 29, 30, 31, 32, 33, 34, 35, 36, 37, 38, 39, 40, 41, 42, 43, 44, 45, 46, 47, 48] (by decide +kernel) (by decide +kernel)
set_option maxRecDepth 20000 in
theorem gX4_setFund_X4_goes : GoodIn wsX4_setFund (wsV RX4 87 RX4 yX4_goes wsX4_goes) := goodIn_app (goodIn_of _ (by decide +kernel)) ggX4_setFund_X4_goes
set_option maxRecDepth 20000 in
theorem ggX4_setFund_X4_left : GoodIn wsX4_setFund wsX4_left := goodIn_r _ [19, 4, 6, 3, 20, 21, 22, 23, 24, 9, 25, 5, 26, 27, 28, 29, 30, 31, 32, 33, 34, 35, 36, 37, 38, 39, 40, 41, 42, 43, 44, 45, 46, 47, 48] (by decide +kernel) (by decide +kernel)
set_option maxRecDepth 20000 in
theorem gX4_setFund_X4_left : GoodIn wsX4_setFund (wsV RX4 91 RX4 yX4_left wsX4_left) := goodIn_app (goodIn_of _ (by decide +kernel)) ggX4_setFund_X4_left
theorem dX4_setFund_0 : decode cX4_setFund 0 = .ok (.iload_n 1, 1) := by decide +kernel
theorem dX4_setFund_1 : decode cX4_setFund 1 = .ok (.iconst 0, 1) := by decide +kernel
theorem dX4_setFund_2 : decode cX4_setFund 2 = .ok (.ldc 86, 2) := by decide +kernel
theorem dX4_setFund_4 : decode cX4_setFund 4 = .ok (.invokestatic 64, 3) := by decide +kernel
theorem dX4_setFund_7 : decode cX4_setFund 7 = .ok (.ifCond .eq 28, 3) := by decide +kernel
theorem dX4_setFund_10 : decode cX4_setFund 10 = .ok (.iload_n 2, 1) := by decide +kernel
theorem dX4_setFund_11 : decode cX4_setFund 11 = .ok (.iconst 0, 1) := by decide +kernel
theorem dX4_setFund_12 : decode cX4_setFund 12 = .ok (.sipush 500, 3) := by decide +kernel
theorem dX4_setFund_15 : decode cX4_setFund 15 = .ok (.invokestatic 64, 3) := by decide +kernel
theorem dX4_setFund_18 : decode cX4_setFund 18 = .ok (.ifCond .eq 17, 3) := by decide +kernel
theorem dX4_setFund_21 : decode cX4_setFund 21 = .ok (.iload_n 3, 1) := by decide +kernel
theorem dX4_setFund_22 : decode cX4_setFund 22 = .ok (.iconst 0, 1) := by decide +kernel
theorem dX4_setFund_23 : decode cX4_setFund 23 = .ok (.ldc 56, 2) := by decide +kernel
theorem dX4_setFund_25 : decode cX4_setFund 25 = .ok (.invokestatic 64, 3) := by decide +kernel
theorem dX4_setFund_28 : decode cX4_setFund 28 = .ok (.ifCond .eq 7, 3) := by decide +kernel
theorem dX4_setFund_31 : decode cX4_setFund 31 = .ok (.iconst 1, 1) := by decide +kernel
theorem dX4_setFund_32 : decode cX4_setFund 32 = .ok (.goto 4, 3) := by decide +kernel
theorem dX4_setFund_35 : decode cX4_setFund 35 = .ok (.iconst 0, 1) := by decide +kernel
theorem dX4_setFund_36 : decode cX4_setFund 36 = .ok (.istore 4, 2) := by decide +kernel
theorem dX4_setFund_38 : decode cX4_setFund 38 = .ok (.aload_n 0, 1) := by decide +kernel
theorem dX4_setFund_39 : decode cX4_setFund 39 = .ok (.iload 4, 2) := by decide +kernel
theorem dX4_setFund_41 : decode cX4_setFund 41 = .ok (.ifCond .ne 7, 3) := by decide +kernel
theorem dX4_setFund_44 : decode cX4_setFund 44 = .ok (.iconst 1, 1) := by decide +kernel
theorem dX4_setFund_45 : decode cX4_setFund 45 = .ok (.goto 15, 3) := by decide +kernel
theorem dX4_setFund_48 : decode cX4_setFund 48 = .ok (.aload_n 0, 1) := by decide +kernel
theorem dX4_setFund_49 : decode cX4_setFund 49 = .ok (.getfield 68, 3) := by decide +kernel
theorem dX4_setFund_52 : decode cX4_setFund 52 = .ok (.ifCond .le 7, 3) := by decide +kernel
theorem dX4_setFund_55 : decode cX4_setFund 55 = .ok (.iconst 2, 1) := by decide +kernel
theorem dX4_setFund_56 : decode cX4_setFund 56 = .ok (.goto 4, 3) := by decide +kernel
theorem dX4_setFund_59 : decode cX4_setFund 59 = .ok (.iconst 0, 1) := by decide +kernel
theorem dX4_setFund_60 : decode cX4_setFund 60 = .ok (.invokevirtual 87, 3) := by decide +kernel
theorem dX4_setFund_63 : decode cX4_setFund 63 = .ok (.ifCond .ne 5, 3) := by decide +kernel
theorem dX4_setFund_66 : decode cX4_setFund 66 = .ok (.iconst 0, 1) := by decide +kernel
theorem dX4_setFund_67 : decode cX4_setFund 67 = .ok (.ireturn, 1) := by decide +kernel
theorem dX4_setFund_68 : decode cX4_setFund 68 = .ok (.aload_n 0, 1) := by decide +kernel
theorem dX4_setFund_69 : decode cX4_setFund 69 = .ok (.iload_n 1, 1) := by decide +kernel
theorem dX4_setFund_70 : decode cX4_setFund 70 = .ok (.putfield 71, 3) := by decide +kernel
theorem dX4_setFund_73 : decode cX4_setFund 73 = .ok (.aload_n 0, 1) := by decide +kernel
theorem dX4_setFund_74 : decode cX4_setFund 74 = .ok (.iload_n 2, 1) := by decide +kernel
theorem dX4_setFund_75 : decode cX4_setFund 75 = .ok (.putfield 74, 3) := by decide +kernel
theorem dX4_setFund_78 : decode cX4_setFund 78 = .ok (.aload_n 0, 1) := by decide +kernel
theorem dX4_setFund_79 : decode cX4_setFund 79 = .ok (.iload_n 3, 1) := by decide +kernel
theorem dX4_setFund_80 : decode cX4_setFund 80 = .ok (.putfield 83, 3) := by decide +kernel
theorem dX4_setFund_83 : decode cX4_setFund 83 = .ok (.aload_n 0, 1) := by decide +kernel
theorem dX4_setFund_84 : decode cX4_setFund 84 = .ok (.invokevirtual 91, 3) := by decide +kernel
theorem dX4_setFund_87 : decode cX4_setFund 87 = .ok (.ireturn, 1) := by decide +kernel
set_option maxRecDepth 20000 in
theorem ggX4_setGrade_X4_isIn : GoodIn wsX4_setGrade wsX4_isIn := goodIn_r _ [8] (by decide +kernel) (by decide +kernel)
set_option maxRecDepth 20000 in
theorem gX4_setGrade_X4_isIn : GoodIn wsX4_setGrade (va_wsS RX4 64 yX4_isIn wsX4_isIn) := goodIn_app (goodIn_of _ (by decide +kernel)) ggX4_setGrade_X4_isIn
set_option maxRecDepth 20000 in
theorem ggX4_setGrade_X4_goes : GoodIn wsX4_setGrade wsX4_goes := goodIn_r _ [12, 13, 14, 15, 16, 17, 18, 19, 20, 21, 22, 23, 24, 25, 26, 27, 28, 29, 30, 31, 32, 33, 34, 35] (by decide +kernel) (by decide +kernel)
set_option maxRecDepth 20000 in
theorem gX4_setGrade_X4_goes : GoodIn wsX4_setGrade (wsV RX4 87 RX4 yX4_goes wsX4_goes) := goodIn_app (goodIn_of _ (by decide +kernel)) ggX4_setGrade_X4_goes
theorem dX4_setGrade_0 : decode cX4_setGrade 0 = .ok (.iload_n 2, 1) := by decide +kernel
theorem dX4_setGrade_1 : decode cX4_setGrade 1 = .ok (.iconst 1, 1) := by decide +kernel
theorem dX4_setGrade_2 : decode cX4_setGrade 2 = .ok (.bipush 100, 2) := by decide +kernel
theorem dX4_setGrade_4 : decode cX4_setGrade 4 = .ok (.invokestatic 64, 3) := by decide +kernel
theorem dX4_setGrade_7 : decode cX4_setGrade 7 = .ok (.ifCond .eq 17, 3) := by decide +kernel
theorem dX4_setGrade_10 : decode cX4_setGrade 10 = .ok (.iload_n 3, 1) := by decide +kernel
theorem dX4_setGrade_11 : decode cX4_setGrade 11 = .ok (.iconst 1, 1) := by decide +kernel
theorem dX4_setGrade_12 : decode cX4_setGrade 12 = .ok (.ldc 56, 2) := by decide +kernel
theorem dX4_setGrade_14 : decode cX4_setGrade 14 = .ok (.invokestatic 64, 3) := by decide +kernel
theorem dX4_setGrade_17 : decode cX4_setGrade 17 = .ok (.ifCond .eq 7, 3) := by decide +kernel
theorem dX4_setGrade_20 : decode cX4_setGrade 20 = .ok (.iconst 1, 1) := by decide +kernel
theorem dX4_setGrade_21 : decode cX4_setGrade 21 = .ok (.goto 4, 3) := by decide +kernel
theorem dX4_setGrade_24 : decode cX4_setGrade 24 = .ok (.iconst 0, 1) := by decide +kernel
theorem dX4_setGrade_25 : decode cX4_setGrade 25 = .ok (.istore 4, 2) := by decide +kernel
theorem dX4_setGrade_27 : decode cX4_setGrade 27 = .ok (.aload_n 0, 1) := by decide +kernel
theorem dX4_setGrade_28 : decode cX4_setGrade 28 = .ok (.iload_n 1, 1) := by decide +kernel
theorem dX4_setGrade_29 : decode cX4_setGrade 29 = .ok (.iconst 0, 1) := by decide +kernel
theorem dX4_setGrade_30 : decode cX4_setGrade 30 = .ok (.iconst 4, 1) := by decide +kernel
theorem dX4_setGrade_31 : decode cX4_setGrade 31 = .ok (.invokestatic 64, 3) := by decide +kernel
theorem dX4_setGrade_34 : decode cX4_setGrade 34 = .ok (.ifCond .ne 7, 3) := by decide +kernel
theorem dX4_setGrade_37 : decode cX4_setGrade 37 = .ok (.iconst 1, 1) := by decide +kernel
theorem dX4_setGrade_38 : decode cX4_setGrade 38 = .ok (.goto 24, 3) := by decide +kernel
theorem dX4_setGrade_41 : decode cX4_setGrade 41 = .ok (.iload 4, 2) := by decide +kernel
theorem dX4_setGrade_43 : decode cX4_setGrade 43 = .ok (.ifCond .ne 7, 3) := by decide +kernel
theorem dX4_setGrade_46 : decode cX4_setGrade 46 = .ok (.iconst 2, 1) := by decide +kernel
theorem dX4_setGrade_47 : decode cX4_setGrade 47 = .ok (.goto 15, 3) := by decide +kernel
theorem dX4_setGrade_50 : decode cX4_setGrade 50 = .ok (.aload_n 0, 1) := by decide +kernel
theorem dX4_setGrade_51 : decode cX4_setGrade 51 = .ok (.getfield 68, 3) := by decide +kernel
theorem dX4_setGrade_54 : decode cX4_setGrade 54 = .ok (.ifCond .le 7, 3) := by decide +kernel
theorem dX4_setGrade_57 : decode cX4_setGrade 57 = .ok (.iconst 3, 1) := by decide +kernel
theorem dX4_setGrade_58 : decode cX4_setGrade 58 = .ok (.goto 4, 3) := by decide +kernel
theorem dX4_setGrade_61 : decode cX4_setGrade 61 = .ok (.iconst 0, 1) := by decide +kernel
theorem dX4_setGrade_62 : decode cX4_setGrade 62 = .ok (.invokevirtual 87, 3) := by decide +kernel
theorem dX4_setGrade_65 : decode cX4_setGrade 65 = .ok (.ifCond .eq 17, 3) := by decide +kernel
theorem dX4_setGrade_68 : decode cX4_setGrade 68 = .ok (.aload_n 0, 1) := by decide +kernel
theorem dX4_setGrade_69 : decode cX4_setGrade 69 = .ok (.getfield 7, 3) := by decide +kernel
theorem dX4_setGrade_72 : decode cX4_setGrade 72 = .ok (.iload_n 1, 1) := by decide +kernel
theorem dX4_setGrade_73 : decode cX4_setGrade 73 = .ok (.iload_n 2, 1) := by decide +kernel
theorem dX4_setGrade_74 : decode cX4_setGrade 74 = .ok (.iastore, 1) := by decide +kernel
theorem dX4_setGrade_75 : decode cX4_setGrade 75 = .ok (.aload_n 0, 1) := by decide +kernel
theorem dX4_setGrade_76 : decode cX4_setGrade 76 = .ok (.getfield 13, 3) := by decide +kernel
theorem dX4_setGrade_79 : decode cX4_setGrade 79 = .ok (.iload_n 1, 1) := by decide +kernel
theorem dX4_setGrade_80 : decode cX4_setGrade 80 = .ok (.iload_n 3, 1) := by decide +kernel
theorem dX4_setGrade_81 : decode cX4_setGrade 81 = .ok (.iastore, 1) := by decide +kernel
theorem dX4_setGrade_82 : decode cX4_setGrade 82 = .ok (.return_, 1) := by decide +kernel
set_option maxRecDepth 20000 in
theorem ggX4_pass_X4_isIn : GoodIn wsX4_pass wsX4_isIn := goodIn_r _ [11] (by decide +kernel) (by decide +kernel)
set_option maxRecDepth 20000 in
theorem gX4_pass_X4_isIn : GoodIn wsX4_pass (va_wsS RX4 64 yX4_isIn wsX4_isIn) := goodIn_app (goodIn_of _ (by decide +kernel)) ggX4_pass_X4_isIn
set_option maxRecDepth 20000 in
theorem ggX4_pass_X4_goes : GoodIn wsX4_pass wsX4_goes := goodIn_r _ [15, 16, 17, 18, 19, 20, 21, 22, 23, 24, 25, 26, 27, 28, 29, 30, 31, 32, 33, 34, 35, 36, 37, 38] (by decide +kernel) (by decide +kernel)
set_option maxRecDepth 20000 in
theorem gX4_pass_X4_goes : GoodIn wsX4_pass (wsV RX4 87 RX4 yX4_goes wsX4_goes) := goodIn_app (goodIn_of _ (by decide +kernel)) ggX4_pass_X4_goes
theorem dX4_pass_0 : decode cX4_pass 0 = .ok (.aload_n 0, 1) := by decide +kernel
theorem dX4_pass_1 : decode cX4_pass 1 = .ok (.iload_n 1, 1) := by decide +kernel
theorem dX4_pass_2 : decode cX4_pass 2 = .ok (.iconst 1, 1) := by decide +kernel
theorem dX4_pass_3 : decode cX4_pass 3 = .ok (.sipush 200, 3) := by decide +kernel
theorem dX4_pass_6 : decode cX4_pass 6 = .ok (.invokestatic 64, 3) := by decide +kernel
theorem dX4_pass_9 : decode cX4_pass 9 = .ok (.ifCond .eq 7, 3) := by decide +kernel
theorem dX4_pass_12 : decode cX4_pass 12 = .ok (.iconst 0, 1) := by decide +kernel
theorem dX4_pass_13 : decode cX4_pass 13 = .ok (.goto 4, 3) := by decide +kernel
theorem dX4_pass_16 : decode cX4_pass 16 = .ok (.iconst 1, 1) := by decide +kernel
theorem dX4_pass_17 : decode cX4_pass 17 = .ok (.invokevirtual 87, 3) := by decide +kernel
theorem dX4_pass_20 : decode cX4_pass 20 = .ok (.ifCond .ne 5, 3) := by decide +kernel
theorem dX4_pass_23 : decode cX4_pass 23 = .ok (.iconst 0, 1) := by decide +kernel
theorem dX4_pass_24 : decode cX4_pass 24 = .ok (.ireturn, 1) := by decide +kernel
theorem dX4_pass_25 : decode cX4_pass 25 = .ok (.iconst 0, 1) := by decide +kernel
theorem dX4_pass_26 : decode cX4_pass 26 = .ok (.istore_n 2, 1) := by decide +kernel
theorem dX4_pass_27 : decode cX4_pass 27 = .ok (.iload_n 2, 1) := by decide +kernel
theorem dX4_pass_28 : decode cX4_pass 28 = .ok (.iload_n 1, 1) := by decide +kernel
theorem dX4_pass_29 : decode cX4_pass 29 = .ok (.if_icmp .ge 143, 3) := by decide +kernel
theorem dX4_pass_32 : decode cX4_pass 32 = .ok (.aload_n 0, 1) := by decide +kernel
theorem dX4_pass_33 : decode cX4_pass 33 = .ok (.dup, 1) := by decide +kernel
theorem dX4_pass_34 : decode cX4_pass 34 = .ok (.getfield 94, 3) := by decide +kernel
theorem dX4_pass_37 : decode cX4_pass 37 = .ok (.iconst 1, 1) := by decide +kernel
theorem dX4_pass_38 : decode cX4_pass 38 = .ok (.iadd, 1) := by decide +kernel
theorem dX4_pass_39 : decode cX4_pass 39 = .ok (.putfield 94, 3) := by decide +kernel
theorem dX4_pass_42 : decode cX4_pass 42 = .ok (.iconst 0, 1) := by decide +kernel
theorem dX4_pass_43 : decode cX4_pass 43 = .ok (.istore_n 3, 1) := by decide +kernel
theorem dX4_pass_44 : decode cX4_pass 44 = .ok (.iload_n 3, 1) := by decide +kernel
theorem dX4_pass_45 : decode cX4_pass 45 = .ok (.aload_n 0, 1) := by decide +kernel
theorem dX4_pass_46 : decode cX4_pass 46 = .ok (.getfield 61, 3) := by decide +kernel
theorem dX4_pass_49 : decode cX4_pass 49 = .ok (.if_icmp .ge 48, 3) := by decide +kernel
theorem dX4_pass_52 : decode cX4_pass 52 = .ok (.aload_n 0, 1) := by decide +kernel
theorem dX4_pass_53 : decode cX4_pass 53 = .ok (.getfield 22, 3) := by decide +kernel
theorem dX4_pass_56 : decode cX4_pass 56 = .ok (.iload_n 3, 1) := by decide +kernel
theorem dX4_pass_57 : decode cX4_pass 57 = .ok (.aload_n 0, 1) := by decide +kernel
theorem dX4_pass_58 : decode cX4_pass 58 = .ok (.getfield 22, 3) := by decide +kernel
theorem dX4_pass_61 : decode cX4_pass 61 = .ok (.iload_n 3, 1) := by decide +kernel
theorem dX4_pass_62 : decode cX4_pass 62 = .ok (.iaload, 1) := by decide +kernel
theorem dX4_pass_63 : decode cX4_pass 63 = .ok (.iconst 1, 1) := by decide +kernel
theorem dX4_pass_64 : decode cX4_pass 64 = .ok (.if_icmp .ne 20, 3) := by decide +kernel
theorem dX4_pass_67 : decode cX4_pass 67 = .ok (.aload_n 0, 1) := by decide +kernel
theorem dX4_pass_68 : decode cX4_pass 68 = .ok (.getfield 25, 3) := by decide +kernel
theorem dX4_pass_71 : decode cX4_pass 71 = .ok (.iload_n 3, 1) := by decide +kernel
theorem dX4_pass_72 : decode cX4_pass 72 = .ok (.iaload, 1) := by decide +kernel
theorem dX4_pass_73 : decode cX4_pass 73 = .ok (.aload_n 0, 1) := by decide +kernel
theorem dX4_pass_74 : decode cX4_pass 74 = .ok (.getfield 94, 3) := by decide +kernel
theorem dX4_pass_77 : decode cX4_pass 77 = .ok (.if_icmp .ge 7, 3) := by decide +kernel
theorem dX4_pass_80 : decode cX4_pass 80 = .ok (.iconst 2, 1) := by decide +kernel
theorem dX4_pass_81 : decode cX4_pass 81 = .ok (.goto 9, 3) := by decide +kernel
theorem dX4_pass_84 : decode cX4_pass 84 = .ok (.aload_n 0, 1) := by decide +kernel
theorem dX4_pass_85 : decode cX4_pass 85 = .ok (.getfield 22, 3) := by decide +kernel
theorem dX4_pass_88 : decode cX4_pass 88 = .ok (.iload_n 3, 1) := by decide +kernel
theorem dX4_pass_89 : decode cX4_pass 89 = .ok (.iaload, 1) := by decide +kernel
theorem dX4_pass_90 : decode cX4_pass 90 = .ok (.iastore, 1) := by decide +kernel
theorem dX4_pass_91 : decode cX4_pass 91 = .ok (.iinc 3 1, 3) := by decide +kernel
theorem dX4_pass_94 : decode cX4_pass 94 = .ok (.goto (-50), 3) := by decide +kernel
theorem dX4_pass_97 : decode cX4_pass 97 = .ok (.iconst 0, 1) := by decide +kernel
theorem dX4_pass_98 : decode cX4_pass 98 = .ok (.istore_n 3, 1) := by decide +kernel
theorem dX4_pass_99 : decode cX4_pass 99 = .ok (.iload_n 3, 1) := by decide +kernel
theorem dX4_pass_100 : decode cX4_pass 100 = .ok (.aload_n 0, 1) := by decide +kernel
theorem dX4_pass_101 : decode cX4_pass 101 = .ok (.getfield 68, 3) := by decide +kernel
theorem dX4_pass_104 : decode cX4_pass 104 = .ok (.if_icmp .ge 62, 3) := by decide +kernel
theorem dX4_pass_107 : decode cX4_pass 107 = .ok (.aload_n 0, 1) := by decide +kernel
theorem dX4_pass_108 : decode cX4_pass 108 = .ok (.getfield 41, 3) := by decide +kernel
theorem dX4_pass_111 : decode cX4_pass 111 = .ok (.iload_n 3, 1) := by decide +kernel
theorem dX4_pass_112 : decode cX4_pass 112 = .ok (.iaload, 1) := by decide +kernel
theorem dX4_pass_113 : decode cX4_pass 113 = .ok (.ifCond .ne 23, 3) := by decide +kernel
theorem dX4_pass_116 : decode cX4_pass 116 = .ok (.aload_n 0, 1) := by decide +kernel
theorem dX4_pass_117 : decode cX4_pass 117 = .ok (.getfield 94, 3) := by decide +kernel
theorem dX4_pass_120 : decode cX4_pass 120 = .ok (.aload_n 0, 1) := by decide +kernel
theorem dX4_pass_121 : decode cX4_pass 121 = .ok (.getfield 38, 3) := by decide +kernel
theorem dX4_pass_124 : decode cX4_pass 124 = .ok (.iload_n 3, 1) := by decide +kernel
theorem dX4_pass_125 : decode cX4_pass 125 = .ok (.iaload, 1) := by decide +kernel
theorem dX4_pass_126 : decode cX4_pass 126 = .ok (.isub, 1) := by decide +kernel
theorem dX4_pass_127 : decode cX4_pass 127 = .ok (.bipush 30, 2) := by decide +kernel
theorem dX4_pass_129 : decode cX4_pass 129 = .ok (.if_icmp .le 7, 3) := by decide +kernel
theorem dX4_pass_132 : decode cX4_pass 132 = .ok (.iconst 1, 1) := by decide +kernel
theorem dX4_pass_133 : decode cX4_pass 133 = .ok (.goto 4, 3) := by decide +kernel
theorem dX4_pass_136 : decode cX4_pass 136 = .ok (.iconst 0, 1) := by decide +kernel
theorem dX4_pass_137 : decode cX4_pass 137 = .ok (.istore 4, 2) := by decide +kernel
theorem dX4_pass_139 : decode cX4_pass 139 = .ok (.aload_n 0, 1) := by decide +kernel
theorem dX4_pass_140 : decode cX4_pass 140 = .ok (.getfield 41, 3) := by decide +kernel
theorem dX4_pass_143 : decode cX4_pass 143 = .ok (.iload_n 3, 1) := by decide +kernel
theorem dX4_pass_144 : decode cX4_pass 144 = .ok (.iload 4, 2) := by decide +kernel
theorem dX4_pass_146 : decode cX4_pass 146 = .ok (.ifCond .eq 7, 3) := by decide +kernel
theorem dX4_pass_149 : decode cX4_pass 149 = .ok (.iconst 2, 1) := by decide +kernel
theorem dX4_pass_150 : decode cX4_pass 150 = .ok (.goto 9, 3) := by decide +kernel
theorem dX4_pass_153 : decode cX4_pass 153 = .ok (.aload_n 0, 1) := by decide +kernel
theorem dX4_pass_154 : decode cX4_pass 154 = .ok (.getfield 41, 3) := by decide +kernel
theorem dX4_pass_157 : decode cX4_pass 157 = .ok (.iload_n 3, 1) := by decide +kernel
theorem dX4_pass_158 : decode cX4_pass 158 = .ok (.iaload, 1) := by decide +kernel
theorem dX4_pass_159 : decode cX4_pass 159 = .ok (.iastore, 1) := by decide +kernel
theorem dX4_pass_160 : decode cX4_pass 160 = .ok (.iinc 3 1, 3) := by decide +kernel
theorem dX4_pass_163 : decode cX4_pass 163 = .ok (.goto (-64), 3) := by decide +kernel
theorem dX4_pass_166 : decode cX4_pass 166 = .ok (.iinc 2 1, 3) := by decide +kernel
theorem dX4_pass_169 : decode cX4_pass 169 = .ok (.goto (-142), 3) := by decide +kernel
theorem dX4_pass_172 : decode cX4_pass 172 = .ok (.aload_n 0, 1) := by decide +kernel
theorem dX4_pass_173 : decode cX4_pass 173 = .ok (.getfield 94, 3) := by decide +kernel
theorem dX4_pass_176 : decode cX4_pass 176 = .ok (.ireturn, 1) := by decide +kernel
theorem dX4_ofPerson_0 : decode cX4_ofPerson 0 = .ok (.iconst (-1), 1) := by decide +kernel
theorem dX4_ofPerson_1 : decode cX4_ofPerson 1 = .ok (.istore_n 2, 1) := by decide +kernel
theorem dX4_ofPerson_2 : decode cX4_ofPerson 2 = .ok (.iconst 0, 1) := by decide +kernel
theorem dX4_ofPerson_3 : decode cX4_ofPerson 3 = .ok (.istore_n 3, 1) := by decide +kernel
theorem dX4_ofPerson_4 : decode cX4_ofPerson 4 = .ok (.iload_n 3, 1) := by decide +kernel
theorem dX4_ofPerson_5 : decode cX4_ofPerson 5 = .ok (.aload_n 0, 1) := by decide +kernel
theorem dX4_ofPerson_6 : decode cX4_ofPerson 6 = .ok (.getfield 61, 3) := by decide +kernel
theorem dX4_ofPerson_9 : decode cX4_ofPerson 9 = .ok (.if_icmp .ge 25, 3) := by decide +kernel
theorem dX4_ofPerson_12 : decode cX4_ofPerson 12 = .ok (.aload_n 0, 1) := by decide +kernel
theorem dX4_ofPerson_13 : decode cX4_ofPerson 13 = .ok (.getfield 16, 3) := by decide +kernel
theorem dX4_ofPerson_16 : decode cX4_ofPerson 16 = .ok (.iload_n 3, 1) := by decide +kernel
theorem dX4_ofPerson_17 : decode cX4_ofPerson 17 = .ok (.iaload, 1) := by decide +kernel
theorem dX4_ofPerson_18 : decode cX4_ofPerson 18 = .ok (.iload_n 1, 1) := by decide +kernel
theorem dX4_ofPerson_19 : decode cX4_ofPerson 19 = .ok (.if_icmp .ne 7, 3) := by decide +kernel
theorem dX4_ofPerson_22 : decode cX4_ofPerson 22 = .ok (.iload_n 3, 1) := by decide +kernel
theorem dX4_ofPerson_23 : decode cX4_ofPerson 23 = .ok (.goto 4, 3) := by decide +kernel
theorem dX4_ofPerson_26 : decode cX4_ofPerson 26 = .ok (.iload_n 2, 1) := by decide +kernel
theorem dX4_ofPerson_27 : decode cX4_ofPerson 27 = .ok (.istore_n 2, 1) := by decide +kernel
theorem dX4_ofPerson_28 : decode cX4_ofPerson 28 = .ok (.iinc 3 1, 3) := by decide +kernel
theorem dX4_ofPerson_31 : decode cX4_ofPerson 31 = .ok (.goto (-27), 3) := by decide +kernel
theorem dX4_ofPerson_34 : decode cX4_ofPerson 34 = .ok (.iload_n 2, 1) := by decide +kernel
theorem dX4_ofPerson_35 : decode cX4_ofPerson 35 = .ok (.ireturn, 1) := by decide +kernel
set_option maxRecDepth 20000 in
theorem ggX4_claim_X4_isIn : GoodIn wsX4_claim wsX4_isIn := goodIn_r _ [11] (by decide +kernel) (by decide +kernel)
set_option maxRecDepth 20000 in
theorem gX4_claim_X4_isIn : GoodIn wsX4_claim (va_wsS RX4 64 yX4_isIn wsX4_isIn) := goodIn_app (goodIn_of _ (by decide +kernel)) ggX4_claim_X4_isIn
set_option maxRecDepth 20000 in
theorem ggX4_claim_X4_ofPerson : GoodIn wsX4_claim wsX4_ofPerson := goodIn_r _ [15, 1, 2, 21, 22, 23, 24, 25, 26, 27, 28, 29, 30, 31, 32, 33, 34, 35, 36, 37, 38, 39, 40, 41, 42] (by decide +kernel) (by decide +kernel)
set_option maxRecDepth 20000 in
theorem gX4_claim_X4_ofPerson : GoodIn wsX4_claim (wsV RX4 97 RX4 yX4_ofPerson wsX4_ofPerson) := goodIn_app (goodIn_of _ (by decide +kernel)) ggX4_claim_X4_ofPerson
set_option maxRecDepth 20000 in
theorem ggX4_claim_X4_goes : GoodIn wsX4_claim wsX4_goes := goodIn_r _ [19, 20, 21, 22, 23, 24, 25, 26, 27, 28, 29, 30, 31, 32, 33, 34, 35, 36, 37, 38, 39, 40, 41, 42] (by decide +kernel) (by decide +kernel)
set_option maxRecDepth 20000 in
theorem gX4_claim_X4_goes : GoodIn wsX4_claim (wsV RX4 87 RX4 yX4_goes wsX4_goes) := goodIn_app (goodIn_of _ (by decide +kernel)) ggX4_claim_X4_goes
theorem dX4_claim_0 : decode cX4_claim 0 = .ok (.iload_n 1, 1) := by decide +kernel
theorem dX4_claim_1 : decode cX4_claim 1 = .ok (.iconst 0, 1) := by decide +kernel
theorem dX4_claim_2 : decode cX4_claim 2 = .ok (.bipush 29, 2) := by decide +kernel
theorem dX4_claim_4 : decode cX4_claim 4 = .ok (.invokestatic 64, 3) := by decide +kernel
theorem dX4_claim_7 : decode cX4_claim 7 = .ok (.ifCond .eq 16, 3) := by decide +kernel
theorem dX4_claim_10 : decode cX4_claim 10 = .ok (.iload_n 2, 1) := by decide +kernel
theorem dX4_claim_11 : decode cX4_claim 11 = .ok (.iconst 0, 1) := by decide +kernel
theorem dX4_claim_12 : decode cX4_claim 12 = .ok (.iconst 4, 1) := by decide +kernel
theorem dX4_claim_13 : decode cX4_claim 13 = .ok (.invokestatic 64, 3) := by decide +kernel
theorem dX4_claim_16 : decode cX4_claim 16 = .ok (.ifCond .eq 7, 3) := by decide +kernel
theorem dX4_claim_19 : decode cX4_claim 19 = .ok (.iconst 1, 1) := by decide +kernel
theorem dX4_claim_20 : decode cX4_claim 20 = .ok (.goto 4, 3) := by decide +kernel
theorem dX4_claim_23 : decode cX4_claim 23 = .ok (.iconst 0, 1) := by decide +kernel
theorem dX4_claim_24 : decode cX4_claim 24 = .ok (.istore 5, 2) := by decide +kernel
theorem dX4_claim_26 : decode cX4_claim 26 = .ok (.aload_n 0, 1) := by decide +kernel
theorem dX4_claim_27 : decode cX4_claim 27 = .ok (.iload_n 1, 1) := by decide +kernel
theorem dX4_claim_28 : decode cX4_claim 28 = .ok (.invokevirtual 97, 3) := by decide +kernel
theorem dX4_claim_31 : decode cX4_claim 31 = .ok (.istore 6, 2) := by decide +kernel
theorem dX4_claim_33 : decode cX4_claim 33 = .ok (.aload_n 0, 1) := by decide +kernel
theorem dX4_claim_34 : decode cX4_claim 34 = .ok (.iload 5, 2) := by decide +kernel
theorem dX4_claim_36 : decode cX4_claim 36 = .ok (.ifCond .ne 7, 3) := by decide +kernel
theorem dX4_claim_39 : decode cX4_claim 39 = .ok (.iconst 1, 1) := by decide +kernel
theorem dX4_claim_40 : decode cX4_claim 40 = .ok (.goto 38, 3) := by decide +kernel
theorem dX4_claim_43 : decode cX4_claim 43 = .ok (.iload 4, 2) := by decide +kernel
theorem dX4_claim_45 : decode cX4_claim 45 = .ok (.iconst 0, 1) := by decide +kernel
theorem dX4_claim_46 : decode cX4_claim 46 = .ok (.bipush 100, 2) := by decide +kernel
theorem dX4_claim_48 : decode cX4_claim 48 = .ok (.invokestatic 64, 3) := by decide +kernel
theorem dX4_claim_51 : decode cX4_claim 51 = .ok (.ifCond .ne 7, 3) := by decide +kernel
theorem dX4_claim_54 : decode cX4_claim 54 = .ok (.iconst 2, 1) := by decide +kernel
theorem dX4_claim_55 : decode cX4_claim 55 = .ok (.goto 23, 3) := by decide +kernel
theorem dX4_claim_58 : decode cX4_claim 58 = .ok (.iload 6, 2) := by decide +kernel
theorem dX4_claim_60 : decode cX4_claim 60 = .ok (.iconst (-1), 1) := by decide +kernel
theorem dX4_claim_61 : decode cX4_claim 61 = .ok (.if_icmp .ne 16, 3) := by decide +kernel
theorem dX4_claim_64 : decode cX4_claim 64 = .ok (.aload_n 0, 1) := by decide +kernel
theorem dX4_claim_65 : decode cX4_claim 65 = .ok (.getfield 61, 3) := by decide +kernel
theorem dX4_claim_68 : decode cX4_claim 68 = .ok (.bipush 24, 2) := by decide +kernel
theorem dX4_claim_70 : decode cX4_claim 70 = .ok (.if_icmp .ne 7, 3) := by decide +kernel
theorem dX4_claim_73 : decode cX4_claim 73 = .ok (.iconst 3, 1) := by decide +kernel
theorem dX4_claim_74 : decode cX4_claim 74 = .ok (.goto 4, 3) := by decide +kernel
theorem dX4_claim_77 : decode cX4_claim 77 = .ok (.iconst 0, 1) := by decide +kernel
theorem dX4_claim_78 : decode cX4_claim 78 = .ok (.invokevirtual 87, 3) := by decide +kernel
theorem dX4_claim_81 : decode cX4_claim 81 = .ok (.ifCond .ne 5, 3) := by decide +kernel
theorem dX4_claim_84 : decode cX4_claim 84 = .ok (.iconst 0, 1) := by decide +kernel
theorem dX4_claim_85 : decode cX4_claim 85 = .ok (.ireturn, 1) := by decide +kernel
theorem dX4_claim_86 : decode cX4_claim 86 = .ok (.iload 6, 2) := by decide +kernel
theorem dX4_claim_88 : decode cX4_claim 88 = .ok (.iconst (-1), 1) := by decide +kernel
theorem dX4_claim_89 : decode cX4_claim 89 = .ok (.if_icmp .ne 76, 3) := by decide +kernel
theorem dX4_claim_92 : decode cX4_claim 92 = .ok (.aload_n 0, 1) := by decide +kernel
theorem dX4_claim_93 : decode cX4_claim 93 = .ok (.getfield 61, 3) := by decide +kernel
theorem dX4_claim_96 : decode cX4_claim 96 = .ok (.istore 6, 2) := by decide +kernel
theorem dX4_claim_98 : decode cX4_claim 98 = .ok (.aload_n 0, 1) := by decide +kernel
theorem dX4_claim_99 : decode cX4_claim 99 = .ok (.dup, 1) := by decide +kernel
theorem dX4_claim_100 : decode cX4_claim 100 = .ok (.getfield 61, 3) := by decide +kernel
theorem dX4_claim_103 : decode cX4_claim 103 = .ok (.iconst 1, 1) := by decide +kernel
theorem dX4_claim_104 : decode cX4_claim 104 = .ok (.iadd, 1) := by decide +kernel
theorem dX4_claim_105 : decode cX4_claim 105 = .ok (.putfield 61, 3) := by decide +kernel
theorem dX4_claim_108 : decode cX4_claim 108 = .ok (.aload_n 0, 1) := by decide +kernel
theorem dX4_claim_109 : decode cX4_claim 109 = .ok (.getfield 16, 3) := by decide +kernel
theorem dX4_claim_112 : decode cX4_claim 112 = .ok (.iload 6, 2) := by decide +kernel
theorem dX4_claim_114 : decode cX4_claim 114 = .ok (.iload_n 1, 1) := by decide +kernel
theorem dX4_claim_115 : decode cX4_claim 115 = .ok (.iastore, 1) := by decide +kernel
theorem dX4_claim_116 : decode cX4_claim 116 = .ok (.aload_n 0, 1) := by decide +kernel
theorem dX4_claim_117 : decode cX4_claim 117 = .ok (.getfield 19, 3) := by decide +kernel
theorem dX4_claim_120 : decode cX4_claim 120 = .ok (.iload 6, 2) := by decide +kernel
theorem dX4_claim_122 : decode cX4_claim 122 = .ok (.iload_n 2, 1) := by decide +kernel
theorem dX4_claim_123 : decode cX4_claim 123 = .ok (.iastore, 1) := by decide +kernel
theorem dX4_claim_124 : decode cX4_claim 124 = .ok (.aload_n 0, 1) := by decide +kernel
theorem dX4_claim_125 : decode cX4_claim 125 = .ok (.getfield 22, 3) := by decide +kernel
theorem dX4_claim_128 : decode cX4_claim 128 = .ok (.iload 6, 2) := by decide +kernel
theorem dX4_claim_130 : decode cX4_claim 130 = .ok (.iload_n 3, 1) := by decide +kernel
theorem dX4_claim_131 : decode cX4_claim 131 = .ok (.ifCond .eq 7, 3) := by decide +kernel
theorem dX4_claim_134 : decode cX4_claim 134 = .ok (.iconst 1, 1) := by decide +kernel
theorem dX4_claim_135 : decode cX4_claim 135 = .ok (.goto 4, 3) := by decide +kernel
theorem dX4_claim_138 : decode cX4_claim 138 = .ok (.iconst 0, 1) := by decide +kernel
theorem dX4_claim_139 : decode cX4_claim 139 = .ok (.iastore, 1) := by decide +kernel
theorem dX4_claim_140 : decode cX4_claim 140 = .ok (.aload_n 0, 1) := by decide +kernel
theorem dX4_claim_141 : decode cX4_claim 141 = .ok (.getfield 25, 3) := by decide +kernel
theorem dX4_claim_144 : decode cX4_claim 144 = .ok (.iload 6, 2) := by decide +kernel
theorem dX4_claim_146 : decode cX4_claim 146 = .ok (.aload_n 0, 1) := by decide +kernel
theorem dX4_claim_147 : decode cX4_claim 147 = .ok (.getfield 94, 3) := by decide +kernel
theorem dX4_claim_150 : decode cX4_claim 150 = .ok (.iload 4, 2) := by decide +kernel
theorem dX4_claim_152 : decode cX4_claim 152 = .ok (.iadd, 1) := by decide +kernel
theorem dX4_claim_153 : decode cX4_claim 153 = .ok (.iastore, 1) := by decide +kernel
theorem dX4_claim_154 : decode cX4_claim 154 = .ok (.aload_n 0, 1) := by decide +kernel
theorem dX4_claim_155 : decode cX4_claim 155 = .ok (.getfield 28, 3) := by decide +kernel
theorem dX4_claim_158 : decode cX4_claim 158 = .ok (.iload 6, 2) := by decide +kernel
theorem dX4_claim_160 : decode cX4_claim 160 = .ok (.iconst 0, 1) := by decide +kernel
theorem dX4_claim_161 : decode cX4_claim 161 = .ok (.bastore, 1) := by decide +kernel
theorem dX4_claim_162 : decode cX4_claim 162 = .ok (.iload 6, 2) := by decide +kernel
theorem dX4_claim_164 : decode cX4_claim 164 = .ok (.ireturn, 1) := by decide +kernel
theorem dX4_claim_165 : decode cX4_claim 165 = .ok (.aload_n 0, 1) := by decide +kernel
theorem dX4_claim_166 : decode cX4_claim 166 = .ok (.getfield 19, 3) := by decide +kernel
theorem dX4_claim_169 : decode cX4_claim 169 = .ok (.iload 6, 2) := by decide +kernel
theorem dX4_claim_171 : decode cX4_claim 171 = .ok (.iload_n 2, 1) := by decide +kernel
theorem dX4_claim_172 : decode cX4_claim 172 = .ok (.aload_n 0, 1) := by decide +kernel
theorem dX4_claim_173 : decode cX4_claim 173 = .ok (.getfield 19, 3) := by decide +kernel
theorem dX4_claim_176 : decode cX4_claim 176 = .ok (.iload 6, 2) := by decide +kernel
theorem dX4_claim_178 : decode cX4_claim 178 = .ok (.iaload, 1) := by decide +kernel
theorem dX4_claim_179 : decode cX4_claim 179 = .ok (.if_icmp .le 7, 3) := by decide +kernel
theorem dX4_claim_182 : decode cX4_claim 182 = .ok (.iload_n 2, 1) := by decide +kernel
theorem dX4_claim_183 : decode cX4_claim 183 = .ok (.goto 10, 3) := by decide +kernel
theorem dX4_claim_186 : decode cX4_claim 186 = .ok (.aload_n 0, 1) := by decide +kernel
theorem dX4_claim_187 : decode cX4_claim 187 = .ok (.getfield 19, 3) := by decide +kernel
theorem dX4_claim_190 : decode cX4_claim 190 = .ok (.iload 6, 2) := by decide +kernel
theorem dX4_claim_192 : decode cX4_claim 192 = .ok (.iaload, 1) := by decide +kernel
theorem dX4_claim_193 : decode cX4_claim 193 = .ok (.iastore, 1) := by decide +kernel
theorem dX4_claim_194 : decode cX4_claim 194 = .ok (.aload_n 0, 1) := by decide +kernel
theorem dX4_claim_195 : decode cX4_claim 195 = .ok (.getfield 22, 3) := by decide +kernel
theorem dX4_claim_198 : decode cX4_claim 198 = .ok (.iload 6, 2) := by decide +kernel
theorem dX4_claim_200 : decode cX4_claim 200 = .ok (.iload_n 3, 1) := by decide +kernel
theorem dX4_claim_201 : decode cX4_claim 201 = .ok (.ifCond .ne 29, 3) := by decide +kernel
theorem dX4_claim_204 : decode cX4_claim 204 = .ok (.aload_n 0, 1) := by decide +kernel
theorem dX4_claim_205 : decode cX4_claim 205 = .ok (.getfield 22, 3) := by decide +kernel
theorem dX4_claim_208 : decode cX4_claim 208 = .ok (.iload 6, 2) := by decide +kernel
theorem dX4_claim_210 : decode cX4_claim 210 = .ok (.iaload, 1) := by decide +kernel
theorem dX4_claim_211 : decode cX4_claim 211 = .ok (.iconst 1, 1) := by decide +kernel
theorem dX4_claim_212 : decode cX4_claim 212 = .ok (.if_icmp .eq 14, 3) := by decide +kernel
theorem dX4_claim_215 : decode cX4_claim 215 = .ok (.aload_n 0, 1) := by decide +kernel
theorem dX4_claim_216 : decode cX4_claim 216 = .ok (.getfield 22, 3) := by decide +kernel
theorem dX4_claim_219 : decode cX4_claim 219 = .ok (.iload 6, 2) := by decide +kernel
theorem dX4_claim_221 : decode cX4_claim 221 = .ok (.iaload, 1) := by decide +kernel
theorem dX4_claim_222 : decode cX4_claim 222 = .ok (.iconst 2, 1) := by decide +kernel
theorem dX4_claim_223 : decode cX4_claim 223 = .ok (.if_icmp .ne 7, 3) := by decide +kernel
theorem dX4_claim_226 : decode cX4_claim 226 = .ok (.iconst 0, 1) := by decide +kernel
theorem dX4_claim_227 : decode cX4_claim 227 = .ok (.goto 10, 3) := by decide +kernel
theorem dX4_claim_230 : decode cX4_claim 230 = .ok (.aload_n 0, 1) := by decide +kernel
theorem dX4_claim_231 : decode cX4_claim 231 = .ok (.getfield 22, 3) := by decide +kernel
theorem dX4_claim_234 : decode cX4_claim 234 = .ok (.iload 6, 2) := by decide +kernel
theorem dX4_claim_236 : decode cX4_claim 236 = .ok (.iaload, 1) := by decide +kernel
theorem dX4_claim_237 : decode cX4_claim 237 = .ok (.iastore, 1) := by decide +kernel
theorem dX4_claim_238 : decode cX4_claim 238 = .ok (.iload 6, 2) := by decide +kernel
theorem dX4_claim_240 : decode cX4_claim 240 = .ok (.ireturn, 1) := by decide +kernel
set_option maxRecDepth 20000 in
theorem ggX4_cure_X4_isClaim : GoodIn wsX4_cure wsX4_isClaim := goodIn_r _ [8, 9, 10, 11, 7, 12, 18, 19, 20, 21, 22, 23, 24, 25, 26, 27, 28, 29, 30, 31, 32, 33, 34, 35, 36, 37, 38, 39] (by decide +kernel) (by decide +kernel)
set_option maxRecDepth 20000 in
theorem gX4_cure_X4_isClaim : GoodIn wsX4_cure (wsV RX4 101 RX4 yX4_isClaim wsX4_isClaim) := goodIn_app (goodIn_of _ (by decide +kernel)) ggX4_cure_X4_isClaim
set_option maxRecDepth 20000 in
theorem ggX4_cure_X4_goes : GoodIn wsX4_cure wsX4_goes := goodIn_r _ [16, 17, 18, 19, 20, 21, 22, 23, 24, 25, 26, 27, 28, 29, 30, 31, 32, 33, 34, 35, 36, 37, 38, 39] (by decide +kernel) (by decide +kernel)
set_option maxRecDepth 20000 in
theorem gX4_cure_X4_goes : GoodIn wsX4_cure (wsV RX4 87 RX4 yX4_goes wsX4_goes) := goodIn_app (goodIn_of _ (by decide +kernel)) ggX4_cure_X4_goes
theorem dX4_cure_0 : decode cX4_cure 0 = .ok (.aload_n 0, 1) := by decide +kernel
theorem dX4_cure_1 : decode cX4_cure 1 = .ok (.aload_n 0, 1) := by decide +kernel
theorem dX4_cure_2 : decode cX4_cure 2 = .ok (.iload_n 1, 1) := by decide +kernel
theorem dX4_cure_3 : decode cX4_cure 3 = .ok (.invokevirtual 101, 3) := by decide +kernel
theorem dX4_cure_6 : decode cX4_cure 6 = .ok (.ifCond .ne 7, 3) := by decide +kernel
theorem dX4_cure_9 : decode cX4_cure 9 = .ok (.iconst 1, 1) := by decide +kernel
theorem dX4_cure_10 : decode cX4_cure 10 = .ok (.goto 18, 3) := by decide +kernel
theorem dX4_cure_13 : decode cX4_cure 13 = .ok (.aload_n 0, 1) := by decide +kernel
theorem dX4_cure_14 : decode cX4_cure 14 = .ok (.getfield 22, 3) := by decide +kernel
theorem dX4_cure_17 : decode cX4_cure 17 = .ok (.iload_n 1, 1) := by decide +kernel
theorem dX4_cure_18 : decode cX4_cure 18 = .ok (.iaload, 1) := by decide +kernel
theorem dX4_cure_19 : decode cX4_cure 19 = .ok (.iconst 1, 1) := by decide +kernel
theorem dX4_cure_20 : decode cX4_cure 20 = .ok (.if_icmp .ne 7, 3) := by decide +kernel
theorem dX4_cure_23 : decode cX4_cure 23 = .ok (.iconst 0, 1) := by decide +kernel
theorem dX4_cure_24 : decode cX4_cure 24 = .ok (.goto 4, 3) := by decide +kernel
theorem dX4_cure_27 : decode cX4_cure 27 = .ok (.iconst 2, 1) := by decide +kernel
theorem dX4_cure_28 : decode cX4_cure 28 = .ok (.invokevirtual 87, 3) := by decide +kernel
theorem dX4_cure_31 : decode cX4_cure 31 = .ok (.ifCond .ne 5, 3) := by decide +kernel
theorem dX4_cure_34 : decode cX4_cure 34 = .ok (.iconst 0, 1) := by decide +kernel
theorem dX4_cure_35 : decode cX4_cure 35 = .ok (.ireturn, 1) := by decide +kernel
theorem dX4_cure_36 : decode cX4_cure 36 = .ok (.aload_n 0, 1) := by decide +kernel
theorem dX4_cure_37 : decode cX4_cure 37 = .ok (.getfield 22, 3) := by decide +kernel
theorem dX4_cure_40 : decode cX4_cure 40 = .ok (.iload_n 1, 1) := by decide +kernel
theorem dX4_cure_41 : decode cX4_cure 41 = .ok (.iconst 0, 1) := by decide +kernel
theorem dX4_cure_42 : decode cX4_cure 42 = .ok (.iastore, 1) := by decide +kernel
theorem dX4_cure_43 : decode cX4_cure 43 = .ok (.aload_n 0, 1) := by decide +kernel
theorem dX4_cure_44 : decode cX4_cure 44 = .ok (.getfield 25, 3) := by decide +kernel
theorem dX4_cure_47 : decode cX4_cure 47 = .ok (.iload_n 1, 1) := by decide +kernel
theorem dX4_cure_48 : decode cX4_cure 48 = .ok (.iaload, 1) := by decide +kernel
theorem dX4_cure_49 : decode cX4_cure 49 = .ok (.aload_n 0, 1) := by decide +kernel
theorem dX4_cure_50 : decode cX4_cure 50 = .ok (.getfield 94, 3) := by decide +kernel
theorem dX4_cure_53 : decode cX4_cure 53 = .ok (.isub, 1) := by decide +kernel
theorem dX4_cure_54 : decode cX4_cure 54 = .ok (.ireturn, 1) := by decide +kernel
set_option maxRecDepth 20000 in
theorem ggX4_deny_X4_isClaim : GoodIn wsX4_deny wsX4_isClaim := goodIn_r _ [6, 7, 8, 9, 5, 10, 16, 17, 18, 19, 20, 21, 22, 23, 24, 25, 26, 27, 28, 29, 30, 31, 32, 33, 34, 35, 36, 37] (by decide +kernel) (by decide +kernel)
set_option maxRecDepth 20000 in
theorem gX4_deny_X4_isClaim : GoodIn wsX4_deny (wsV RX4 101 RX4 yX4_isClaim wsX4_isClaim) := goodIn_app (goodIn_of _ (by decide +kernel)) ggX4_deny_X4_isClaim
set_option maxRecDepth 20000 in
theorem ggX4_deny_X4_goes : GoodIn wsX4_deny wsX4_goes := goodIn_r _ [14, 15, 16, 17, 18, 19, 20, 21, 22, 23, 24, 25, 26, 27, 28, 29, 30, 31, 32, 33, 34, 35, 36, 37] (by decide +kernel) (by decide +kernel)
set_option maxRecDepth 20000 in
theorem gX4_deny_X4_goes : GoodIn wsX4_deny (wsV RX4 87 RX4 yX4_goes wsX4_goes) := goodIn_app (goodIn_of _ (by decide +kernel)) ggX4_deny_X4_goes
theorem dX4_deny_0 : decode cX4_deny 0 = .ok (.aload_n 0, 1) := by decide +kernel
theorem dX4_deny_1 : decode cX4_deny 1 = .ok (.aload_n 0, 1) := by decide +kernel
theorem dX4_deny_2 : decode cX4_deny 2 = .ok (.iload_n 1, 1) := by decide +kernel
theorem dX4_deny_3 : decode cX4_deny 3 = .ok (.invokevirtual 101, 3) := by decide +kernel
theorem dX4_deny_6 : decode cX4_deny 6 = .ok (.ifCond .ne 7, 3) := by decide +kernel
theorem dX4_deny_9 : decode cX4_deny 9 = .ok (.iconst 1, 1) := by decide +kernel
theorem dX4_deny_10 : decode cX4_deny 10 = .ok (.goto 27, 3) := by decide +kernel
theorem dX4_deny_13 : decode cX4_deny 13 = .ok (.aload_n 0, 1) := by decide +kernel
theorem dX4_deny_14 : decode cX4_deny 14 = .ok (.getfield 22, 3) := by decide +kernel
theorem dX4_deny_17 : decode cX4_deny 17 = .ok (.iload_n 1, 1) := by decide +kernel
theorem dX4_deny_18 : decode cX4_deny 18 = .ok (.iaload, 1) := by decide +kernel
theorem dX4_deny_19 : decode cX4_deny 19 = .ok (.ifCond .eq 13, 3) := by decide +kernel
theorem dX4_deny_22 : decode cX4_deny 22 = .ok (.aload_n 0, 1) := by decide +kernel
theorem dX4_deny_23 : decode cX4_deny 23 = .ok (.getfield 22, 3) := by decide +kernel
theorem dX4_deny_26 : decode cX4_deny 26 = .ok (.iload_n 1, 1) := by decide +kernel
theorem dX4_deny_27 : decode cX4_deny 27 = .ok (.iaload, 1) := by decide +kernel
theorem dX4_deny_28 : decode cX4_deny 28 = .ok (.iconst 1, 1) := by decide +kernel
theorem dX4_deny_29 : decode cX4_deny 29 = .ok (.if_icmp .ne 7, 3) := by decide +kernel
theorem dX4_deny_32 : decode cX4_deny 32 = .ok (.iconst 0, 1) := by decide +kernel
theorem dX4_deny_33 : decode cX4_deny 33 = .ok (.goto 4, 3) := by decide +kernel
theorem dX4_deny_36 : decode cX4_deny 36 = .ok (.iconst 2, 1) := by decide +kernel
theorem dX4_deny_37 : decode cX4_deny 37 = .ok (.invokevirtual 87, 3) := by decide +kernel
theorem dX4_deny_40 : decode cX4_deny 40 = .ok (.ifCond .ne 5, 3) := by decide +kernel
theorem dX4_deny_43 : decode cX4_deny 43 = .ok (.iconst 0, 1) := by decide +kernel
theorem dX4_deny_44 : decode cX4_deny 44 = .ok (.ireturn, 1) := by decide +kernel
theorem dX4_deny_45 : decode cX4_deny 45 = .ok (.aload_n 0, 1) := by decide +kernel
theorem dX4_deny_46 : decode cX4_deny 46 = .ok (.getfield 22, 3) := by decide +kernel
theorem dX4_deny_49 : decode cX4_deny 49 = .ok (.iload_n 1, 1) := by decide +kernel
theorem dX4_deny_50 : decode cX4_deny 50 = .ok (.iaload, 1) := by decide +kernel
theorem dX4_deny_51 : decode cX4_deny 51 = .ok (.istore_n 2, 1) := by decide +kernel
theorem dX4_deny_52 : decode cX4_deny 52 = .ok (.aload_n 0, 1) := by decide +kernel
theorem dX4_deny_53 : decode cX4_deny 53 = .ok (.getfield 22, 3) := by decide +kernel
theorem dX4_deny_56 : decode cX4_deny 56 = .ok (.iload_n 1, 1) := by decide +kernel
theorem dX4_deny_57 : decode cX4_deny 57 = .ok (.iconst 2, 1) := by decide +kernel
theorem dX4_deny_58 : decode cX4_deny 58 = .ok (.iastore, 1) := by decide +kernel
theorem dX4_deny_59 : decode cX4_deny 59 = .ok (.iload_n 2, 1) := by decide +kernel
theorem dX4_deny_60 : decode cX4_deny 60 = .ok (.ireturn, 1) := by decide +kernel
theorem dX4_countOf_0 : decode cX4_countOf 0 = .ok (.iconst 0, 1) := by decide +kernel
theorem dX4_countOf_1 : decode cX4_countOf 1 = .ok (.istore_n 2, 1) := by decide +kernel
theorem dX4_countOf_2 : decode cX4_countOf 2 = .ok (.iconst 0, 1) := by decide +kernel
theorem dX4_countOf_3 : decode cX4_countOf 3 = .ok (.istore_n 3, 1) := by decide +kernel
theorem dX4_countOf_4 : decode cX4_countOf 4 = .ok (.iload_n 3, 1) := by decide +kernel
theorem dX4_countOf_5 : decode cX4_countOf 5 = .ok (.aload_n 0, 1) := by decide +kernel
theorem dX4_countOf_6 : decode cX4_countOf 6 = .ok (.getfield 61, 3) := by decide +kernel
theorem dX4_countOf_9 : decode cX4_countOf 9 = .ok (.if_icmp .ge 27, 3) := by decide +kernel
theorem dX4_countOf_12 : decode cX4_countOf 12 = .ok (.iload_n 2, 1) := by decide +kernel
theorem dX4_countOf_13 : decode cX4_countOf 13 = .ok (.aload_n 0, 1) := by decide +kernel
theorem dX4_countOf_14 : decode cX4_countOf 14 = .ok (.getfield 22, 3) := by decide +kernel
theorem dX4_countOf_17 : decode cX4_countOf 17 = .ok (.iload_n 3, 1) := by decide +kernel
theorem dX4_countOf_18 : decode cX4_countOf 18 = .ok (.iaload, 1) := by decide +kernel
theorem dX4_countOf_19 : decode cX4_countOf 19 = .ok (.iload_n 1, 1) := by decide +kernel
theorem dX4_countOf_20 : decode cX4_countOf 20 = .ok (.if_icmp .ne 7, 3) := by decide +kernel
theorem dX4_countOf_23 : decode cX4_countOf 23 = .ok (.iconst 1, 1) := by decide +kernel
theorem dX4_countOf_24 : decode cX4_countOf 24 = .ok (.goto 4, 3) := by decide +kernel
theorem dX4_countOf_27 : decode cX4_countOf 27 = .ok (.iconst 0, 1) := by decide +kernel
theorem dX4_countOf_28 : decode cX4_countOf 28 = .ok (.iadd, 1) := by decide +kernel
theorem dX4_countOf_29 : decode cX4_countOf 29 = .ok (.istore_n 2, 1) := by decide +kernel
theorem dX4_countOf_30 : decode cX4_countOf 30 = .ok (.iinc 3 1, 3) := by decide +kernel
theorem dX4_countOf_33 : decode cX4_countOf 33 = .ok (.goto (-29), 3) := by decide +kernel
theorem dX4_countOf_36 : decode cX4_countOf 36 = .ok (.iload_n 2, 1) := by decide +kernel
theorem dX4_countOf_37 : decode cX4_countOf 37 = .ok (.ireturn, 1) := by decide +kernel
set_option maxRecDepth 20000 in
theorem ggX4_object_X4_isClaim : GoodIn wsX4_object wsX4_isClaim := goodIn_r _ [7, 8, 9, 10, 6, 11, 21, 22, 23, 24, 25, 26, 27, 28, 29, 30, 31, 32, 33, 34, 35, 36, 37, 38, 39, 40, 41, 42] (by decide +kernel) (by decide +kernel)
set_option maxRecDepth 20000 in
theorem gX4_object_X4_isClaim : GoodIn wsX4_object (wsV RX4 101 RX4 yX4_isClaim wsX4_isClaim) := goodIn_app (goodIn_of _ (by decide +kernel)) ggX4_object_X4_isClaim
set_option maxRecDepth 20000 in
theorem ggX4_object_X4_goes : GoodIn wsX4_object wsX4_goes := goodIn_r _ [15, 16, 21, 22, 23, 24, 25, 26, 27, 28, 29, 30, 31, 32, 33, 34, 35, 36, 37, 38, 39, 40, 41, 42] (by decide +kernel) (by decide +kernel)
set_option maxRecDepth 20000 in
theorem gX4_object_X4_goes : GoodIn wsX4_object (wsV RX4 87 RX4 yX4_goes wsX4_goes) := goodIn_app (goodIn_of _ (by decide +kernel)) ggX4_object_X4_goes
set_option maxRecDepth 20000 in
theorem ggX4_object_X4_countOf : GoodIn wsX4_object wsX4_countOf := goodIn_r _ [20, 8, 1, 21, 22, 23, 24, 25, 26, 27, 28, 29, 30, 31, 32, 33, 34, 35, 36, 37, 38, 39, 40, 41, 42] (by decide +kernel) (by decide +kernel)
set_option maxRecDepth 20000 in
theorem gX4_object_X4_countOf : GoodIn wsX4_object (wsV RX4 104 RX4 yX4_countOf wsX4_countOf) := goodIn_app (goodIn_of _ (by decide +kernel)) ggX4_object_X4_countOf
theorem dX4_object_0 : decode cX4_object 0 = .ok (.aload_n 0, 1) := by decide +kernel
theorem dX4_object_1 : decode cX4_object 1 = .ok (.aload_n 0, 1) := by decide +kernel
theorem dX4_object_2 : decode cX4_object 2 = .ok (.iload_n 1, 1) := by decide +kernel
theorem dX4_object_3 : decode cX4_object 3 = .ok (.invokevirtual 101, 3) := by decide +kernel
theorem dX4_object_6 : decode cX4_object 6 = .ok (.ifCond .ne 7, 3) := by decide +kernel
theorem dX4_object_9 : decode cX4_object 9 = .ok (.iconst 1, 1) := by decide +kernel
theorem dX4_object_10 : decode cX4_object 10 = .ok (.goto 27, 3) := by decide +kernel
theorem dX4_object_13 : decode cX4_object 13 = .ok (.aload_n 0, 1) := by decide +kernel
theorem dX4_object_14 : decode cX4_object 14 = .ok (.getfield 22, 3) := by decide +kernel
theorem dX4_object_17 : decode cX4_object 17 = .ok (.iload_n 1, 1) := by decide +kernel
theorem dX4_object_18 : decode cX4_object 18 = .ok (.iaload, 1) := by decide +kernel
theorem dX4_object_19 : decode cX4_object 19 = .ok (.iconst 2, 1) := by decide +kernel
theorem dX4_object_20 : decode cX4_object 20 = .ok (.if_icmp .ne 16, 3) := by decide +kernel
theorem dX4_object_23 : decode cX4_object 23 = .ok (.aload_n 0, 1) := by decide +kernel
theorem dX4_object_24 : decode cX4_object 24 = .ok (.getfield 28, 3) := by decide +kernel
theorem dX4_object_27 : decode cX4_object 27 = .ok (.iload_n 1, 1) := by decide +kernel
theorem dX4_object_28 : decode cX4_object 28 = .ok (.baload, 1) := by decide +kernel
theorem dX4_object_29 : decode cX4_object 29 = .ok (.ifCond .ne 7, 3) := by decide +kernel
theorem dX4_object_32 : decode cX4_object 32 = .ok (.iconst 0, 1) := by decide +kernel
theorem dX4_object_33 : decode cX4_object 33 = .ok (.goto 4, 3) := by decide +kernel
theorem dX4_object_36 : decode cX4_object 36 = .ok (.iconst 2, 1) := by decide +kernel
theorem dX4_object_37 : decode cX4_object 37 = .ok (.invokevirtual 87, 3) := by decide +kernel
theorem dX4_object_40 : decode cX4_object 40 = .ok (.ifCond .ne 5, 3) := by decide +kernel
theorem dX4_object_43 : decode cX4_object 43 = .ok (.iconst 0, 1) := by decide +kernel
theorem dX4_object_44 : decode cX4_object 44 = .ok (.ireturn, 1) := by decide +kernel
theorem dX4_object_45 : decode cX4_object 45 = .ok (.aload_n 0, 1) := by decide +kernel
theorem dX4_object_46 : decode cX4_object 46 = .ok (.getfield 22, 3) := by decide +kernel
theorem dX4_object_49 : decode cX4_object 49 = .ok (.iload_n 1, 1) := by decide +kernel
theorem dX4_object_50 : decode cX4_object 50 = .ok (.iconst 3, 1) := by decide +kernel
theorem dX4_object_51 : decode cX4_object 51 = .ok (.iastore, 1) := by decide +kernel
theorem dX4_object_52 : decode cX4_object 52 = .ok (.aload_n 0, 1) := by decide +kernel
theorem dX4_object_53 : decode cX4_object 53 = .ok (.getfield 28, 3) := by decide +kernel
theorem dX4_object_56 : decode cX4_object 56 = .ok (.iload_n 1, 1) := by decide +kernel
theorem dX4_object_57 : decode cX4_object 57 = .ok (.iconst 1, 1) := by decide +kernel
theorem dX4_object_58 : decode cX4_object 58 = .ok (.bastore, 1) := by decide +kernel
theorem dX4_object_59 : decode cX4_object 59 = .ok (.aload_n 0, 1) := by decide +kernel
theorem dX4_object_60 : decode cX4_object 60 = .ok (.iconst 3, 1) := by decide +kernel
theorem dX4_object_61 : decode cX4_object 61 = .ok (.invokevirtual 104, 3) := by decide +kernel
theorem dX4_object_64 : decode cX4_object 64 = .ok (.ireturn, 1) := by decide +kernel
set_option maxRecDepth 20000 in
theorem ggX4_decide_X4_isClaim : GoodIn wsX4_decide wsX4_isClaim := goodIn_r _ [6, 7, 8, 9, 5, 10, 20, 21, 22, 23, 24, 25, 26, 27, 28, 29, 30, 31, 32, 33, 34, 35, 36, 37, 38, 39, 40, 41] (by decide +kernel) (by decide +kernel)
set_option maxRecDepth 20000 in
theorem gX4_decide_X4_isClaim : GoodIn wsX4_decide (wsV RX4 101 RX4 yX4_isClaim wsX4_isClaim) := goodIn_app (goodIn_of _ (by decide +kernel)) ggX4_decide_X4_isClaim
set_option maxRecDepth 20000 in
theorem ggX4_decide_X4_goes : GoodIn wsX4_decide wsX4_goes := goodIn_r _ [14, 15, 20, 21, 22, 23, 24, 25, 26, 27, 28, 29, 30, 31, 32, 33, 34, 35, 36, 37, 38, 39, 40, 41] (by decide +kernel) (by decide +kernel)
set_option maxRecDepth 20000 in
theorem gX4_decide_X4_goes : GoodIn wsX4_decide (wsV RX4 87 RX4 yX4_goes wsX4_goes) := goodIn_app (goodIn_of _ (by decide +kernel)) ggX4_decide_X4_goes
set_option maxRecDepth 20000 in
theorem ggX4_decide_X4_countOf : GoodIn wsX4_decide wsX4_countOf := goodIn_r _ [19, 7, 1, 20, 21, 22, 23, 24, 25, 26, 27, 28, 29, 30, 31, 32, 33, 34, 35, 36, 37, 38, 39, 40, 41] (by decide +kernel) (by decide +kernel)
set_option maxRecDepth 20000 in
theorem gX4_decide_X4_countOf : GoodIn wsX4_decide (wsV RX4 104 RX4 yX4_countOf wsX4_countOf) := goodIn_app (goodIn_of _ (by decide +kernel)) ggX4_decide_X4_countOf
theorem dX4_decide_0 : decode cX4_decide 0 = .ok (.aload_n 0, 1) := by decide +kernel
theorem dX4_decide_1 : decode cX4_decide 1 = .ok (.aload_n 0, 1) := by decide +kernel
theorem dX4_decide_2 : decode cX4_decide 2 = .ok (.iload_n 1, 1) := by decide +kernel
theorem dX4_decide_3 : decode cX4_decide 3 = .ok (.invokevirtual 101, 3) := by decide +kernel
theorem dX4_decide_6 : decode cX4_decide 6 = .ok (.ifCond .ne 7, 3) := by decide +kernel
theorem dX4_decide_9 : decode cX4_decide 9 = .ok (.iconst 1, 1) := by decide +kernel
theorem dX4_decide_10 : decode cX4_decide 10 = .ok (.goto 18, 3) := by decide +kernel
theorem dX4_decide_13 : decode cX4_decide 13 = .ok (.aload_n 0, 1) := by decide +kernel
theorem dX4_decide_14 : decode cX4_decide 14 = .ok (.getfield 22, 3) := by decide +kernel
theorem dX4_decide_17 : decode cX4_decide 17 = .ok (.iload_n 1, 1) := by decide +kernel
theorem dX4_decide_18 : decode cX4_decide 18 = .ok (.iaload, 1) := by decide +kernel
theorem dX4_decide_19 : decode cX4_decide 19 = .ok (.iconst 3, 1) := by decide +kernel
theorem dX4_decide_20 : decode cX4_decide 20 = .ok (.if_icmp .ne 7, 3) := by decide +kernel
theorem dX4_decide_23 : decode cX4_decide 23 = .ok (.iconst 0, 1) := by decide +kernel
theorem dX4_decide_24 : decode cX4_decide 24 = .ok (.goto 4, 3) := by decide +kernel
theorem dX4_decide_27 : decode cX4_decide 27 = .ok (.iconst 2, 1) := by decide +kernel
theorem dX4_decide_28 : decode cX4_decide 28 = .ok (.invokevirtual 87, 3) := by decide +kernel
theorem dX4_decide_31 : decode cX4_decide 31 = .ok (.ifCond .ne 5, 3) := by decide +kernel
theorem dX4_decide_34 : decode cX4_decide 34 = .ok (.iconst 0, 1) := by decide +kernel
theorem dX4_decide_35 : decode cX4_decide 35 = .ok (.ireturn, 1) := by decide +kernel
theorem dX4_decide_36 : decode cX4_decide 36 = .ok (.aload_n 0, 1) := by decide +kernel
theorem dX4_decide_37 : decode cX4_decide 37 = .ok (.getfield 22, 3) := by decide +kernel
theorem dX4_decide_40 : decode cX4_decide 40 = .ok (.iload_n 1, 1) := by decide +kernel
theorem dX4_decide_41 : decode cX4_decide 41 = .ok (.iload_n 2, 1) := by decide +kernel
theorem dX4_decide_42 : decode cX4_decide 42 = .ok (.ifCond .eq 7, 3) := by decide +kernel
theorem dX4_decide_45 : decode cX4_decide 45 = .ok (.iconst 0, 1) := by decide +kernel
theorem dX4_decide_46 : decode cX4_decide 46 = .ok (.goto 4, 3) := by decide +kernel
theorem dX4_decide_49 : decode cX4_decide 49 = .ok (.iconst 2, 1) := by decide +kernel
theorem dX4_decide_50 : decode cX4_decide 50 = .ok (.iastore, 1) := by decide +kernel
theorem dX4_decide_51 : decode cX4_decide 51 = .ok (.aload_n 0, 1) := by decide +kernel
theorem dX4_decide_52 : decode cX4_decide 52 = .ok (.iconst 3, 1) := by decide +kernel
theorem dX4_decide_53 : decode cX4_decide 53 = .ok (.invokevirtual 104, 3) := by decide +kernel
theorem dX4_decide_56 : decode cX4_decide 56 = .ok (.ireturn, 1) := by decide +kernel
theorem dX4_paid_0 : decode cX4_paid 0 = .ok (.iconst 0, 1) := by decide +kernel
theorem dX4_paid_1 : decode cX4_paid 1 = .ok (.istore_n 2, 1) := by decide +kernel
theorem dX4_paid_2 : decode cX4_paid 2 = .ok (.iconst 0, 1) := by decide +kernel
theorem dX4_paid_3 : decode cX4_paid 3 = .ok (.istore_n 3, 1) := by decide +kernel
theorem dX4_paid_4 : decode cX4_paid 4 = .ok (.iload_n 3, 1) := by decide +kernel
theorem dX4_paid_5 : decode cX4_paid 5 = .ok (.aload_n 0, 1) := by decide +kernel
theorem dX4_paid_6 : decode cX4_paid 6 = .ok (.getfield 68, 3) := by decide +kernel
theorem dX4_paid_9 : decode cX4_paid 9 = .ok (.if_icmp .ge 42, 3) := by decide +kernel
theorem dX4_paid_12 : decode cX4_paid 12 = .ok (.iload_n 2, 1) := by decide +kernel
theorem dX4_paid_13 : decode cX4_paid 13 = .ok (.aload_n 0, 1) := by decide +kernel
theorem dX4_paid_14 : decode cX4_paid 14 = .ok (.getfield 32, 3) := by decide +kernel
theorem dX4_paid_17 : decode cX4_paid 17 = .ok (.iload_n 3, 1) := by decide +kernel
theorem dX4_paid_18 : decode cX4_paid 18 = .ok (.iaload, 1) := by decide +kernel
theorem dX4_paid_19 : decode cX4_paid 19 = .ok (.iload_n 1, 1) := by decide +kernel
theorem dX4_paid_20 : decode cX4_paid 20 = .ok (.if_icmp .ne 22, 3) := by decide +kernel
theorem dX4_paid_23 : decode cX4_paid 23 = .ok (.aload_n 0, 1) := by decide +kernel
theorem dX4_paid_24 : decode cX4_paid 24 = .ok (.getfield 41, 3) := by decide +kernel
theorem dX4_paid_27 : decode cX4_paid 27 = .ok (.iload_n 3, 1) := by decide +kernel
theorem dX4_paid_28 : decode cX4_paid 28 = .ok (.iaload, 1) := by decide +kernel
theorem dX4_paid_29 : decode cX4_paid 29 = .ok (.iconst 2, 1) := by decide +kernel
theorem dX4_paid_30 : decode cX4_paid 30 = .ok (.if_icmp .eq 12, 3) := by decide +kernel
theorem dX4_paid_33 : decode cX4_paid 33 = .ok (.aload_n 0, 1) := by decide +kernel
theorem dX4_paid_34 : decode cX4_paid 34 = .ok (.getfield 35, 3) := by decide +kernel
theorem dX4_paid_37 : decode cX4_paid 37 = .ok (.iload_n 3, 1) := by decide +kernel
theorem dX4_paid_38 : decode cX4_paid 38 = .ok (.iaload, 1) := by decide +kernel
theorem dX4_paid_39 : decode cX4_paid 39 = .ok (.goto 4, 3) := by decide +kernel
theorem dX4_paid_42 : decode cX4_paid 42 = .ok (.iconst 0, 1) := by decide +kernel
theorem dX4_paid_43 : decode cX4_paid 43 = .ok (.iadd, 1) := by decide +kernel
theorem dX4_paid_44 : decode cX4_paid 44 = .ok (.istore_n 2, 1) := by decide +kernel
theorem dX4_paid_45 : decode cX4_paid 45 = .ok (.iinc 3 1, 3) := by decide +kernel
theorem dX4_paid_48 : decode cX4_paid 48 = .ok (.goto (-44), 3) := by decide +kernel
theorem dX4_paid_51 : decode cX4_paid 51 = .ok (.iload_n 2, 1) := by decide +kernel
theorem dX4_paid_52 : decode cX4_paid 52 = .ok (.ireturn, 1) := by decide +kernel
set_option maxRecDepth 20000 in
theorem ggX4_roomOf_X4_paid : GoodIn wsX4_roomOf wsX4_paid := goodIn_r _ [7, 8, 9, 10, 11, 12, 13, 14, 15, 16, 17, 18, 19, 20, 21, 22, 23, 24, 25, 26, 27, 28, 29, 30, 31, 32, 33] (by decide +kernel) (by decide +kernel)
set_option maxRecDepth 20000 in
theorem gX4_roomOf_X4_paid : GoodIn wsX4_roomOf (wsV RX4 107 RX4 yX4_paid wsX4_paid) := goodIn_app (goodIn_of _ (by decide +kernel)) ggX4_roomOf_X4_paid
theorem dX4_roomOf_0 : decode cX4_roomOf 0 = .ok (.aload_n 0, 1) := by decide +kernel
theorem dX4_roomOf_1 : decode cX4_roomOf 1 = .ok (.getfield 13, 3) := by decide +kernel
theorem dX4_roomOf_4 : decode cX4_roomOf 4 = .ok (.aload_n 0, 1) := by decide +kernel
theorem dX4_roomOf_5 : decode cX4_roomOf 5 = .ok (.getfield 19, 3) := by decide +kernel
theorem dX4_roomOf_8 : decode cX4_roomOf 8 = .ok (.iload_n 1, 1) := by decide +kernel
theorem dX4_roomOf_9 : decode cX4_roomOf 9 = .ok (.iaload, 1) := by decide +kernel
theorem dX4_roomOf_10 : decode cX4_roomOf 10 = .ok (.iaload, 1) := by decide +kernel
theorem dX4_roomOf_11 : decode cX4_roomOf 11 = .ok (.aload_n 0, 1) := by decide +kernel
theorem dX4_roomOf_12 : decode cX4_roomOf 12 = .ok (.iload_n 1, 1) := by decide +kernel
theorem dX4_roomOf_13 : decode cX4_roomOf 13 = .ok (.invokevirtual 107, 3) := by decide +kernel
theorem dX4_roomOf_16 : decode cX4_roomOf 16 = .ok (.isub, 1) := by decide +kernel
theorem dX4_roomOf_17 : decode cX4_roomOf 17 = .ok (.istore_n 2, 1) := by decide +kernel
theorem dX4_roomOf_18 : decode cX4_roomOf 18 = .ok (.iload_n 2, 1) := by decide +kernel
theorem dX4_roomOf_19 : decode cX4_roomOf 19 = .ok (.ifCond .ge 7, 3) := by decide +kernel
theorem dX4_roomOf_22 : decode cX4_roomOf 22 = .ok (.iconst 0, 1) := by decide +kernel
theorem dX4_roomOf_23 : decode cX4_roomOf 23 = .ok (.goto 4, 3) := by decide +kernel
theorem dX4_roomOf_26 : decode cX4_roomOf 26 = .ok (.iload_n 2, 1) := by decide +kernel
theorem dX4_roomOf_27 : decode cX4_roomOf 27 = .ok (.ireturn, 1) := by decide +kernel
theorem dX4_hasVoid_0 : decode cX4_hasVoid 0 = .ok (.iconst 0, 1) := by decide +kernel
theorem dX4_hasVoid_1 : decode cX4_hasVoid 1 = .ok (.istore_n 2, 1) := by decide +kernel
theorem dX4_hasVoid_2 : decode cX4_hasVoid 2 = .ok (.iconst 0, 1) := by decide +kernel
theorem dX4_hasVoid_3 : decode cX4_hasVoid 3 = .ok (.istore_n 3, 1) := by decide +kernel
theorem dX4_hasVoid_4 : decode cX4_hasVoid 4 = .ok (.iload_n 3, 1) := by decide +kernel
theorem dX4_hasVoid_5 : decode cX4_hasVoid 5 = .ok (.aload_n 0, 1) := by decide +kernel
theorem dX4_hasVoid_6 : decode cX4_hasVoid 6 = .ok (.getfield 68, 3) := by decide +kernel
theorem dX4_hasVoid_9 : decode cX4_hasVoid 9 = .ok (.if_icmp .ge 39, 3) := by decide +kernel
theorem dX4_hasVoid_12 : decode cX4_hasVoid 12 = .ok (.iload_n 2, 1) := by decide +kernel
theorem dX4_hasVoid_13 : decode cX4_hasVoid 13 = .ok (.ifCond .ne 23, 3) := by decide +kernel
theorem dX4_hasVoid_16 : decode cX4_hasVoid 16 = .ok (.aload_n 0, 1) := by decide +kernel
theorem dX4_hasVoid_17 : decode cX4_hasVoid 17 = .ok (.getfield 32, 3) := by decide +kernel
theorem dX4_hasVoid_20 : decode cX4_hasVoid 20 = .ok (.iload_n 3, 1) := by decide +kernel
theorem dX4_hasVoid_21 : decode cX4_hasVoid 21 = .ok (.iaload, 1) := by decide +kernel
theorem dX4_hasVoid_22 : decode cX4_hasVoid 22 = .ok (.iload_n 1, 1) := by decide +kernel
theorem dX4_hasVoid_23 : decode cX4_hasVoid 23 = .ok (.if_icmp .ne 17, 3) := by decide +kernel
theorem dX4_hasVoid_26 : decode cX4_hasVoid 26 = .ok (.aload_n 0, 1) := by decide +kernel
theorem dX4_hasVoid_27 : decode cX4_hasVoid 27 = .ok (.getfield 41, 3) := by decide +kernel
theorem dX4_hasVoid_30 : decode cX4_hasVoid 30 = .ok (.iload_n 3, 1) := by decide +kernel
theorem dX4_hasVoid_31 : decode cX4_hasVoid 31 = .ok (.iaload, 1) := by decide +kernel
theorem dX4_hasVoid_32 : decode cX4_hasVoid 32 = .ok (.iconst 2, 1) := by decide +kernel
theorem dX4_hasVoid_33 : decode cX4_hasVoid 33 = .ok (.if_icmp .ne 7, 3) := by decide +kernel
theorem dX4_hasVoid_36 : decode cX4_hasVoid 36 = .ok (.iconst 1, 1) := by decide +kernel
theorem dX4_hasVoid_37 : decode cX4_hasVoid 37 = .ok (.goto 4, 3) := by decide +kernel
theorem dX4_hasVoid_40 : decode cX4_hasVoid 40 = .ok (.iconst 0, 1) := by decide +kernel
theorem dX4_hasVoid_41 : decode cX4_hasVoid 41 = .ok (.istore_n 2, 1) := by decide +kernel
theorem dX4_hasVoid_42 : decode cX4_hasVoid 42 = .ok (.iinc 3 1, 3) := by decide +kernel
theorem dX4_hasVoid_45 : decode cX4_hasVoid 45 = .ok (.goto (-41), 3) := by decide +kernel
theorem dX4_hasVoid_48 : decode cX4_hasVoid 48 = .ok (.iload_n 2, 1) := by decide +kernel
theorem dX4_hasVoid_49 : decode cX4_hasVoid 49 = .ok (.ireturn, 1) := by decide +kernel
theorem dX4_isLeft_0 : decode cX4_isLeft 0 = .ok (.aload_n 0, 1) := by decide +kernel
theorem dX4_isLeft_1 : decode cX4_isLeft 1 = .ok (.getfield 44, 3) := by decide +kernel
theorem dX4_isLeft_4 : decode cX4_isLeft 4 = .ok (.iload_n 1, 1) := by decide +kernel
theorem dX4_isLeft_5 : decode cX4_isLeft 5 = .ok (.baload, 1) := by decide +kernel
theorem dX4_isLeft_6 : decode cX4_isLeft 6 = .ok (.ifCond .eq 16, 3) := by decide +kernel
theorem dX4_isLeft_9 : decode cX4_isLeft 9 = .ok (.aload_n 0, 1) := by decide +kernel
theorem dX4_isLeft_10 : decode cX4_isLeft 10 = .ok (.getfield 47, 3) := by decide +kernel
theorem dX4_isLeft_13 : decode cX4_isLeft 13 = .ok (.iload_n 1, 1) := by decide +kernel
theorem dX4_isLeft_14 : decode cX4_isLeft 14 = .ok (.baload, 1) := by decide +kernel
theorem dX4_isLeft_15 : decode cX4_isLeft 15 = .ok (.ifCond .ne 7, 3) := by decide +kernel
theorem dX4_isLeft_18 : decode cX4_isLeft 18 = .ok (.iconst 1, 1) := by decide +kernel
theorem dX4_isLeft_19 : decode cX4_isLeft 19 = .ok (.goto 4, 3) := by decide +kernel
theorem dX4_isLeft_22 : decode cX4_isLeft 22 = .ok (.iconst 0, 1) := by decide +kernel
theorem dX4_isLeft_23 : decode cX4_isLeft 23 = .ok (.ireturn, 1) := by decide +kernel
set_option maxRecDepth 20000 in
theorem ggX4_allPoints_X4_isLeft : GoodIn wsX4_allPoints wsX4_isLeft := goodIn_r _ [8, 9, 10, 11, 12, 13, 14, 15, 16, 17, 18, 19, 20, 21, 22, 23, 24, 25, 26, 27, 28, 29, 30, 31, 32] (by decide +kernel) (by decide +kernel)
set_option maxRecDepth 20000 in
theorem gX4_allPoints_X4_isLeft : GoodIn wsX4_allPoints (wsV RX4 110 RX4 yX4_isLeft wsX4_isLeft) := goodIn_app (goodIn_of _ (by decide +kernel)) ggX4_allPoints_X4_isLeft
theorem dX4_allPoints_0 : decode cX4_allPoints 0 = .ok (.lconst 0, 1) := by decide +kernel
theorem dX4_allPoints_1 : decode cX4_allPoints 1 = .ok (.lstore_n 1, 1) := by decide +kernel
theorem dX4_allPoints_2 : decode cX4_allPoints 2 = .ok (.iconst 0, 1) := by decide +kernel
theorem dX4_allPoints_3 : decode cX4_allPoints 3 = .ok (.istore_n 3, 1) := by decide +kernel
theorem dX4_allPoints_4 : decode cX4_allPoints 4 = .ok (.iload_n 3, 1) := by decide +kernel
theorem dX4_allPoints_5 : decode cX4_allPoints 5 = .ok (.aload_n 0, 1) := by decide +kernel
theorem dX4_allPoints_6 : decode cX4_allPoints 6 = .ok (.getfield 61, 3) := by decide +kernel
theorem dX4_allPoints_9 : decode cX4_allPoints 9 = .ok (.if_icmp .ge 36, 3) := by decide +kernel
theorem dX4_allPoints_12 : decode cX4_allPoints 12 = .ok (.lload_n 1, 1) := by decide +kernel
theorem dX4_allPoints_13 : decode cX4_allPoints 13 = .ok (.aload_n 0, 1) := by decide +kernel
theorem dX4_allPoints_14 : decode cX4_allPoints 14 = .ok (.iload_n 3, 1) := by decide +kernel
theorem dX4_allPoints_15 : decode cX4_allPoints 15 = .ok (.invokevirtual 110, 3) := by decide +kernel
theorem dX4_allPoints_18 : decode cX4_allPoints 18 = .ok (.ifCond .eq 18, 3) := by decide +kernel
theorem dX4_allPoints_21 : decode cX4_allPoints 21 = .ok (.aload_n 0, 1) := by decide +kernel
theorem dX4_allPoints_22 : decode cX4_allPoints 22 = .ok (.getfield 7, 3) := by decide +kernel
theorem dX4_allPoints_25 : decode cX4_allPoints 25 = .ok (.aload_n 0, 1) := by decide +kernel
theorem dX4_allPoints_26 : decode cX4_allPoints 26 = .ok (.getfield 19, 3) := by decide +kernel
theorem dX4_allPoints_29 : decode cX4_allPoints 29 = .ok (.iload_n 3, 1) := by decide +kernel
theorem dX4_allPoints_30 : decode cX4_allPoints 30 = .ok (.iaload, 1) := by decide +kernel
theorem dX4_allPoints_31 : decode cX4_allPoints 31 = .ok (.iaload, 1) := by decide +kernel
theorem dX4_allPoints_32 : decode cX4_allPoints 32 = .ok (.i2l, 1) := by decide +kernel
theorem dX4_allPoints_33 : decode cX4_allPoints 33 = .ok (.goto 4, 3) := by decide +kernel
theorem dX4_allPoints_36 : decode cX4_allPoints 36 = .ok (.lconst 0, 1) := by decide +kernel
theorem dX4_allPoints_37 : decode cX4_allPoints 37 = .ok (.ladd, 1) := by decide +kernel
theorem dX4_allPoints_38 : decode cX4_allPoints 38 = .ok (.lstore_n 1, 1) := by decide +kernel
theorem dX4_allPoints_39 : decode cX4_allPoints 39 = .ok (.iinc 3 1, 3) := by decide +kernel
theorem dX4_allPoints_42 : decode cX4_allPoints 42 = .ok (.goto (-38), 3) := by decide +kernel
theorem dX4_allPoints_45 : decode cX4_allPoints 45 = .ok (.lload_n 1, 1) := by decide +kernel
theorem dX4_allPoints_46 : decode cX4_allPoints 46 = .ok (.lreturn, 1) := by decide +kernel
set_option maxRecDepth 20000 in
theorem ggX4_givesRooms_X4_allPoints : GoodIn wsX4_givesRooms wsX4_allPoints := goodIn_r _ [12, 1, 3, 4, 13, 14, 15, 11, 16, 7, 6, 17, 18, 19, 20, 21, 22, 23, 24, 25, 26, 27, 28, 29, 30, 31, 32, 33, 34, 35, 36, 37, 38] (by decide +kernel) (by decide +kernel)
set_option maxRecDepth 20000 in
theorem gX4_givesRooms_X4_allPoints : GoodIn wsX4_givesRooms (wsV RX4 113 RX4 yX4_allPoints wsX4_allPoints) := goodIn_app (goodIn_of _ (by decide +kernel)) ggX4_givesRooms_X4_allPoints
set_option maxRecDepth 20000 in
theorem ggX4_givesRooms_X4_isLeft : GoodIn wsX4_givesRooms wsX4_isLeft := goodIn_r _ [16, 7, 6, 17, 18, 19, 20, 21, 22, 23, 24, 25, 26, 27, 28, 29, 30, 31, 32, 33, 34, 35, 36, 37, 38] (by decide +kernel) (by decide +kernel)
set_option maxRecDepth 20000 in
theorem gX4_givesRooms_X4_isLeft : GoodIn wsX4_givesRooms (wsV RX4 110 RX4 yX4_isLeft wsX4_isLeft) := goodIn_app (goodIn_of _ (by decide +kernel)) ggX4_givesRooms_X4_isLeft
theorem dX4_givesRooms_0 : decode cX4_givesRooms 0 = .ok (.aload_n 0, 1) := by decide +kernel
theorem dX4_givesRooms_1 : decode cX4_givesRooms 1 = .ok (.invokevirtual 113, 3) := by decide +kernel
theorem dX4_givesRooms_4 : decode cX4_givesRooms 4 = .ok (.lstore_n 2, 1) := by decide +kernel
theorem dX4_givesRooms_5 : decode cX4_givesRooms 5 = .ok (.iconst 0, 1) := by decide +kernel
theorem dX4_givesRooms_6 : decode cX4_givesRooms 6 = .ok (.istore 4, 2) := by decide +kernel
theorem dX4_givesRooms_8 : decode cX4_givesRooms 8 = .ok (.iconst 0, 1) := by decide +kernel
theorem dX4_givesRooms_9 : decode cX4_givesRooms 9 = .ok (.istore 5, 2) := by decide +kernel
theorem dX4_givesRooms_11 : decode cX4_givesRooms 11 = .ok (.iload 5, 2) := by decide +kernel
theorem dX4_givesRooms_13 : decode cX4_givesRooms 13 = .ok (.aload_n 0, 1) := by decide +kernel
theorem dX4_givesRooms_14 : decode cX4_givesRooms 14 = .ok (.getfield 61, 3) := by decide +kernel
theorem dX4_givesRooms_17 : decode cX4_givesRooms 17 = .ok (.if_icmp .ge 36, 3) := by decide +kernel
theorem dX4_givesRooms_20 : decode cX4_givesRooms 20 = .ok (.aload_n 0, 1) := by decide +kernel
theorem dX4_givesRooms_21 : decode cX4_givesRooms 21 = .ok (.getfield 50, 3) := by decide +kernel
theorem dX4_givesRooms_24 : decode cX4_givesRooms 24 = .ok (.iload 5, 2) := by decide +kernel
theorem dX4_givesRooms_26 : decode cX4_givesRooms 26 = .ok (.aload_n 0, 1) := by decide +kernel
theorem dX4_givesRooms_27 : decode cX4_givesRooms 27 = .ok (.iload 5, 2) := by decide +kernel
theorem dX4_givesRooms_29 : decode cX4_givesRooms 29 = .ok (.invokevirtual 110, 3) := by decide +kernel
theorem dX4_givesRooms_32 : decode cX4_givesRooms 32 = .ok (.ifCond .eq 7, 3) := by decide +kernel
theorem dX4_givesRooms_35 : decode cX4_givesRooms 35 = .ok (.iconst (-1), 1) := by decide +kernel
theorem dX4_givesRooms_36 : decode cX4_givesRooms 36 = .ok (.goto 10, 3) := by decide +kernel
theorem dX4_givesRooms_39 : decode cX4_givesRooms 39 = .ok (.aload_n 0, 1) := by decide +kernel
theorem dX4_givesRooms_40 : decode cX4_givesRooms 40 = .ok (.getfield 50, 3) := by decide +kernel
theorem dX4_givesRooms_43 : decode cX4_givesRooms 43 = .ok (.iload 5, 2) := by decide +kernel
theorem dX4_givesRooms_45 : decode cX4_givesRooms 45 = .ok (.iaload, 1) := by decide +kernel
theorem dX4_givesRooms_46 : decode cX4_givesRooms 46 = .ok (.iastore, 1) := by decide +kernel
theorem dX4_givesRooms_47 : decode cX4_givesRooms 47 = .ok (.iinc 5 1, 3) := by decide +kernel
theorem dX4_givesRooms_50 : decode cX4_givesRooms 50 = .ok (.goto (-39), 3) := by decide +kernel
theorem dX4_givesRooms_53 : decode cX4_givesRooms 53 = .ok (.iconst 0, 1) := by decide +kernel
theorem dX4_givesRooms_54 : decode cX4_givesRooms 54 = .ok (.istore 5, 2) := by decide +kernel
theorem dX4_givesRooms_56 : decode cX4_givesRooms 56 = .ok (.iload 5, 2) := by decide +kernel
theorem dX4_givesRooms_58 : decode cX4_givesRooms 58 = .ok (.aload_n 0, 1) := by decide +kernel
theorem dX4_givesRooms_59 : decode cX4_givesRooms 59 = .ok (.getfield 61, 3) := by decide +kernel
theorem dX4_givesRooms_62 : decode cX4_givesRooms 62 = .ok (.if_icmp .ge 86, 3) := by decide +kernel
theorem dX4_givesRooms_65 : decode cX4_givesRooms 65 = .ok (.aload_n 0, 1) := by decide +kernel
theorem dX4_givesRooms_66 : decode cX4_givesRooms 66 = .ok (.iload 5, 2) := by decide +kernel
theorem dX4_givesRooms_68 : decode cX4_givesRooms 68 = .ok (.invokevirtual 110, 3) := by decide +kernel
theorem dX4_givesRooms_71 : decode cX4_givesRooms 71 = .ok (.ifCond .eq 37, 3) := by decide +kernel
theorem dX4_givesRooms_74 : decode cX4_givesRooms 74 = .ok (.aload_n 0, 1) := by decide +kernel
theorem dX4_givesRooms_75 : decode cX4_givesRooms 75 = .ok (.getfield 7, 3) := by decide +kernel
theorem dX4_givesRooms_78 : decode cX4_givesRooms 78 = .ok (.aload_n 0, 1) := by decide +kernel
theorem dX4_givesRooms_79 : decode cX4_givesRooms 79 = .ok (.getfield 19, 3) := by decide +kernel
theorem dX4_givesRooms_82 : decode cX4_givesRooms 82 = .ok (.iload 5, 2) := by decide +kernel
theorem dX4_givesRooms_84 : decode cX4_givesRooms 84 = .ok (.iaload, 1) := by decide +kernel
theorem dX4_givesRooms_85 : decode cX4_givesRooms 85 = .ok (.iaload, 1) := by decide +kernel
theorem dX4_givesRooms_86 : decode cX4_givesRooms 86 = .ok (.i2l, 1) := by decide +kernel
theorem dX4_givesRooms_87 : decode cX4_givesRooms 87 = .ok (.iload_n 1, 1) := by decide +kernel
theorem dX4_givesRooms_88 : decode cX4_givesRooms 88 = .ok (.i2l, 1) := by decide +kernel
theorem dX4_givesRooms_89 : decode cX4_givesRooms 89 = .ok (.lmul, 1) := by decide +kernel
theorem dX4_givesRooms_90 : decode cX4_givesRooms 90 = .ok (.aload_n 0, 1) := by decide +kernel
theorem dX4_givesRooms_91 : decode cX4_givesRooms 91 = .ok (.getfield 53, 3) := by decide +kernel
theorem dX4_givesRooms_94 : decode cX4_givesRooms 94 = .ok (.iload 5, 2) := by decide +kernel
theorem dX4_givesRooms_96 : decode cX4_givesRooms 96 = .ok (.iaload, 1) := by decide +kernel
theorem dX4_givesRooms_97 : decode cX4_givesRooms 97 = .ok (.i2l, 1) := by decide +kernel
theorem dX4_givesRooms_98 : decode cX4_givesRooms 98 = .ok (.lload_n 2, 1) := by decide +kernel
theorem dX4_givesRooms_99 : decode cX4_givesRooms 99 = .ok (.lmul, 1) := by decide +kernel
theorem dX4_givesRooms_100 : decode cX4_givesRooms 100 = .ok (.lcmp, 1) := by decide +kernel
theorem dX4_givesRooms_101 : decode cX4_givesRooms 101 = .ok (.ifCond .lt 7, 3) := by decide +kernel
theorem dX4_givesRooms_104 : decode cX4_givesRooms 104 = .ok (.iconst 1, 1) := by decide +kernel
theorem dX4_givesRooms_105 : decode cX4_givesRooms 105 = .ok (.goto 4, 3) := by decide +kernel
theorem dX4_givesRooms_108 : decode cX4_givesRooms 108 = .ok (.iconst 0, 1) := by decide +kernel
theorem dX4_givesRooms_109 : decode cX4_givesRooms 109 = .ok (.istore 6, 2) := by decide +kernel
theorem dX4_givesRooms_111 : decode cX4_givesRooms 111 = .ok (.iload 6, 2) := by decide +kernel
theorem dX4_givesRooms_113 : decode cX4_givesRooms 113 = .ok (.ifCond .eq 29, 3) := by decide +kernel
theorem dX4_givesRooms_116 : decode cX4_givesRooms 116 = .ok (.aload_n 0, 1) := by decide +kernel
theorem dX4_givesRooms_117 : decode cX4_givesRooms 117 = .ok (.getfield 50, 3) := by decide +kernel
theorem dX4_givesRooms_120 : decode cX4_givesRooms 120 = .ok (.iload 5, 2) := by decide +kernel
theorem dX4_givesRooms_122 : decode cX4_givesRooms 122 = .ok (.aload_n 0, 1) := by decide +kernel
theorem dX4_givesRooms_123 : decode cX4_givesRooms 123 = .ok (.getfield 53, 3) := by decide +kernel
theorem dX4_givesRooms_126 : decode cX4_givesRooms 126 = .ok (.iload 5, 2) := by decide +kernel
theorem dX4_givesRooms_128 : decode cX4_givesRooms 128 = .ok (.iaload, 1) := by decide +kernel
theorem dX4_givesRooms_129 : decode cX4_givesRooms 129 = .ok (.iastore, 1) := by decide +kernel
theorem dX4_givesRooms_130 : decode cX4_givesRooms 130 = .ok (.iload 4, 2) := by decide +kernel
theorem dX4_givesRooms_132 : decode cX4_givesRooms 132 = .ok (.aload_n 0, 1) := by decide +kernel
theorem dX4_givesRooms_133 : decode cX4_givesRooms 133 = .ok (.getfield 50, 3) := by decide +kernel
theorem dX4_givesRooms_136 : decode cX4_givesRooms 136 = .ok (.iload 5, 2) := by decide +kernel
theorem dX4_givesRooms_138 : decode cX4_givesRooms 138 = .ok (.iaload, 1) := by decide +kernel
theorem dX4_givesRooms_139 : decode cX4_givesRooms 139 = .ok (.iadd, 1) := by decide +kernel
theorem dX4_givesRooms_140 : decode cX4_givesRooms 140 = .ok (.istore 4, 2) := by decide +kernel
theorem dX4_givesRooms_142 : decode cX4_givesRooms 142 = .ok (.iinc 5 1, 3) := by decide +kernel
theorem dX4_givesRooms_145 : decode cX4_givesRooms 145 = .ok (.goto (-89), 3) := by decide +kernel
theorem dX4_givesRooms_148 : decode cX4_givesRooms 148 = .ok (.iconst 0, 1) := by decide +kernel
theorem dX4_givesRooms_149 : decode cX4_givesRooms 149 = .ok (.istore 5, 2) := by decide +kernel
theorem dX4_givesRooms_151 : decode cX4_givesRooms 151 = .ok (.iload 5, 2) := by decide +kernel
theorem dX4_givesRooms_153 : decode cX4_givesRooms 153 = .ok (.aload_n 0, 1) := by decide +kernel
theorem dX4_givesRooms_154 : decode cX4_givesRooms 154 = .ok (.getfield 61, 3) := by decide +kernel
theorem dX4_givesRooms_157 : decode cX4_givesRooms 157 = .ok (.if_icmp .ge 42, 3) := by decide +kernel
theorem dX4_givesRooms_160 : decode cX4_givesRooms 160 = .ok (.aload_n 0, 1) := by decide +kernel
theorem dX4_givesRooms_161 : decode cX4_givesRooms 161 = .ok (.getfield 47, 3) := by decide +kernel
theorem dX4_givesRooms_164 : decode cX4_givesRooms 164 = .ok (.iload 5, 2) := by decide +kernel
theorem dX4_givesRooms_166 : decode cX4_givesRooms 166 = .ok (.aload_n 0, 1) := by decide +kernel
theorem dX4_givesRooms_167 : decode cX4_givesRooms 167 = .ok (.getfield 44, 3) := by decide +kernel
theorem dX4_givesRooms_170 : decode cX4_givesRooms 170 = .ok (.iload 5, 2) := by decide +kernel
theorem dX4_givesRooms_172 : decode cX4_givesRooms 172 = .ok (.baload, 1) := by decide +kernel
theorem dX4_givesRooms_173 : decode cX4_givesRooms 173 = .ok (.ifCond .eq 18, 3) := by decide +kernel
theorem dX4_givesRooms_176 : decode cX4_givesRooms 176 = .ok (.aload_n 0, 1) := by decide +kernel
theorem dX4_givesRooms_177 : decode cX4_givesRooms 177 = .ok (.getfield 50, 3) := by decide +kernel
theorem dX4_givesRooms_180 : decode cX4_givesRooms 180 = .ok (.iload 5, 2) := by decide +kernel
theorem dX4_givesRooms_182 : decode cX4_givesRooms 182 = .ok (.iaload, 1) := by decide +kernel
theorem dX4_givesRooms_183 : decode cX4_givesRooms 183 = .ok (.iconst (-1), 1) := by decide +kernel
theorem dX4_givesRooms_184 : decode cX4_givesRooms 184 = .ok (.if_icmp .eq 7, 3) := by decide +kernel
theorem dX4_givesRooms_187 : decode cX4_givesRooms 187 = .ok (.iconst 1, 1) := by decide +kernel
theorem dX4_givesRooms_188 : decode cX4_givesRooms 188 = .ok (.goto 4, 3) := by decide +kernel
theorem dX4_givesRooms_191 : decode cX4_givesRooms 191 = .ok (.iconst 0, 1) := by decide +kernel
theorem dX4_givesRooms_192 : decode cX4_givesRooms 192 = .ok (.bastore, 1) := by decide +kernel
theorem dX4_givesRooms_193 : decode cX4_givesRooms 193 = .ok (.iinc 5 1, 3) := by decide +kernel
theorem dX4_givesRooms_196 : decode cX4_givesRooms 196 = .ok (.goto (-45), 3) := by decide +kernel
theorem dX4_givesRooms_199 : decode cX4_givesRooms 199 = .ok (.iload 4, 2) := by decide +kernel
theorem dX4_givesRooms_201 : decode cX4_givesRooms 201 = .ok (.ireturn, 1) := by decide +kernel
set_option maxRecDepth 20000 in
theorem ggX4_givesRest_X4_allPoints : GoodIn wsX4_givesRest wsX4_allPoints := goodIn_r _ [9, 1, 3, 4, 10, 11, 12, 8, 13, 14, 15, 16, 17, 18, 19, 20, 21, 22, 23, 24, 25, 26, 27, 28, 29, 30, 31, 32, 33, 34, 35, 36, 37] (by decide +kernel) (by decide +kernel)
set_option maxRecDepth 20000 in
theorem gX4_givesRest_X4_allPoints : GoodIn wsX4_givesRest (wsV RX4 113 RX4 yX4_allPoints wsX4_allPoints) := goodIn_app (goodIn_of _ (by decide +kernel)) ggX4_givesRest_X4_allPoints
set_option maxRecDepth 20000 in
theorem ggX4_givesRest_X4_isLeft : GoodIn wsX4_givesRest wsX4_isLeft := goodIn_r _ [13, 14, 15, 16, 17, 18, 19, 20, 21, 22, 23, 24, 25, 26, 27, 28, 29, 30, 31, 32, 33, 34, 35, 36, 37] (by decide +kernel) (by decide +kernel)
set_option maxRecDepth 20000 in
theorem gX4_givesRest_X4_isLeft : GoodIn wsX4_givesRest (wsV RX4 110 RX4 yX4_isLeft wsX4_isLeft) := goodIn_app (goodIn_of _ (by decide +kernel)) ggX4_givesRest_X4_isLeft
theorem dX4_givesRest_0 : decode cX4_givesRest 0 = .ok (.aload_n 0, 1) := by decide +kernel
theorem dX4_givesRest_1 : decode cX4_givesRest 1 = .ok (.invokevirtual 113, 3) := by decide +kernel
theorem dX4_givesRest_4 : decode cX4_givesRest 4 = .ok (.lstore_n 2, 1) := by decide +kernel
theorem dX4_givesRest_5 : decode cX4_givesRest 5 = .ok (.iload_n 1, 1) := by decide +kernel
theorem dX4_givesRest_6 : decode cX4_givesRest 6 = .ok (.istore 4, 2) := by decide +kernel
theorem dX4_givesRest_8 : decode cX4_givesRest 8 = .ok (.iconst 0, 1) := by decide +kernel
theorem dX4_givesRest_9 : decode cX4_givesRest 9 = .ok (.istore 5, 2) := by decide +kernel
theorem dX4_givesRest_11 : decode cX4_givesRest 11 = .ok (.iload 5, 2) := by decide +kernel
theorem dX4_givesRest_13 : decode cX4_givesRest 13 = .ok (.aload_n 0, 1) := by decide +kernel
theorem dX4_givesRest_14 : decode cX4_givesRest 14 = .ok (.getfield 61, 3) := by decide +kernel
theorem dX4_givesRest_17 : decode cX4_givesRest 17 = .ok (.if_icmp .ge 56, 3) := by decide +kernel
theorem dX4_givesRest_20 : decode cX4_givesRest 20 = .ok (.aload_n 0, 1) := by decide +kernel
theorem dX4_givesRest_21 : decode cX4_givesRest 21 = .ok (.iload 5, 2) := by decide +kernel
theorem dX4_givesRest_23 : decode cX4_givesRest 23 = .ok (.invokevirtual 110, 3) := by decide +kernel
theorem dX4_givesRest_26 : decode cX4_givesRest 26 = .ok (.ifCond .eq 41, 3) := by decide +kernel
theorem dX4_givesRest_29 : decode cX4_givesRest 29 = .ok (.aload_n 0, 1) := by decide +kernel
theorem dX4_givesRest_30 : decode cX4_givesRest 30 = .ok (.getfield 50, 3) := by decide +kernel
theorem dX4_givesRest_33 : decode cX4_givesRest 33 = .ok (.iload 5, 2) := by decide +kernel
theorem dX4_givesRest_35 : decode cX4_givesRest 35 = .ok (.aload_n 0, 1) := by decide +kernel
theorem dX4_givesRest_36 : decode cX4_givesRest 36 = .ok (.getfield 7, 3) := by decide +kernel
theorem dX4_givesRest_39 : decode cX4_givesRest 39 = .ok (.aload_n 0, 1) := by decide +kernel
theorem dX4_givesRest_40 : decode cX4_givesRest 40 = .ok (.getfield 19, 3) := by decide +kernel
theorem dX4_givesRest_43 : decode cX4_givesRest 43 = .ok (.iload 5, 2) := by decide +kernel
theorem dX4_givesRest_45 : decode cX4_givesRest 45 = .ok (.iaload, 1) := by decide +kernel
theorem dX4_givesRest_46 : decode cX4_givesRest 46 = .ok (.iaload, 1) := by decide +kernel
theorem dX4_givesRest_47 : decode cX4_givesRest 47 = .ok (.i2l, 1) := by decide +kernel
theorem dX4_givesRest_48 : decode cX4_givesRest 48 = .ok (.iload_n 1, 1) := by decide +kernel
theorem dX4_givesRest_49 : decode cX4_givesRest 49 = .ok (.i2l, 1) := by decide +kernel
theorem dX4_givesRest_50 : decode cX4_givesRest 50 = .ok (.lmul, 1) := by decide +kernel
theorem dX4_givesRest_51 : decode cX4_givesRest 51 = .ok (.lload_n 2, 1) := by decide +kernel
theorem dX4_givesRest_52 : decode cX4_givesRest 52 = .ok (.ldiv, 1) := by decide +kernel
theorem dX4_givesRest_53 : decode cX4_givesRest 53 = .ok (.l2i, 1) := by decide +kernel
theorem dX4_givesRest_54 : decode cX4_givesRest 54 = .ok (.iastore, 1) := by decide +kernel
theorem dX4_givesRest_55 : decode cX4_givesRest 55 = .ok (.iload 4, 2) := by decide +kernel
theorem dX4_givesRest_57 : decode cX4_givesRest 57 = .ok (.aload_n 0, 1) := by decide +kernel
theorem dX4_givesRest_58 : decode cX4_givesRest 58 = .ok (.getfield 50, 3) := by decide +kernel
theorem dX4_givesRest_61 : decode cX4_givesRest 61 = .ok (.iload 5, 2) := by decide +kernel
theorem dX4_givesRest_63 : decode cX4_givesRest 63 = .ok (.iaload, 1) := by decide +kernel
theorem dX4_givesRest_64 : decode cX4_givesRest 64 = .ok (.isub, 1) := by decide +kernel
theorem dX4_givesRest_65 : decode cX4_givesRest 65 = .ok (.istore 4, 2) := by decide +kernel
theorem dX4_givesRest_67 : decode cX4_givesRest 67 = .ok (.iinc 5 1, 3) := by decide +kernel
theorem dX4_givesRest_70 : decode cX4_givesRest 70 = .ok (.goto (-59), 3) := by decide +kernel
theorem dX4_givesRest_73 : decode cX4_givesRest 73 = .ok (.iconst 0, 1) := by decide +kernel
theorem dX4_givesRest_74 : decode cX4_givesRest 74 = .ok (.istore 5, 2) := by decide +kernel
theorem dX4_givesRest_76 : decode cX4_givesRest 76 = .ok (.iload 5, 2) := by decide +kernel
theorem dX4_givesRest_78 : decode cX4_givesRest 78 = .ok (.aload_n 0, 1) := by decide +kernel
theorem dX4_givesRest_79 : decode cX4_givesRest 79 = .ok (.getfield 61, 3) := by decide +kernel
theorem dX4_givesRest_82 : decode cX4_givesRest 82 = .ok (.if_icmp .ge 65, 3) := by decide +kernel
theorem dX4_givesRest_85 : decode cX4_givesRest 85 = .ok (.aload_n 0, 1) := by decide +kernel
theorem dX4_givesRest_86 : decode cX4_givesRest 86 = .ok (.iload 5, 2) := by decide +kernel
theorem dX4_givesRest_88 : decode cX4_givesRest 88 = .ok (.invokevirtual 110, 3) := by decide +kernel
theorem dX4_givesRest_91 : decode cX4_givesRest 91 = .ok (.ifCond .eq 12, 3) := by decide +kernel
theorem dX4_givesRest_94 : decode cX4_givesRest 94 = .ok (.iload 4, 2) := by decide +kernel
theorem dX4_givesRest_96 : decode cX4_givesRest 96 = .ok (.ifCond .le 7, 3) := by decide +kernel
theorem dX4_givesRest_99 : decode cX4_givesRest 99 = .ok (.iconst 1, 1) := by decide +kernel
theorem dX4_givesRest_100 : decode cX4_givesRest 100 = .ok (.goto 4, 3) := by decide +kernel
theorem dX4_givesRest_103 : decode cX4_givesRest 103 = .ok (.iconst 0, 1) := by decide +kernel
theorem dX4_givesRest_104 : decode cX4_givesRest 104 = .ok (.istore 6, 2) := by decide +kernel
theorem dX4_givesRest_106 : decode cX4_givesRest 106 = .ok (.aload_n 0, 1) := by decide +kernel
theorem dX4_givesRest_107 : decode cX4_givesRest 107 = .ok (.getfield 50, 3) := by decide +kernel
theorem dX4_givesRest_110 : decode cX4_givesRest 110 = .ok (.iload 5, 2) := by decide +kernel
theorem dX4_givesRest_112 : decode cX4_givesRest 112 = .ok (.dup2, 1) := by decide +kernel
theorem dX4_givesRest_113 : decode cX4_givesRest 113 = .ok (.iaload, 1) := by decide +kernel
theorem dX4_givesRest_114 : decode cX4_givesRest 114 = .ok (.iload 6, 2) := by decide +kernel
theorem dX4_givesRest_116 : decode cX4_givesRest 116 = .ok (.ifCond .eq 7, 3) := by decide +kernel
theorem dX4_givesRest_119 : decode cX4_givesRest 119 = .ok (.iconst 1, 1) := by decide +kernel
theorem dX4_givesRest_120 : decode cX4_givesRest 120 = .ok (.goto 4, 3) := by decide +kernel
theorem dX4_givesRest_123 : decode cX4_givesRest 123 = .ok (.iconst 0, 1) := by decide +kernel
theorem dX4_givesRest_124 : decode cX4_givesRest 124 = .ok (.iadd, 1) := by decide +kernel
theorem dX4_givesRest_125 : decode cX4_givesRest 125 = .ok (.iastore, 1) := by decide +kernel
theorem dX4_givesRest_126 : decode cX4_givesRest 126 = .ok (.iload 4, 2) := by decide +kernel
theorem dX4_givesRest_128 : decode cX4_givesRest 128 = .ok (.iload 6, 2) := by decide +kernel
theorem dX4_givesRest_130 : decode cX4_givesRest 130 = .ok (.ifCond .eq 7, 3) := by decide +kernel
theorem dX4_givesRest_133 : decode cX4_givesRest 133 = .ok (.iconst 1, 1) := by decide +kernel
theorem dX4_givesRest_134 : decode cX4_givesRest 134 = .ok (.goto 4, 3) := by decide +kernel
theorem dX4_givesRest_137 : decode cX4_givesRest 137 = .ok (.iconst 0, 1) := by decide +kernel
theorem dX4_givesRest_138 : decode cX4_givesRest 138 = .ok (.isub, 1) := by decide +kernel
theorem dX4_givesRest_139 : decode cX4_givesRest 139 = .ok (.istore 4, 2) := by decide +kernel
theorem dX4_givesRest_141 : decode cX4_givesRest 141 = .ok (.iinc 5 1, 3) := by decide +kernel
theorem dX4_givesRest_144 : decode cX4_givesRest 144 = .ok (.goto (-68), 3) := by decide +kernel
theorem dX4_givesRest_147 : decode cX4_givesRest 147 = .ok (.return_, 1) := by decide +kernel
set_option maxRecDepth 20000 in
theorem ggX4_shares_X4_givesRooms : GoodIn wsX4_shares wsX4_givesRooms := goodIn_r _ [8, 1, 3, 9, 10, 11, 2, 12, 13, 14, 15, 7, 16, 17, 18, 19, 20, 25, 26, 27, 28, 29, 30, 31, 32, 33, 34, 35, 36, 37, 38, 39, 40, 41, 42, 43, 44, 45, 46] (by decide +kernel) (by decide +kernel)
set_option maxRecDepth 20000 in
theorem gX4_shares_X4_givesRooms : GoodIn wsX4_shares (wsV RX4 117 RX4 yX4_givesRooms wsX4_givesRooms) := goodIn_app (goodIn_of _ (by decide +kernel)) ggX4_shares_X4_givesRooms
set_option maxRecDepth 20000 in
theorem ggX4_shares_X4_givesRest : GoodIn wsX4_shares wsX4_givesRest := goodIn_r _ [24, 1, 3, 9, 10, 13, 14, 15, 7, 16, 17, 18, 19, 20, 12, 2, 25, 26, 27, 28, 29, 30, 31, 32, 33, 34, 35, 36, 37, 38, 39, 40, 41, 42, 43, 44, 45, 46] (by decide +kernel) (by decide +kernel)
set_option maxRecDepth 20000 in
theorem gX4_shares_X4_givesRest : GoodIn wsX4_shares (wsV RX4 120 RX4 yX4_givesRest wsX4_givesRest) := goodIn_app (goodIn_of _ (by decide +kernel)) ggX4_shares_X4_givesRest
theorem dX4_shares_0 : decode cX4_shares 0 = .ok (.iload_n 1, 1) := by decide +kernel
theorem dX4_shares_1 : decode cX4_shares 1 = .ok (.istore_n 2, 1) := by decide +kernel
theorem dX4_shares_2 : decode cX4_shares 2 = .ok (.iconst 0, 1) := by decide +kernel
theorem dX4_shares_3 : decode cX4_shares 3 = .ok (.istore_n 3, 1) := by decide +kernel
theorem dX4_shares_4 : decode cX4_shares 4 = .ok (.iload_n 3, 1) := by decide +kernel
theorem dX4_shares_5 : decode cX4_shares 5 = .ok (.aload_n 0, 1) := by decide +kernel
theorem dX4_shares_6 : decode cX4_shares 6 = .ok (.getfield 61, 3) := by decide +kernel
theorem dX4_shares_9 : decode cX4_shares 9 = .ok (.if_icmp .ge 23, 3) := by decide +kernel
theorem dX4_shares_12 : decode cX4_shares 12 = .ok (.aload_n 0, 1) := by decide +kernel
theorem dX4_shares_13 : decode cX4_shares 13 = .ok (.getfield 47, 3) := by decide +kernel
theorem dX4_shares_16 : decode cX4_shares 16 = .ok (.iload_n 3, 1) := by decide +kernel
theorem dX4_shares_17 : decode cX4_shares 17 = .ok (.iconst 0, 1) := by decide +kernel
theorem dX4_shares_18 : decode cX4_shares 18 = .ok (.bastore, 1) := by decide +kernel
theorem dX4_shares_19 : decode cX4_shares 19 = .ok (.aload_n 0, 1) := by decide +kernel
theorem dX4_shares_20 : decode cX4_shares 20 = .ok (.getfield 50, 3) := by decide +kernel
theorem dX4_shares_23 : decode cX4_shares 23 = .ok (.iload_n 3, 1) := by decide +kernel
theorem dX4_shares_24 : decode cX4_shares 24 = .ok (.iconst 0, 1) := by decide +kernel
theorem dX4_shares_25 : decode cX4_shares 25 = .ok (.iastore, 1) := by decide +kernel
theorem dX4_shares_26 : decode cX4_shares 26 = .ok (.iinc 3 1, 3) := by decide +kernel
theorem dX4_shares_29 : decode cX4_shares 29 = .ok (.goto (-25), 3) := by decide +kernel
theorem dX4_shares_32 : decode cX4_shares 32 = .ok (.aload_n 0, 1) := by decide +kernel
theorem dX4_shares_33 : decode cX4_shares 33 = .ok (.iload_n 2, 1) := by decide +kernel
theorem dX4_shares_34 : decode cX4_shares 34 = .ok (.invokevirtual 117, 3) := by decide +kernel
theorem dX4_shares_37 : decode cX4_shares 37 = .ok (.istore_n 3, 1) := by decide +kernel
theorem dX4_shares_38 : decode cX4_shares 38 = .ok (.iload_n 3, 1) := by decide +kernel
theorem dX4_shares_39 : decode cX4_shares 39 = .ok (.ifCond .le 16, 3) := by decide +kernel
theorem dX4_shares_42 : decode cX4_shares 42 = .ok (.iload_n 2, 1) := by decide +kernel
theorem dX4_shares_43 : decode cX4_shares 43 = .ok (.iload_n 3, 1) := by decide +kernel
theorem dX4_shares_44 : decode cX4_shares 44 = .ok (.isub, 1) := by decide +kernel
theorem dX4_shares_45 : decode cX4_shares 45 = .ok (.istore_n 2, 1) := by decide +kernel
theorem dX4_shares_46 : decode cX4_shares 46 = .ok (.aload_n 0, 1) := by decide +kernel
theorem dX4_shares_47 : decode cX4_shares 47 = .ok (.iload_n 2, 1) := by decide +kernel
theorem dX4_shares_48 : decode cX4_shares 48 = .ok (.invokevirtual 117, 3) := by decide +kernel
theorem dX4_shares_51 : decode cX4_shares 51 = .ok (.istore_n 3, 1) := by decide +kernel
theorem dX4_shares_52 : decode cX4_shares 52 = .ok (.goto (-14), 3) := by decide +kernel
theorem dX4_shares_55 : decode cX4_shares 55 = .ok (.aload_n 0, 1) := by decide +kernel
theorem dX4_shares_56 : decode cX4_shares 56 = .ok (.iload_n 2, 1) := by decide +kernel
theorem dX4_shares_57 : decode cX4_shares 57 = .ok (.invokevirtual 120, 3) := by decide +kernel
theorem dX4_shares_60 : decode cX4_shares 60 = .ok (.return_, 1) := by decide +kernel
theorem dX4_lowest_0 : decode cX4_lowest 0 = .ok (.iconst (-1), 1) := by decide +kernel
theorem dX4_lowest_1 : decode cX4_lowest 1 = .ok (.istore_n 1, 1) := by decide +kernel
theorem dX4_lowest_2 : decode cX4_lowest 2 = .ok (.iconst 0, 1) := by decide +kernel
theorem dX4_lowest_3 : decode cX4_lowest 3 = .ok (.istore_n 2, 1) := by decide +kernel
theorem dX4_lowest_4 : decode cX4_lowest 4 = .ok (.iload_n 2, 1) := by decide +kernel
theorem dX4_lowest_5 : decode cX4_lowest 5 = .ok (.aload_n 0, 1) := by decide +kernel
theorem dX4_lowest_6 : decode cX4_lowest 6 = .ok (.getfield 61, 3) := by decide +kernel
theorem dX4_lowest_9 : decode cX4_lowest 9 = .ok (.if_icmp .ge 44, 3) := by decide +kernel
theorem dX4_lowest_12 : decode cX4_lowest 12 = .ok (.aload_n 0, 1) := by decide +kernel
theorem dX4_lowest_13 : decode cX4_lowest 13 = .ok (.getfield 44, 3) := by decide +kernel
theorem dX4_lowest_16 : decode cX4_lowest 16 = .ok (.iload_n 2, 1) := by decide +kernel
theorem dX4_lowest_17 : decode cX4_lowest 17 = .ok (.baload, 1) := by decide +kernel
theorem dX4_lowest_18 : decode cX4_lowest 18 = .ok (.ifCond .eq 27, 3) := by decide +kernel
theorem dX4_lowest_21 : decode cX4_lowest 21 = .ok (.iload_n 1, 1) := by decide +kernel
theorem dX4_lowest_22 : decode cX4_lowest 22 = .ok (.iconst (-1), 1) := by decide +kernel
theorem dX4_lowest_23 : decode cX4_lowest 23 = .ok (.if_icmp .eq 18, 3) := by decide +kernel
theorem dX4_lowest_26 : decode cX4_lowest 26 = .ok (.aload_n 0, 1) := by decide +kernel
theorem dX4_lowest_27 : decode cX4_lowest 27 = .ok (.getfield 50, 3) := by decide +kernel
theorem dX4_lowest_30 : decode cX4_lowest 30 = .ok (.iload_n 2, 1) := by decide +kernel
theorem dX4_lowest_31 : decode cX4_lowest 31 = .ok (.iaload, 1) := by decide +kernel
theorem dX4_lowest_32 : decode cX4_lowest 32 = .ok (.aload_n 0, 1) := by decide +kernel
theorem dX4_lowest_33 : decode cX4_lowest 33 = .ok (.getfield 50, 3) := by decide +kernel
theorem dX4_lowest_36 : decode cX4_lowest 36 = .ok (.iload_n 1, 1) := by decide +kernel
theorem dX4_lowest_37 : decode cX4_lowest 37 = .ok (.iaload, 1) := by decide +kernel
theorem dX4_lowest_38 : decode cX4_lowest 38 = .ok (.if_icmp .gt 7, 3) := by decide +kernel
theorem dX4_lowest_41 : decode cX4_lowest 41 = .ok (.iload_n 2, 1) := by decide +kernel
theorem dX4_lowest_42 : decode cX4_lowest 42 = .ok (.goto 4, 3) := by decide +kernel
theorem dX4_lowest_45 : decode cX4_lowest 45 = .ok (.iload_n 1, 1) := by decide +kernel
theorem dX4_lowest_46 : decode cX4_lowest 46 = .ok (.istore_n 1, 1) := by decide +kernel
theorem dX4_lowest_47 : decode cX4_lowest 47 = .ok (.iinc 2 1, 3) := by decide +kernel
theorem dX4_lowest_50 : decode cX4_lowest 50 = .ok (.goto (-46), 3) := by decide +kernel
theorem dX4_lowest_53 : decode cX4_lowest 53 = .ok (.iload_n 1, 1) := by decide +kernel
theorem dX4_lowest_54 : decode cX4_lowest 54 = .ok (.ireturn, 1) := by decide +kernel
set_option maxRecDepth 20000 in
theorem ggX4_lays_X4_left : GoodIn wsX4_lays wsX4_left := goodIn_r _ [10, 11, 12, 13, 14, 15, 16, 17, 18, 9, 19, 20, 21, 63, 64, 65, 66, 67, 68, 69, 70, 71, 72, 73, 74, 75, 76, 77, 78, 79, 80, 81, 82, 83, 84] (by decide +kernel) (by decide +kernel)
set_option maxRecDepth 20000 in
theorem gX4_lays_X4_left : GoodIn wsX4_lays (wsV RX4 91 RX4 yX4_left wsX4_left) := goodIn_app (goodIn_of _ (by decide +kernel)) ggX4_lays_X4_left
set_option maxRecDepth 20000 in
theorem ggX4_lays_X4_roomOf : GoodIn wsX4_lays wsX4_roomOf := goodIn_r _ [25, 26, 27, 28, 29, 30, 9, 31, 13, 32, 14, 15, 63, 64, 65, 66, 67, 68, 69, 70, 71, 72, 73, 74, 75, 76, 77, 78, 79, 80, 81, 82, 83, 84] (by decide +kernel) (by decide +kernel)
set_option maxRecDepth 20000 in
theorem gX4_lays_X4_roomOf : GoodIn wsX4_lays (wsV RX4 124 RX4 yX4_roomOf wsX4_roomOf) := goodIn_app (goodIn_of _ (by decide +kernel)) ggX4_lays_X4_roomOf
set_option maxRecDepth 20000 in
theorem ggX4_lays_X4_hasVoid : GoodIn wsX4_lays wsX4_hasVoid := goodIn_r _ [36, 13, 32, 14, 63, 64, 65, 66, 67, 68, 69, 70, 71, 72, 73, 74, 75, 76, 77, 78, 79, 80, 81, 82, 83, 84] (by decide +kernel) (by decide +kernel)
set_option maxRecDepth 20000 in
theorem gX4_lays_X4_hasVoid : GoodIn wsX4_lays (wsV RX4 127 RX4 yX4_hasVoid wsX4_hasVoid) := goodIn_app (goodIn_of _ (by decide +kernel)) ggX4_lays_X4_hasVoid
set_option maxRecDepth 20000 in
theorem ggX4_lays_X4_shares : GoodIn wsX4_lays wsX4_shares := goodIn_r _ [40, 1, 41, 5, 42, 43, 44, 9, 45, 46, 27, 2, 3, 47, 48, 49, 50, 51, 52, 53, 54, 55, 56, 57, 58, 63, 64, 65, 66, 67, 68, 69, 70, 71, 72, 73, 74, 75, 76, 77, 78, 79, 80, 81, 82, 83, 84] (by decide +kernel) (by decide +kernel)
set_option maxRecDepth 20000 in
theorem gX4_lays_X4_shares : GoodIn wsX4_lays (wsV RX4 130 RX4 yX4_shares wsX4_shares) := goodIn_app (goodIn_of _ (by decide +kernel)) ggX4_lays_X4_shares
set_option maxRecDepth 20000 in
theorem ggX4_lays_X4_lowest : GoodIn wsX4_lays wsX4_lowest := goodIn_r _ [62, 1, 3, 5, 63, 64, 65, 66, 67, 68, 69, 70, 71, 72, 73, 74, 75, 76, 77, 78, 79, 80, 81, 82, 83, 84] (by decide +kernel) (by decide +kernel)
set_option maxRecDepth 20000 in
theorem gX4_lays_X4_lowest : GoodIn wsX4_lays (wsV RX4 132 RX4 yX4_lowest wsX4_lowest) := goodIn_app (goodIn_of _ (by decide +kernel)) ggX4_lays_X4_lowest
theorem dX4_lays_0 : decode cX4_lays 0 = .ok (.aload_n 0, 1) := by decide +kernel
theorem dX4_lays_1 : decode cX4_lays 1 = .ok (.invokevirtual 91, 3) := by decide +kernel
theorem dX4_lays_4 : decode cX4_lays 4 = .ok (.istore_n 2, 1) := by decide +kernel
theorem dX4_lays_5 : decode cX4_lays 5 = .ok (.iconst 0, 1) := by decide +kernel
theorem dX4_lays_6 : decode cX4_lays 6 = .ok (.istore_n 3, 1) := by decide +kernel
theorem dX4_lays_7 : decode cX4_lays 7 = .ok (.iload_n 3, 1) := by decide +kernel
theorem dX4_lays_8 : decode cX4_lays 8 = .ok (.aload_n 0, 1) := by decide +kernel
theorem dX4_lays_9 : decode cX4_lays 9 = .ok (.getfield 61, 3) := by decide +kernel
theorem dX4_lays_12 : decode cX4_lays 12 = .ok (.if_icmp .ge 61, 3) := by decide +kernel
theorem dX4_lays_15 : decode cX4_lays 15 = .ok (.aload_n 0, 1) := by decide +kernel
theorem dX4_lays_16 : decode cX4_lays 16 = .ok (.getfield 53, 3) := by decide +kernel
theorem dX4_lays_19 : decode cX4_lays 19 = .ok (.iload_n 3, 1) := by decide +kernel
theorem dX4_lays_20 : decode cX4_lays 20 = .ok (.aload_n 0, 1) := by decide +kernel
theorem dX4_lays_21 : decode cX4_lays 21 = .ok (.iload_n 3, 1) := by decide +kernel
theorem dX4_lays_22 : decode cX4_lays 22 = .ok (.invokevirtual 124, 3) := by decide +kernel
theorem dX4_lays_25 : decode cX4_lays 25 = .ok (.iastore, 1) := by decide +kernel
theorem dX4_lays_26 : decode cX4_lays 26 = .ok (.aload_n 0, 1) := by decide +kernel
theorem dX4_lays_27 : decode cX4_lays 27 = .ok (.getfield 44, 3) := by decide +kernel
theorem dX4_lays_30 : decode cX4_lays 30 = .ok (.iload_n 3, 1) := by decide +kernel
theorem dX4_lays_31 : decode cX4_lays 31 = .ok (.iload_n 2, 1) := by decide +kernel
theorem dX4_lays_32 : decode cX4_lays 32 = .ok (.ifCond .le 33, 3) := by decide +kernel
theorem dX4_lays_35 : decode cX4_lays 35 = .ok (.aload_n 0, 1) := by decide +kernel
theorem dX4_lays_36 : decode cX4_lays 36 = .ok (.getfield 22, 3) := by decide +kernel
theorem dX4_lays_39 : decode cX4_lays 39 = .ok (.iload_n 3, 1) := by decide +kernel
theorem dX4_lays_40 : decode cX4_lays 40 = .ok (.iaload, 1) := by decide +kernel
theorem dX4_lays_41 : decode cX4_lays 41 = .ok (.ifCond .ne 24, 3) := by decide +kernel
theorem dX4_lays_44 : decode cX4_lays 44 = .ok (.aload_n 0, 1) := by decide +kernel
theorem dX4_lays_45 : decode cX4_lays 45 = .ok (.getfield 53, 3) := by decide +kernel
theorem dX4_lays_48 : decode cX4_lays 48 = .ok (.iload_n 3, 1) := by decide +kernel
theorem dX4_lays_49 : decode cX4_lays 49 = .ok (.iaload, 1) := by decide +kernel
theorem dX4_lays_50 : decode cX4_lays 50 = .ok (.ifCond .le 15, 3) := by decide +kernel
theorem dX4_lays_53 : decode cX4_lays 53 = .ok (.aload_n 0, 1) := by decide +kernel
theorem dX4_lays_54 : decode cX4_lays 54 = .ok (.iload_n 3, 1) := by decide +kernel
theorem dX4_lays_55 : decode cX4_lays 55 = .ok (.invokevirtual 127, 3) := by decide +kernel
theorem dX4_lays_58 : decode cX4_lays 58 = .ok (.ifCond .ne 7, 3) := by decide +kernel
theorem dX4_lays_61 : decode cX4_lays 61 = .ok (.iconst 1, 1) := by decide +kernel
theorem dX4_lays_62 : decode cX4_lays 62 = .ok (.goto 4, 3) := by decide +kernel
theorem dX4_lays_65 : decode cX4_lays 65 = .ok (.iconst 0, 1) := by decide +kernel
theorem dX4_lays_66 : decode cX4_lays 66 = .ok (.bastore, 1) := by decide +kernel
theorem dX4_lays_67 : decode cX4_lays 67 = .ok (.iinc 3 1, 3) := by decide +kernel
theorem dX4_lays_70 : decode cX4_lays 70 = .ok (.goto (-63), 3) := by decide +kernel
theorem dX4_lays_73 : decode cX4_lays 73 = .ok (.aload_n 0, 1) := by decide +kernel
theorem dX4_lays_74 : decode cX4_lays 74 = .ok (.iload_n 2, 1) := by decide +kernel
theorem dX4_lays_75 : decode cX4_lays 75 = .ok (.invokevirtual 130, 3) := by decide +kernel
theorem dX4_lays_78 : decode cX4_lays 78 = .ok (.aload_n 0, 1) := by decide +kernel
theorem dX4_lays_79 : decode cX4_lays 79 = .ok (.invokevirtual 132, 3) := by decide +kernel
theorem dX4_lays_82 : decode cX4_lays 82 = .ok (.istore_n 3, 1) := by decide +kernel
theorem dX4_lays_83 : decode cX4_lays 83 = .ok (.iload_n 3, 1) := by decide +kernel
theorem dX4_lays_84 : decode cX4_lays 84 = .ok (.iconst (-1), 1) := by decide +kernel
theorem dX4_lays_85 : decode cX4_lays 85 = .ok (.if_icmp .eq 33, 3) := by decide +kernel
theorem dX4_lays_88 : decode cX4_lays 88 = .ok (.aload_n 0, 1) := by decide +kernel
theorem dX4_lays_89 : decode cX4_lays 89 = .ok (.getfield 50, 3) := by decide +kernel
theorem dX4_lays_92 : decode cX4_lays 92 = .ok (.iload_n 3, 1) := by decide +kernel
theorem dX4_lays_93 : decode cX4_lays 93 = .ok (.iaload, 1) := by decide +kernel
theorem dX4_lays_94 : decode cX4_lays 94 = .ok (.iload_n 1, 1) := by decide +kernel
theorem dX4_lays_95 : decode cX4_lays 95 = .ok (.if_icmp .ge 23, 3) := by decide +kernel
theorem dX4_lays_98 : decode cX4_lays 98 = .ok (.aload_n 0, 1) := by decide +kernel
theorem dX4_lays_99 : decode cX4_lays 99 = .ok (.getfield 44, 3) := by decide +kernel
theorem dX4_lays_102 : decode cX4_lays 102 = .ok (.iload_n 3, 1) := by decide +kernel
theorem dX4_lays_103 : decode cX4_lays 103 = .ok (.iconst 0, 1) := by decide +kernel
theorem dX4_lays_104 : decode cX4_lays 104 = .ok (.bastore, 1) := by decide +kernel
theorem dX4_lays_105 : decode cX4_lays 105 = .ok (.aload_n 0, 1) := by decide +kernel
theorem dX4_lays_106 : decode cX4_lays 106 = .ok (.iload_n 2, 1) := by decide +kernel
theorem dX4_lays_107 : decode cX4_lays 107 = .ok (.invokevirtual 130, 3) := by decide +kernel
theorem dX4_lays_110 : decode cX4_lays 110 = .ok (.aload_n 0, 1) := by decide +kernel
theorem dX4_lays_111 : decode cX4_lays 111 = .ok (.invokevirtual 132, 3) := by decide +kernel
theorem dX4_lays_114 : decode cX4_lays 114 = .ok (.istore_n 3, 1) := by decide +kernel
theorem dX4_lays_115 : decode cX4_lays 115 = .ok (.goto (-32), 3) := by decide +kernel
theorem dX4_lays_118 : decode cX4_lays 118 = .ok (.return_, 1) := by decide +kernel
theorem dX4_isOpen_0 : decode cX4_isOpen 0 = .ok (.iconst 0, 1) := by decide +kernel
theorem dX4_isOpen_1 : decode cX4_isOpen 1 = .ok (.istore_n 1, 1) := by decide +kernel
theorem dX4_isOpen_2 : decode cX4_isOpen 2 = .ok (.iconst 0, 1) := by decide +kernel
theorem dX4_isOpen_3 : decode cX4_isOpen 3 = .ok (.istore_n 2, 1) := by decide +kernel
theorem dX4_isOpen_4 : decode cX4_isOpen 4 = .ok (.iload_n 2, 1) := by decide +kernel
theorem dX4_isOpen_5 : decode cX4_isOpen 5 = .ok (.aload_n 0, 1) := by decide +kernel
theorem dX4_isOpen_6 : decode cX4_isOpen 6 = .ok (.getfield 68, 3) := by decide +kernel
theorem dX4_isOpen_9 : decode cX4_isOpen 9 = .ok (.if_icmp .ge 28, 3) := by decide +kernel
theorem dX4_isOpen_12 : decode cX4_isOpen 12 = .ok (.iload_n 1, 1) := by decide +kernel
theorem dX4_isOpen_13 : decode cX4_isOpen 13 = .ok (.ifCond .ne 12, 3) := by decide +kernel
theorem dX4_isOpen_16 : decode cX4_isOpen 16 = .ok (.aload_n 0, 1) := by decide +kernel
theorem dX4_isOpen_17 : decode cX4_isOpen 17 = .ok (.getfield 41, 3) := by decide +kernel
theorem dX4_isOpen_20 : decode cX4_isOpen 20 = .ok (.iload_n 2, 1) := by decide +kernel
theorem dX4_isOpen_21 : decode cX4_isOpen 21 = .ok (.iaload, 1) := by decide +kernel
theorem dX4_isOpen_22 : decode cX4_isOpen 22 = .ok (.ifCond .ne 7, 3) := by decide +kernel
theorem dX4_isOpen_25 : decode cX4_isOpen 25 = .ok (.iconst 1, 1) := by decide +kernel
theorem dX4_isOpen_26 : decode cX4_isOpen 26 = .ok (.goto 4, 3) := by decide +kernel
theorem dX4_isOpen_29 : decode cX4_isOpen 29 = .ok (.iconst 0, 1) := by decide +kernel
theorem dX4_isOpen_30 : decode cX4_isOpen 30 = .ok (.istore_n 1, 1) := by decide +kernel
theorem dX4_isOpen_31 : decode cX4_isOpen 31 = .ok (.iinc 2 1, 3) := by decide +kernel
theorem dX4_isOpen_34 : decode cX4_isOpen 34 = .ok (.goto (-30), 3) := by decide +kernel
theorem dX4_isOpen_37 : decode cX4_isOpen 37 = .ok (.iload_n 1, 1) := by decide +kernel
theorem dX4_isOpen_38 : decode cX4_isOpen 38 = .ok (.ireturn, 1) := by decide +kernel
set_option maxRecDepth 20000 in
theorem ggX4_round_X4_isIn : GoodIn wsX4_round wsX4_isIn := goodIn_r _ [14] (by decide +kernel) (by decide +kernel)
set_option maxRecDepth 20000 in
theorem gX4_round_X4_isIn : GoodIn wsX4_round (va_wsS RX4 64 yX4_isIn wsX4_isIn) := goodIn_app (goodIn_of _ (by decide +kernel)) ggX4_round_X4_isIn
set_option maxRecDepth 20000 in
theorem ggX4_round_X4_goes : GoodIn wsX4_round wsX4_goes := goodIn_r _ [18, 19, 86, 87, 88, 89, 90, 91, 92, 93, 94, 95, 96, 97, 98, 99, 100, 101, 102, 103, 104, 105, 106, 107] (by decide +kernel) (by decide +kernel)
set_option maxRecDepth 20000 in
theorem gX4_round_X4_goes : GoodIn wsX4_round (wsV RX4 87 RX4 yX4_goes wsX4_goes) := goodIn_app (goodIn_of _ (by decide +kernel)) ggX4_round_X4_goes
set_option maxRecDepth 20000 in
theorem ggX4_round_X4_lays : GoodIn wsX4_round wsX4_lays := goodIn_r _ [23, 2, 24, 3, 25, 4, 26, 27, 28, 13, 29, 30, 31, 5, 10, 7, 32, 33, 34, 35, 36, 37, 38, 39, 40, 41, 42, 43, 44, 45, 46, 47, 6, 48, 49, 50, 51, 52, 53, 54, 55, 56, 57, 58, 59, 60, 61, 62, 63, 64, 65, 66, 67, 68, 69, 70, 71, 72, 73, 74, 75, 76, 77, 86, 87, 88, 89, 90, 91, 92, 93, 94, 95, 96, 97, 98, 99, 100, 101, 102, 103, 104, 105, 106, 107] (by decide +kernel) (by decide +kernel)
set_option maxRecDepth 20000 in
theorem gX4_round_X4_lays : GoodIn wsX4_round (wsV RX4 136 RX4 yX4_lays wsX4_lays) := goodIn_app (goodIn_of _ (by decide +kernel)) ggX4_round_X4_lays
set_option maxRecDepth 20000 in
theorem ggX4_round_X4_countOf : GoodIn wsX4_round wsX4_countOf := goodIn_r _ [81, 2, 25, 86, 87, 88, 89, 90, 91, 92, 93, 94, 95, 96, 97, 98, 99, 100, 101, 102, 103, 104, 105, 106, 107] (by decide +kernel) (by decide +kernel)
set_option maxRecDepth 20000 in
theorem gX4_round_X4_countOf : GoodIn wsX4_round (wsV RX4 104 RX4 yX4_countOf wsX4_countOf) := goodIn_app (goodIn_of _ (by decide +kernel)) ggX4_round_X4_countOf
set_option maxRecDepth 20000 in
theorem ggX4_round_X4_isOpen : GoodIn wsX4_round wsX4_isOpen := goodIn_r _ [85, 5, 10, 86, 87, 88, 89, 90, 91, 92, 93, 94, 95, 96, 97, 98, 99, 100, 101, 102, 103, 104, 105, 106, 107] (by decide +kernel) (by decide +kernel)
set_option maxRecDepth 20000 in
theorem gX4_round_X4_isOpen : GoodIn wsX4_round (wsV RX4 139 RX4 yX4_isOpen wsX4_isOpen) := goodIn_app (goodIn_of _ (by decide +kernel)) ggX4_round_X4_isOpen
set_option maxRecDepth 20000 in
theorem ggX4_round_X4_left : GoodIn wsX4_round wsX4_left := goodIn_r _ [29, 30, 31, 5, 10, 7, 32, 33, 34, 13, 35, 36, 37, 86, 87, 88, 89, 90, 91, 92, 93, 94, 95, 96, 97, 98, 99, 100, 101, 102, 103, 104, 105, 106, 107] (by decide +kernel) (by decide +kernel)
set_option maxRecDepth 20000 in
theorem gX4_round_X4_left : GoodIn wsX4_round (wsV RX4 91 RX4 yX4_left wsX4_left) := goodIn_app (goodIn_of _ (by decide +kernel)) ggX4_round_X4_left
theorem dX4_round_0 : decode cX4_round 0 = .ok (.aload_n 0, 1) := by decide +kernel
theorem dX4_round_1 : decode cX4_round 1 = .ok (.iload_n 1, 1) := by decide +kernel
theorem dX4_round_2 : decode cX4_round 2 = .ok (.iconst 0, 1) := by decide +kernel
theorem dX4_round_3 : decode cX4_round 3 = .ok (.ldc 135, 2) := by decide +kernel
theorem dX4_round_5 : decode cX4_round 5 = .ok (.invokestatic 64, 3) := by decide +kernel
theorem dX4_round_8 : decode cX4_round 8 = .ok (.ifCond .eq 7, 3) := by decide +kernel
theorem dX4_round_11 : decode cX4_round 11 = .ok (.iconst 0, 1) := by decide +kernel
theorem dX4_round_12 : decode cX4_round 12 = .ok (.goto 4, 3) := by decide +kernel
theorem dX4_round_15 : decode cX4_round 15 = .ok (.iconst 1, 1) := by decide +kernel
theorem dX4_round_16 : decode cX4_round 16 = .ok (.invokevirtual 87, 3) := by decide +kernel
theorem dX4_round_19 : decode cX4_round 19 = .ok (.ifCond .ne 5, 3) := by decide +kernel
theorem dX4_round_22 : decode cX4_round 22 = .ok (.iconst 0, 1) := by decide +kernel
theorem dX4_round_23 : decode cX4_round 23 = .ok (.ireturn, 1) := by decide +kernel
theorem dX4_round_24 : decode cX4_round 24 = .ok (.aload_n 0, 1) := by decide +kernel
theorem dX4_round_25 : decode cX4_round 25 = .ok (.iload_n 1, 1) := by decide +kernel
theorem dX4_round_26 : decode cX4_round 26 = .ok (.invokevirtual 136, 3) := by decide +kernel
theorem dX4_round_29 : decode cX4_round 29 = .ok (.iconst 0, 1) := by decide +kernel
theorem dX4_round_30 : decode cX4_round 30 = .ok (.istore_n 2, 1) := by decide +kernel
theorem dX4_round_31 : decode cX4_round 31 = .ok (.iconst 0, 1) := by decide +kernel
theorem dX4_round_32 : decode cX4_round 32 = .ok (.istore_n 3, 1) := by decide +kernel
theorem dX4_round_33 : decode cX4_round 33 = .ok (.iload_n 3, 1) := by decide +kernel
theorem dX4_round_34 : decode cX4_round 34 = .ok (.aload_n 0, 1) := by decide +kernel
theorem dX4_round_35 : decode cX4_round 35 = .ok (.getfield 61, 3) := by decide +kernel
theorem dX4_round_38 : decode cX4_round 38 = .ok (.if_icmp .ge 35, 3) := by decide +kernel
theorem dX4_round_41 : decode cX4_round 41 = .ok (.iload_n 2, 1) := by decide +kernel
theorem dX4_round_42 : decode cX4_round 42 = .ok (.aload_n 0, 1) := by decide +kernel
theorem dX4_round_43 : decode cX4_round 43 = .ok (.getfield 44, 3) := by decide +kernel
theorem dX4_round_46 : decode cX4_round 46 = .ok (.iload_n 3, 1) := by decide +kernel
theorem dX4_round_47 : decode cX4_round 47 = .ok (.baload, 1) := by decide +kernel
theorem dX4_round_48 : decode cX4_round 48 = .ok (.ifCond .eq 16, 3) := by decide +kernel
theorem dX4_round_51 : decode cX4_round 51 = .ok (.aload_n 0, 1) := by decide +kernel
theorem dX4_round_52 : decode cX4_round 52 = .ok (.getfield 50, 3) := by decide +kernel
theorem dX4_round_55 : decode cX4_round 55 = .ok (.iload_n 3, 1) := by decide +kernel
theorem dX4_round_56 : decode cX4_round 56 = .ok (.iaload, 1) := by decide +kernel
theorem dX4_round_57 : decode cX4_round 57 = .ok (.ifCond .le 7, 3) := by decide +kernel
theorem dX4_round_60 : decode cX4_round 60 = .ok (.iconst 1, 1) := by decide +kernel
theorem dX4_round_61 : decode cX4_round 61 = .ok (.goto 4, 3) := by decide +kernel
theorem dX4_round_64 : decode cX4_round 64 = .ok (.iconst 0, 1) := by decide +kernel
theorem dX4_round_65 : decode cX4_round 65 = .ok (.iadd, 1) := by decide +kernel
theorem dX4_round_66 : decode cX4_round 66 = .ok (.istore_n 2, 1) := by decide +kernel
theorem dX4_round_67 : decode cX4_round 67 = .ok (.iinc 3 1, 3) := by decide +kernel
theorem dX4_round_70 : decode cX4_round 70 = .ok (.goto (-37), 3) := by decide +kernel
theorem dX4_round_73 : decode cX4_round 73 = .ok (.aload_n 0, 1) := by decide +kernel
theorem dX4_round_74 : decode cX4_round 74 = .ok (.iconst 1, 1) := by decide +kernel
theorem dX4_round_75 : decode cX4_round 75 = .ok (.invokevirtual 104, 3) := by decide +kernel
theorem dX4_round_78 : decode cX4_round 78 = .ok (.aload_n 0, 1) := by decide +kernel
theorem dX4_round_79 : decode cX4_round 79 = .ok (.iconst 3, 1) := by decide +kernel
theorem dX4_round_80 : decode cX4_round 80 = .ok (.invokevirtual 104, 3) := by decide +kernel
theorem dX4_round_83 : decode cX4_round 83 = .ok (.iadd, 1) := by decide +kernel
theorem dX4_round_84 : decode cX4_round 84 = .ok (.ifCond .gt 18, 3) := by decide +kernel
theorem dX4_round_87 : decode cX4_round 87 = .ok (.aload_n 0, 1) := by decide +kernel
theorem dX4_round_88 : decode cX4_round 88 = .ok (.invokevirtual 139, 3) := by decide +kernel
theorem dX4_round_91 : decode cX4_round 91 = .ok (.ifCond .ne 11, 3) := by decide +kernel
theorem dX4_round_94 : decode cX4_round 94 = .ok (.aload_n 0, 1) := by decide +kernel
theorem dX4_round_95 : decode cX4_round 95 = .ok (.invokevirtual 91, 3) := by decide +kernel
theorem dX4_round_98 : decode cX4_round 98 = .ok (.iconst 1, 1) := by decide +kernel
theorem dX4_round_99 : decode cX4_round 99 = .ok (.if_icmp .ge 7, 3) := by decide +kernel
theorem dX4_round_102 : decode cX4_round 102 = .ok (.iconst 1, 1) := by decide +kernel
theorem dX4_round_103 : decode cX4_round 103 = .ok (.goto 4, 3) := by decide +kernel
theorem dX4_round_106 : decode cX4_round 106 = .ok (.iconst 0, 1) := by decide +kernel
theorem dX4_round_107 : decode cX4_round 107 = .ok (.istore_n 3, 1) := by decide +kernel
theorem dX4_round_108 : decode cX4_round 108 = .ok (.aload_n 0, 1) := by decide +kernel
theorem dX4_round_109 : decode cX4_round 109 = .ok (.iload_n 3, 1) := by decide +kernel
theorem dX4_round_110 : decode cX4_round 110 = .ok (.ifCond .ne 14, 3) := by decide +kernel
theorem dX4_round_113 : decode cX4_round 113 = .ok (.aload_n 0, 1) := by decide +kernel
theorem dX4_round_114 : decode cX4_round 114 = .ok (.getfield 68, 3) := by decide +kernel
theorem dX4_round_117 : decode cX4_round 117 = .ok (.iload_n 2, 1) := by decide +kernel
theorem dX4_round_118 : decode cX4_round 118 = .ok (.iadd, 1) := by decide +kernel
theorem dX4_round_119 : decode cX4_round 119 = .ok (.bipush 100, 2) := by decide +kernel
theorem dX4_round_121 : decode cX4_round 121 = .ok (.if_icmp .le 7, 3) := by decide +kernel
theorem dX4_round_124 : decode cX4_round 124 = .ok (.iconst 2, 1) := by decide +kernel
theorem dX4_round_125 : decode cX4_round 125 = .ok (.goto 4, 3) := by decide +kernel
theorem dX4_round_128 : decode cX4_round 128 = .ok (.iconst 0, 1) := by decide +kernel
theorem dX4_round_129 : decode cX4_round 129 = .ok (.invokevirtual 87, 3) := by decide +kernel
theorem dX4_round_132 : decode cX4_round 132 = .ok (.ifCond .ne 5, 3) := by decide +kernel
theorem dX4_round_135 : decode cX4_round 135 = .ok (.iconst 0, 1) := by decide +kernel
theorem dX4_round_136 : decode cX4_round 136 = .ok (.ireturn, 1) := by decide +kernel
theorem dX4_round_137 : decode cX4_round 137 = .ok (.iconst 0, 1) := by decide +kernel
theorem dX4_round_138 : decode cX4_round 138 = .ok (.istore 4, 2) := by decide +kernel
theorem dX4_round_140 : decode cX4_round 140 = .ok (.iload 4, 2) := by decide +kernel
theorem dX4_round_142 : decode cX4_round 142 = .ok (.aload_n 0, 1) := by decide +kernel
theorem dX4_round_143 : decode cX4_round 143 = .ok (.getfield 61, 3) := by decide +kernel
theorem dX4_round_146 : decode cX4_round 146 = .ok (.if_icmp .ge 89, 3) := by decide +kernel
theorem dX4_round_149 : decode cX4_round 149 = .ok (.aload_n 0, 1) := by decide +kernel
theorem dX4_round_150 : decode cX4_round 150 = .ok (.getfield 44, 3) := by decide +kernel
theorem dX4_round_153 : decode cX4_round 153 = .ok (.iload 4, 2) := by decide +kernel
theorem dX4_round_155 : decode cX4_round 155 = .ok (.baload, 1) := by decide +kernel
theorem dX4_round_156 : decode cX4_round 156 = .ok (.ifCond .eq 73, 3) := by decide +kernel
theorem dX4_round_159 : decode cX4_round 159 = .ok (.aload_n 0, 1) := by decide +kernel
theorem dX4_round_160 : decode cX4_round 160 = .ok (.getfield 50, 3) := by decide +kernel
theorem dX4_round_163 : decode cX4_round 163 = .ok (.iload 4, 2) := by decide +kernel
theorem dX4_round_165 : decode cX4_round 165 = .ok (.iaload, 1) := by decide +kernel
theorem dX4_round_166 : decode cX4_round 166 = .ok (.ifCond .le 63, 3) := by decide +kernel
theorem dX4_round_169 : decode cX4_round 169 = .ok (.aload_n 0, 1) := by decide +kernel
theorem dX4_round_170 : decode cX4_round 170 = .ok (.getfield 32, 3) := by decide +kernel
theorem dX4_round_173 : decode cX4_round 173 = .ok (.aload_n 0, 1) := by decide +kernel
theorem dX4_round_174 : decode cX4_round 174 = .ok (.getfield 68, 3) := by decide +kernel
theorem dX4_round_177 : decode cX4_round 177 = .ok (.iload 4, 2) := by decide +kernel
theorem dX4_round_179 : decode cX4_round 179 = .ok (.iastore, 1) := by decide +kernel
theorem dX4_round_180 : decode cX4_round 180 = .ok (.aload_n 0, 1) := by decide +kernel
theorem dX4_round_181 : decode cX4_round 181 = .ok (.getfield 35, 3) := by decide +kernel
theorem dX4_round_184 : decode cX4_round 184 = .ok (.aload_n 0, 1) := by decide +kernel
theorem dX4_round_185 : decode cX4_round 185 = .ok (.getfield 68, 3) := by decide +kernel
theorem dX4_round_188 : decode cX4_round 188 = .ok (.aload_n 0, 1) := by decide +kernel
theorem dX4_round_189 : decode cX4_round 189 = .ok (.getfield 50, 3) := by decide +kernel
theorem dX4_round_192 : decode cX4_round 192 = .ok (.iload 4, 2) := by decide +kernel
theorem dX4_round_194 : decode cX4_round 194 = .ok (.iaload, 1) := by decide +kernel
theorem dX4_round_195 : decode cX4_round 195 = .ok (.iastore, 1) := by decide +kernel
theorem dX4_round_196 : decode cX4_round 196 = .ok (.aload_n 0, 1) := by decide +kernel
theorem dX4_round_197 : decode cX4_round 197 = .ok (.getfield 38, 3) := by decide +kernel
theorem dX4_round_200 : decode cX4_round 200 = .ok (.aload_n 0, 1) := by decide +kernel
theorem dX4_round_201 : decode cX4_round 201 = .ok (.getfield 68, 3) := by decide +kernel
theorem dX4_round_204 : decode cX4_round 204 = .ok (.aload_n 0, 1) := by decide +kernel
theorem dX4_round_205 : decode cX4_round 205 = .ok (.getfield 94, 3) := by decide +kernel
theorem dX4_round_208 : decode cX4_round 208 = .ok (.iastore, 1) := by decide +kernel
theorem dX4_round_209 : decode cX4_round 209 = .ok (.aload_n 0, 1) := by decide +kernel
theorem dX4_round_210 : decode cX4_round 210 = .ok (.getfield 41, 3) := by decide +kernel
theorem dX4_round_213 : decode cX4_round 213 = .ok (.aload_n 0, 1) := by decide +kernel
theorem dX4_round_214 : decode cX4_round 214 = .ok (.getfield 68, 3) := by decide +kernel
theorem dX4_round_217 : decode cX4_round 217 = .ok (.iconst 0, 1) := by decide +kernel
theorem dX4_round_218 : decode cX4_round 218 = .ok (.iastore, 1) := by decide +kernel
theorem dX4_round_219 : decode cX4_round 219 = .ok (.aload_n 0, 1) := by decide +kernel
theorem dX4_round_220 : decode cX4_round 220 = .ok (.dup, 1) := by decide +kernel
theorem dX4_round_221 : decode cX4_round 221 = .ok (.getfield 68, 3) := by decide +kernel
theorem dX4_round_224 : decode cX4_round 224 = .ok (.iconst 1, 1) := by decide +kernel
theorem dX4_round_225 : decode cX4_round 225 = .ok (.iadd, 1) := by decide +kernel
theorem dX4_round_226 : decode cX4_round 226 = .ok (.putfield 68, 3) := by decide +kernel
theorem dX4_round_229 : decode cX4_round 229 = .ok (.iinc 4 1, 3) := by decide +kernel
theorem dX4_round_232 : decode cX4_round 232 = .ok (.goto (-92), 3) := by decide +kernel
theorem dX4_round_235 : decode cX4_round 235 = .ok (.iload_n 2, 1) := by decide +kernel
theorem dX4_round_236 : decode cX4_round 236 = .ok (.ireturn, 1) := by decide +kernel
set_option maxRecDepth 20000 in
theorem ggX4_cash_X4_isPayment : GoodIn wsX4_cash wsX4_isPayment := goodIn_r _ [7, 8, 9, 10, 6, 11, 17, 18, 19, 20, 21, 22, 23, 24, 25, 26, 27, 28, 29, 30, 31, 32, 33, 34, 35, 36, 37, 38] (by decide +kernel) (by decide +kernel)
set_option maxRecDepth 20000 in
theorem gX4_cash_X4_isPayment : GoodIn wsX4_cash (wsV RX4 143 RX4 yX4_isPayment wsX4_isPayment) := goodIn_app (goodIn_of _ (by decide +kernel)) ggX4_cash_X4_isPayment
set_option maxRecDepth 20000 in
theorem ggX4_cash_X4_goes : GoodIn wsX4_cash wsX4_goes := goodIn_r _ [15, 16, 17, 18, 19, 20, 21, 22, 23, 24, 25, 26, 27, 28, 29, 30, 31, 32, 33, 34, 35, 36, 37, 38] (by decide +kernel) (by decide +kernel)
set_option maxRecDepth 20000 in
theorem gX4_cash_X4_goes : GoodIn wsX4_cash (wsV RX4 87 RX4 yX4_goes wsX4_goes) := goodIn_app (goodIn_of _ (by decide +kernel)) ggX4_cash_X4_goes
theorem dX4_cash_0 : decode cX4_cash 0 = .ok (.aload_n 0, 1) := by decide +kernel
theorem dX4_cash_1 : decode cX4_cash 1 = .ok (.aload_n 0, 1) := by decide +kernel
theorem dX4_cash_2 : decode cX4_cash 2 = .ok (.iload_n 1, 1) := by decide +kernel
theorem dX4_cash_3 : decode cX4_cash 3 = .ok (.invokevirtual 143, 3) := by decide +kernel
theorem dX4_cash_6 : decode cX4_cash 6 = .ok (.ifCond .ne 7, 3) := by decide +kernel
theorem dX4_cash_9 : decode cX4_cash 9 = .ok (.iconst 1, 1) := by decide +kernel
theorem dX4_cash_10 : decode cX4_cash 10 = .ok (.goto 17, 3) := by decide +kernel
theorem dX4_cash_13 : decode cX4_cash 13 = .ok (.aload_n 0, 1) := by decide +kernel
theorem dX4_cash_14 : decode cX4_cash 14 = .ok (.getfield 41, 3) := by decide +kernel
theorem dX4_cash_17 : decode cX4_cash 17 = .ok (.iload_n 1, 1) := by decide +kernel
theorem dX4_cash_18 : decode cX4_cash 18 = .ok (.iaload, 1) := by decide +kernel
theorem dX4_cash_19 : decode cX4_cash 19 = .ok (.ifCond .ne 7, 3) := by decide +kernel
theorem dX4_cash_22 : decode cX4_cash 22 = .ok (.iconst 0, 1) := by decide +kernel
theorem dX4_cash_23 : decode cX4_cash 23 = .ok (.goto 4, 3) := by decide +kernel
theorem dX4_cash_26 : decode cX4_cash 26 = .ok (.iconst 2, 1) := by decide +kernel
theorem dX4_cash_27 : decode cX4_cash 27 = .ok (.invokevirtual 87, 3) := by decide +kernel
theorem dX4_cash_30 : decode cX4_cash 30 = .ok (.ifCond .ne 5, 3) := by decide +kernel
theorem dX4_cash_33 : decode cX4_cash 33 = .ok (.iconst 0, 1) := by decide +kernel
theorem dX4_cash_34 : decode cX4_cash 34 = .ok (.ireturn, 1) := by decide +kernel
theorem dX4_cash_35 : decode cX4_cash 35 = .ok (.aload_n 0, 1) := by decide +kernel
theorem dX4_cash_36 : decode cX4_cash 36 = .ok (.getfield 41, 3) := by decide +kernel
theorem dX4_cash_39 : decode cX4_cash 39 = .ok (.iload_n 1, 1) := by decide +kernel
theorem dX4_cash_40 : decode cX4_cash 40 = .ok (.iconst 1, 1) := by decide +kernel
theorem dX4_cash_41 : decode cX4_cash 41 = .ok (.iastore, 1) := by decide +kernel
theorem dX4_cash_42 : decode cX4_cash 42 = .ok (.aload_n 0, 1) := by decide +kernel
theorem dX4_cash_43 : decode cX4_cash 43 = .ok (.getfield 35, 3) := by decide +kernel
theorem dX4_cash_46 : decode cX4_cash 46 = .ok (.iload_n 1, 1) := by decide +kernel
theorem dX4_cash_47 : decode cX4_cash 47 = .ok (.iaload, 1) := by decide +kernel
theorem dX4_cash_48 : decode cX4_cash 48 = .ok (.ireturn, 1) := by decide +kernel
theorem dX4_today_0 : decode cX4_today 0 = .ok (.aload_n 0, 1) := by decide +kernel
theorem dX4_today_1 : decode cX4_today 1 = .ok (.iconst 0, 1) := by decide +kernel
theorem dX4_today_2 : decode cX4_today 2 = .ok (.putfield 57, 3) := by decide +kernel
theorem dX4_today_5 : decode cX4_today 5 = .ok (.aload_n 0, 1) := by decide +kernel
theorem dX4_today_6 : decode cX4_today 6 = .ok (.getfield 94, 3) := by decide +kernel
theorem dX4_today_9 : decode cX4_today 9 = .ok (.ireturn, 1) := by decide +kernel
theorem dX4_claims_0 : decode cX4_claims 0 = .ok (.aload_n 0, 1) := by decide +kernel
theorem dX4_claims_1 : decode cX4_claims 1 = .ok (.iconst 0, 1) := by decide +kernel
theorem dX4_claims_2 : decode cX4_claims 2 = .ok (.putfield 57, 3) := by decide +kernel
theorem dX4_claims_5 : decode cX4_claims 5 = .ok (.aload_n 0, 1) := by decide +kernel
theorem dX4_claims_6 : decode cX4_claims 6 = .ok (.getfield 61, 3) := by decide +kernel
theorem dX4_claims_9 : decode cX4_claims 9 = .ok (.ireturn, 1) := by decide +kernel
set_option maxRecDepth 20000 in
theorem ggX4_claimOf_X4_isIn : GoodIn wsX4_claimOf wsX4_isIn := goodIn_r _ [4] (by decide +kernel) (by decide +kernel)
set_option maxRecDepth 20000 in
theorem gX4_claimOf_X4_isIn : GoodIn wsX4_claimOf (va_wsS RX4 64 yX4_isIn wsX4_isIn) := goodIn_app (goodIn_of _ (by decide +kernel)) ggX4_claimOf_X4_isIn
set_option maxRecDepth 20000 in
theorem ggX4_claimOf_X4_goes : GoodIn wsX4_claimOf wsX4_goes := goodIn_r _ [8, 9, 16, 17, 18, 19, 20, 21, 22, 23, 24, 25, 26, 27, 28, 29, 30, 31, 32, 33, 34, 35, 36, 37] (by decide +kernel) (by decide +kernel)
set_option maxRecDepth 20000 in
theorem gX4_claimOf_X4_goes : GoodIn wsX4_claimOf (wsV RX4 87 RX4 yX4_goes wsX4_goes) := goodIn_app (goodIn_of _ (by decide +kernel)) ggX4_claimOf_X4_goes
set_option maxRecDepth 20000 in
theorem ggX4_claimOf_X4_ofPerson : GoodIn wsX4_claimOf wsX4_ofPerson := goodIn_r _ [13, 14, 15, 16, 17, 18, 19, 20, 21, 22, 23, 24, 25, 26, 27, 28, 29, 30, 31, 32, 33, 34, 35, 36, 37] (by decide +kernel) (by decide +kernel)
set_option maxRecDepth 20000 in
theorem gX4_claimOf_X4_ofPerson : GoodIn wsX4_claimOf (wsV RX4 97 RX4 yX4_ofPerson wsX4_ofPerson) := goodIn_app (goodIn_of _ (by decide +kernel)) ggX4_claimOf_X4_ofPerson
theorem dX4_claimOf_0 : decode cX4_claimOf 0 = .ok (.aload_n 0, 1) := by decide +kernel
theorem dX4_claimOf_1 : decode cX4_claimOf 1 = .ok (.iload_n 1, 1) := by decide +kernel
theorem dX4_claimOf_2 : decode cX4_claimOf 2 = .ok (.iconst 0, 1) := by decide +kernel
theorem dX4_claimOf_3 : decode cX4_claimOf 3 = .ok (.bipush 29, 2) := by decide +kernel
theorem dX4_claimOf_5 : decode cX4_claimOf 5 = .ok (.invokestatic 64, 3) := by decide +kernel
theorem dX4_claimOf_8 : decode cX4_claimOf 8 = .ok (.ifCond .eq 7, 3) := by decide +kernel
theorem dX4_claimOf_11 : decode cX4_claimOf 11 = .ok (.iconst 0, 1) := by decide +kernel
theorem dX4_claimOf_12 : decode cX4_claimOf 12 = .ok (.goto 4, 3) := by decide +kernel
theorem dX4_claimOf_15 : decode cX4_claimOf 15 = .ok (.iconst 1, 1) := by decide +kernel
theorem dX4_claimOf_16 : decode cX4_claimOf 16 = .ok (.invokevirtual 87, 3) := by decide +kernel
theorem dX4_claimOf_19 : decode cX4_claimOf 19 = .ok (.ifCond .eq 11, 3) := by decide +kernel
theorem dX4_claimOf_22 : decode cX4_claimOf 22 = .ok (.aload_n 0, 1) := by decide +kernel
theorem dX4_claimOf_23 : decode cX4_claimOf 23 = .ok (.iload_n 1, 1) := by decide +kernel
theorem dX4_claimOf_24 : decode cX4_claimOf 24 = .ok (.invokevirtual 97, 3) := by decide +kernel
theorem dX4_claimOf_27 : decode cX4_claimOf 27 = .ok (.goto 4, 3) := by decide +kernel
theorem dX4_claimOf_30 : decode cX4_claimOf 30 = .ok (.iconst 0, 1) := by decide +kernel
theorem dX4_claimOf_31 : decode cX4_claimOf 31 = .ok (.ireturn, 1) := by decide +kernel
set_option maxRecDepth 20000 in
theorem ggX4_asks_X4_isClaim : GoodIn wsX4_asks wsX4_isClaim := goodIn_r _ [5, 6, 7, 8, 4, 9, 15, 16, 17, 18, 19, 20, 21, 22, 23, 24, 25, 26, 27, 28, 29, 30, 31, 32, 33, 34, 35, 36] (by decide +kernel) (by decide +kernel)
set_option maxRecDepth 20000 in
theorem gX4_asks_X4_isClaim : GoodIn wsX4_asks (wsV RX4 101 RX4 yX4_isClaim wsX4_isClaim) := goodIn_app (goodIn_of _ (by decide +kernel)) ggX4_asks_X4_isClaim
set_option maxRecDepth 20000 in
theorem ggX4_asks_X4_goes : GoodIn wsX4_asks wsX4_goes := goodIn_r _ [13, 14, 15, 16, 17, 18, 19, 20, 21, 22, 23, 24, 25, 26, 27, 28, 29, 30, 31, 32, 33, 34, 35, 36] (by decide +kernel) (by decide +kernel)
set_option maxRecDepth 20000 in
theorem gX4_asks_X4_goes : GoodIn wsX4_asks (wsV RX4 87 RX4 yX4_goes wsX4_goes) := goodIn_app (goodIn_of _ (by decide +kernel)) ggX4_asks_X4_goes
theorem dX4_asks_0 : decode cX4_asks 0 = .ok (.aload_n 0, 1) := by decide +kernel
theorem dX4_asks_1 : decode cX4_asks 1 = .ok (.aload_n 0, 1) := by decide +kernel
theorem dX4_asks_2 : decode cX4_asks 2 = .ok (.iload_n 1, 1) := by decide +kernel
theorem dX4_asks_3 : decode cX4_asks 3 = .ok (.invokevirtual 101, 3) := by decide +kernel
theorem dX4_asks_6 : decode cX4_asks 6 = .ok (.ifCond .eq 7, 3) := by decide +kernel
theorem dX4_asks_9 : decode cX4_asks 9 = .ok (.iconst 0, 1) := by decide +kernel
theorem dX4_asks_10 : decode cX4_asks 10 = .ok (.goto 4, 3) := by decide +kernel
theorem dX4_asks_13 : decode cX4_asks 13 = .ok (.iconst 1, 1) := by decide +kernel
theorem dX4_asks_14 : decode cX4_asks 14 = .ok (.invokevirtual 87, 3) := by decide +kernel
theorem dX4_asks_17 : decode cX4_asks 17 = .ok (.ireturn, 1) := by decide +kernel
set_option maxRecDepth 20000 in
theorem ggX4_stateOf_X4_asks : GoodIn wsX4_stateOf wsX4_asks := goodIn_r _ [6, 7, 8, 9, 5, 10, 11, 12, 13, 14, 15, 16, 17, 18, 19, 20, 21, 22, 23, 24, 25, 26, 27, 28, 29, 30, 31, 32, 33, 34, 35, 36, 37, 38, 39, 40, 41] (by decide +kernel) (by decide +kernel)
set_option maxRecDepth 20000 in
theorem gX4_stateOf_X4_asks : GoodIn wsX4_stateOf (wsV RX4 146 RX4 yX4_asks wsX4_asks) := goodIn_app (goodIn_of _ (by decide +kernel)) ggX4_stateOf_X4_asks
theorem dX4_stateOf_0 : decode cX4_stateOf 0 = .ok (.aload_n 0, 1) := by decide +kernel
theorem dX4_stateOf_1 : decode cX4_stateOf 1 = .ok (.iload_n 1, 1) := by decide +kernel
theorem dX4_stateOf_2 : decode cX4_stateOf 2 = .ok (.invokevirtual 146, 3) := by decide +kernel
theorem dX4_stateOf_5 : decode cX4_stateOf 5 = .ok (.ifCond .eq 12, 3) := by decide +kernel
theorem dX4_stateOf_8 : decode cX4_stateOf 8 = .ok (.aload_n 0, 1) := by decide +kernel
theorem dX4_stateOf_9 : decode cX4_stateOf 9 = .ok (.getfield 22, 3) := by decide +kernel
theorem dX4_stateOf_12 : decode cX4_stateOf 12 = .ok (.iload_n 1, 1) := by decide +kernel
theorem dX4_stateOf_13 : decode cX4_stateOf 13 = .ok (.iaload, 1) := by decide +kernel
theorem dX4_stateOf_14 : decode cX4_stateOf 14 = .ok (.goto 4, 3) := by decide +kernel
theorem dX4_stateOf_17 : decode cX4_stateOf 17 = .ok (.iconst 0, 1) := by decide +kernel
theorem dX4_stateOf_18 : decode cX4_stateOf 18 = .ok (.ireturn, 1) := by decide +kernel
set_option maxRecDepth 20000 in
theorem ggX4_gradeOf_X4_asks : GoodIn wsX4_gradeOf wsX4_asks := goodIn_r _ [6, 7, 8, 9, 5, 10, 11, 12, 13, 14, 15, 16, 17, 18, 19, 20, 21, 22, 23, 24, 25, 26, 27, 28, 29, 30, 31, 32, 33, 34, 35, 36, 37, 38, 39, 40, 41] (by decide +kernel) (by decide +kernel)
set_option maxRecDepth 20000 in
theorem gX4_gradeOf_X4_asks : GoodIn wsX4_gradeOf (wsV RX4 146 RX4 yX4_asks wsX4_asks) := goodIn_app (goodIn_of _ (by decide +kernel)) ggX4_gradeOf_X4_asks
theorem dX4_gradeOf_0 : decode cX4_gradeOf 0 = .ok (.aload_n 0, 1) := by decide +kernel
theorem dX4_gradeOf_1 : decode cX4_gradeOf 1 = .ok (.iload_n 1, 1) := by decide +kernel
theorem dX4_gradeOf_2 : decode cX4_gradeOf 2 = .ok (.invokevirtual 146, 3) := by decide +kernel
theorem dX4_gradeOf_5 : decode cX4_gradeOf 5 = .ok (.ifCond .eq 12, 3) := by decide +kernel
theorem dX4_gradeOf_8 : decode cX4_gradeOf 8 = .ok (.aload_n 0, 1) := by decide +kernel
theorem dX4_gradeOf_9 : decode cX4_gradeOf 9 = .ok (.getfield 19, 3) := by decide +kernel
theorem dX4_gradeOf_12 : decode cX4_gradeOf 12 = .ok (.iload_n 1, 1) := by decide +kernel
theorem dX4_gradeOf_13 : decode cX4_gradeOf 13 = .ok (.iaload, 1) := by decide +kernel
theorem dX4_gradeOf_14 : decode cX4_gradeOf 14 = .ok (.goto 4, 3) := by decide +kernel
theorem dX4_gradeOf_17 : decode cX4_gradeOf 17 = .ok (.iconst 0, 1) := by decide +kernel
theorem dX4_gradeOf_18 : decode cX4_gradeOf 18 = .ok (.ireturn, 1) := by decide +kernel
set_option maxRecDepth 20000 in
theorem ggX4_room_X4_asks : GoodIn wsX4_room wsX4_asks := goodIn_r _ [5, 6, 7, 8, 4, 9, 10, 11, 12, 13, 14, 15, 16, 17, 18, 33, 34, 35, 36, 37, 38, 39, 40, 41, 42, 43, 44, 45, 46, 47, 48, 49, 50, 51, 52, 53, 54] (by decide +kernel) (by decide +kernel)
set_option maxRecDepth 20000 in
theorem gX4_room_X4_asks : GoodIn wsX4_room (wsV RX4 146 RX4 yX4_asks wsX4_asks) := goodIn_app (goodIn_of _ (by decide +kernel)) ggX4_room_X4_asks
set_option maxRecDepth 20000 in
theorem ggX4_room_X4_roomOf : GoodIn wsX4_room wsX4_roomOf := goodIn_r _ [22, 23, 24, 25, 26, 27, 4, 28, 29, 30, 31, 32, 33, 34, 35, 36, 37, 38, 39, 40, 41, 42, 43, 44, 45, 46, 47, 48, 49, 50, 51, 52, 53, 54] (by decide +kernel) (by decide +kernel)
set_option maxRecDepth 20000 in
theorem gX4_room_X4_roomOf : GoodIn wsX4_room (wsV RX4 124 RX4 yX4_roomOf wsX4_roomOf) := goodIn_app (goodIn_of _ (by decide +kernel)) ggX4_room_X4_roomOf
theorem dX4_room_0 : decode cX4_room 0 = .ok (.aload_n 0, 1) := by decide +kernel
theorem dX4_room_1 : decode cX4_room 1 = .ok (.iload_n 1, 1) := by decide +kernel
theorem dX4_room_2 : decode cX4_room 2 = .ok (.invokevirtual 146, 3) := by decide +kernel
theorem dX4_room_5 : decode cX4_room 5 = .ok (.ifCond .eq 11, 3) := by decide +kernel
theorem dX4_room_8 : decode cX4_room 8 = .ok (.aload_n 0, 1) := by decide +kernel
theorem dX4_room_9 : decode cX4_room 9 = .ok (.iload_n 1, 1) := by decide +kernel
theorem dX4_room_10 : decode cX4_room 10 = .ok (.invokevirtual 124, 3) := by decide +kernel
theorem dX4_room_13 : decode cX4_room 13 = .ok (.goto 4, 3) := by decide +kernel
theorem dX4_room_16 : decode cX4_room 16 = .ok (.iconst 0, 1) := by decide +kernel
theorem dX4_room_17 : decode cX4_room 17 = .ok (.ireturn, 1) := by decide +kernel
set_option maxRecDepth 20000 in
theorem ggX4_paidTo_X4_asks : GoodIn wsX4_paidTo wsX4_asks := goodIn_r _ [5, 6, 7, 8, 4, 9, 10, 11, 12, 13, 14, 15, 16, 17, 18, 27, 28, 29, 30, 31, 32, 33, 34, 35, 36, 37, 38, 39, 40, 41, 42, 43, 44, 45, 46, 47, 48] (by decide +kernel) (by decide +kernel)
set_option maxRecDepth 20000 in
theorem gX4_paidTo_X4_asks : GoodIn wsX4_paidTo (wsV RX4 146 RX4 yX4_asks wsX4_asks) := goodIn_app (goodIn_of _ (by decide +kernel)) ggX4_paidTo_X4_asks
set_option maxRecDepth 20000 in
theorem ggX4_paidTo_X4_paid : GoodIn wsX4_paidTo wsX4_paid := goodIn_r _ [22, 23, 24, 25, 26, 27, 28, 29, 30, 31, 32, 33, 34, 35, 36, 37, 38, 39, 40, 41, 42, 43, 44, 45, 46, 47, 48] (by decide +kernel) (by decide +kernel)
set_option maxRecDepth 20000 in
theorem gX4_paidTo_X4_paid : GoodIn wsX4_paidTo (wsV RX4 107 RX4 yX4_paid wsX4_paid) := goodIn_app (goodIn_of _ (by decide +kernel)) ggX4_paidTo_X4_paid
theorem dX4_paidTo_0 : decode cX4_paidTo 0 = .ok (.aload_n 0, 1) := by decide +kernel
theorem dX4_paidTo_1 : decode cX4_paidTo 1 = .ok (.iload_n 1, 1) := by decide +kernel
theorem dX4_paidTo_2 : decode cX4_paidTo 2 = .ok (.invokevirtual 146, 3) := by decide +kernel
theorem dX4_paidTo_5 : decode cX4_paidTo 5 = .ok (.ifCond .eq 11, 3) := by decide +kernel
theorem dX4_paidTo_8 : decode cX4_paidTo 8 = .ok (.aload_n 0, 1) := by decide +kernel
theorem dX4_paidTo_9 : decode cX4_paidTo 9 = .ok (.iload_n 1, 1) := by decide +kernel
theorem dX4_paidTo_10 : decode cX4_paidTo 10 = .ok (.invokevirtual 107, 3) := by decide +kernel
theorem dX4_paidTo_13 : decode cX4_paidTo 13 = .ok (.goto 4, 3) := by decide +kernel
theorem dX4_paidTo_16 : decode cX4_paidTo 16 = .ok (.iconst 0, 1) := by decide +kernel
theorem dX4_paidTo_17 : decode cX4_paidTo 17 = .ok (.ireturn, 1) := by decide +kernel
set_option maxRecDepth 20000 in
theorem ggX4_count_X4_isIn : GoodIn wsX4_count wsX4_isIn := goodIn_r _ [4] (by decide +kernel) (by decide +kernel)
set_option maxRecDepth 20000 in
theorem gX4_count_X4_isIn : GoodIn wsX4_count (va_wsS RX4 64 yX4_isIn wsX4_isIn) := goodIn_app (goodIn_of _ (by decide +kernel)) ggX4_count_X4_isIn
set_option maxRecDepth 20000 in
theorem ggX4_count_X4_goes : GoodIn wsX4_count wsX4_goes := goodIn_r _ [8, 9, 16, 17, 18, 19, 20, 21, 22, 23, 24, 25, 26, 27, 28, 29, 30, 31, 32, 33, 34, 35, 36, 37] (by decide +kernel) (by decide +kernel)
set_option maxRecDepth 20000 in
theorem gX4_count_X4_goes : GoodIn wsX4_count (wsV RX4 87 RX4 yX4_goes wsX4_goes) := goodIn_app (goodIn_of _ (by decide +kernel)) ggX4_count_X4_goes
set_option maxRecDepth 20000 in
theorem ggX4_count_X4_countOf : GoodIn wsX4_count wsX4_countOf := goodIn_r _ [13, 14, 15, 16, 17, 18, 19, 20, 21, 22, 23, 24, 25, 26, 27, 28, 29, 30, 31, 32, 33, 34, 35, 36, 37] (by decide +kernel) (by decide +kernel)
set_option maxRecDepth 20000 in
theorem gX4_count_X4_countOf : GoodIn wsX4_count (wsV RX4 104 RX4 yX4_countOf wsX4_countOf) := goodIn_app (goodIn_of _ (by decide +kernel)) ggX4_count_X4_countOf
theorem dX4_count_0 : decode cX4_count 0 = .ok (.aload_n 0, 1) := by decide +kernel
theorem dX4_count_1 : decode cX4_count 1 = .ok (.iload_n 1, 1) := by decide +kernel
theorem dX4_count_2 : decode cX4_count 2 = .ok (.iconst 0, 1) := by decide +kernel
theorem dX4_count_3 : decode cX4_count 3 = .ok (.iconst 3, 1) := by decide +kernel
theorem dX4_count_4 : decode cX4_count 4 = .ok (.invokestatic 64, 3) := by decide +kernel
theorem dX4_count_7 : decode cX4_count 7 = .ok (.ifCond .eq 7, 3) := by decide +kernel
theorem dX4_count_10 : decode cX4_count 10 = .ok (.iconst 0, 1) := by decide +kernel
theorem dX4_count_11 : decode cX4_count 11 = .ok (.goto 4, 3) := by decide +kernel
theorem dX4_count_14 : decode cX4_count 14 = .ok (.iconst 1, 1) := by decide +kernel
theorem dX4_count_15 : decode cX4_count 15 = .ok (.invokevirtual 87, 3) := by decide +kernel
theorem dX4_count_18 : decode cX4_count 18 = .ok (.ifCond .eq 11, 3) := by decide +kernel
theorem dX4_count_21 : decode cX4_count 21 = .ok (.aload_n 0, 1) := by decide +kernel
theorem dX4_count_22 : decode cX4_count 22 = .ok (.iload_n 1, 1) := by decide +kernel
theorem dX4_count_23 : decode cX4_count 23 = .ok (.invokevirtual 104, 3) := by decide +kernel
theorem dX4_count_26 : decode cX4_count 26 = .ok (.goto 4, 3) := by decide +kernel
theorem dX4_count_29 : decode cX4_count 29 = .ok (.iconst 0, 1) := by decide +kernel
theorem dX4_count_30 : decode cX4_count 30 = .ok (.ireturn, 1) := by decide +kernel
set_option maxRecDepth 20000 in
theorem ggX4_moneyLeft_X4_left : GoodIn wsX4_moneyLeft wsX4_left := goodIn_r _ [6, 7, 8, 9, 10, 11, 12, 13, 14, 5, 15, 16, 17, 18, 19, 20, 21, 22, 23, 24, 25, 26, 27, 28, 29, 30, 31, 32, 33, 34, 35, 36, 37, 38, 39] (by decide +kernel) (by decide +kernel)
set_option maxRecDepth 20000 in
theorem gX4_moneyLeft_X4_left : GoodIn wsX4_moneyLeft (wsV RX4 91 RX4 yX4_left wsX4_left) := goodIn_app (goodIn_of _ (by decide +kernel)) ggX4_moneyLeft_X4_left
theorem dX4_moneyLeft_0 : decode cX4_moneyLeft 0 = .ok (.aload_n 0, 1) := by decide +kernel
theorem dX4_moneyLeft_1 : decode cX4_moneyLeft 1 = .ok (.iconst 0, 1) := by decide +kernel
theorem dX4_moneyLeft_2 : decode cX4_moneyLeft 2 = .ok (.putfield 57, 3) := by decide +kernel
theorem dX4_moneyLeft_5 : decode cX4_moneyLeft 5 = .ok (.aload_n 0, 1) := by decide +kernel
theorem dX4_moneyLeft_6 : decode cX4_moneyLeft 6 = .ok (.invokevirtual 91, 3) := by decide +kernel
theorem dX4_moneyLeft_9 : decode cX4_moneyLeft 9 = .ok (.ireturn, 1) := by decide +kernel
set_option maxRecDepth 20000 in
theorem ggX4_fee_X4_feeNow : GoodIn wsX4_fee wsX4_feeNow := goodIn_r _ [6, 7, 8, 9, 10, 11, 12, 13, 14, 15, 16, 17, 18, 19, 20, 21, 22, 23, 24, 25, 26, 27, 28, 29, 30, 31] (by decide +kernel) (by decide +kernel)
set_option maxRecDepth 20000 in
theorem gX4_fee_X4_feeNow : GoodIn wsX4_fee (wsV RX4 79 RX4 yX4_feeNow wsX4_feeNow) := goodIn_app (goodIn_of _ (by decide +kernel)) ggX4_fee_X4_feeNow
theorem dX4_fee_0 : decode cX4_fee 0 = .ok (.aload_n 0, 1) := by decide +kernel
theorem dX4_fee_1 : decode cX4_fee 1 = .ok (.iconst 0, 1) := by decide +kernel
theorem dX4_fee_2 : decode cX4_fee 2 = .ok (.putfield 57, 3) := by decide +kernel
theorem dX4_fee_5 : decode cX4_fee 5 = .ok (.aload_n 0, 1) := by decide +kernel
theorem dX4_fee_6 : decode cX4_fee 6 = .ok (.invokevirtual 79, 3) := by decide +kernel
theorem dX4_fee_9 : decode cX4_fee 9 = .ok (.ireturn, 1) := by decide +kernel
theorem dX4_payments_0 : decode cX4_payments 0 = .ok (.aload_n 0, 1) := by decide +kernel
theorem dX4_payments_1 : decode cX4_payments 1 = .ok (.iconst 0, 1) := by decide +kernel
theorem dX4_payments_2 : decode cX4_payments 2 = .ok (.putfield 57, 3) := by decide +kernel
theorem dX4_payments_5 : decode cX4_payments 5 = .ok (.aload_n 0, 1) := by decide +kernel
theorem dX4_payments_6 : decode cX4_payments 6 = .ok (.getfield 68, 3) := by decide +kernel
theorem dX4_payments_9 : decode cX4_payments 9 = .ok (.ireturn, 1) := by decide +kernel
set_option maxRecDepth 20000 in
theorem ggX4_asksPayment_X4_isPayment : GoodIn wsX4_asksPayment wsX4_isPayment := goodIn_r _ [5, 6, 7, 8, 4, 9, 15, 16, 17, 18, 19, 20, 21, 22, 23, 24, 25, 26, 27, 28, 29, 30, 31, 32, 33, 34, 35, 36] (by decide +kernel) (by decide +kernel)
set_option maxRecDepth 20000 in
theorem gX4_asksPayment_X4_isPayment : GoodIn wsX4_asksPayment (wsV RX4 143 RX4 yX4_isPayment wsX4_isPayment) := goodIn_app (goodIn_of _ (by decide +kernel)) ggX4_asksPayment_X4_isPayment
set_option maxRecDepth 20000 in
theorem ggX4_asksPayment_X4_goes : GoodIn wsX4_asksPayment wsX4_goes := goodIn_r _ [13, 14, 15, 16, 17, 18, 19, 20, 21, 22, 23, 24, 25, 26, 27, 28, 29, 30, 31, 32, 33, 34, 35, 36] (by decide +kernel) (by decide +kernel)
set_option maxRecDepth 20000 in
theorem gX4_asksPayment_X4_goes : GoodIn wsX4_asksPayment (wsV RX4 87 RX4 yX4_goes wsX4_goes) := goodIn_app (goodIn_of _ (by decide +kernel)) ggX4_asksPayment_X4_goes
theorem dX4_asksPayment_0 : decode cX4_asksPayment 0 = .ok (.aload_n 0, 1) := by decide +kernel
theorem dX4_asksPayment_1 : decode cX4_asksPayment 1 = .ok (.aload_n 0, 1) := by decide +kernel
theorem dX4_asksPayment_2 : decode cX4_asksPayment 2 = .ok (.iload_n 1, 1) := by decide +kernel
theorem dX4_asksPayment_3 : decode cX4_asksPayment 3 = .ok (.invokevirtual 143, 3) := by decide +kernel
theorem dX4_asksPayment_6 : decode cX4_asksPayment 6 = .ok (.ifCond .eq 7, 3) := by decide +kernel
theorem dX4_asksPayment_9 : decode cX4_asksPayment 9 = .ok (.iconst 0, 1) := by decide +kernel
theorem dX4_asksPayment_10 : decode cX4_asksPayment 10 = .ok (.goto 4, 3) := by decide +kernel
theorem dX4_asksPayment_13 : decode cX4_asksPayment 13 = .ok (.iconst 1, 1) := by decide +kernel
theorem dX4_asksPayment_14 : decode cX4_asksPayment 14 = .ok (.invokevirtual 87, 3) := by decide +kernel
theorem dX4_asksPayment_17 : decode cX4_asksPayment 17 = .ok (.ireturn, 1) := by decide +kernel
set_option maxRecDepth 20000 in
theorem ggX4_paymentTo_X4_asksPayment : GoodIn wsX4_paymentTo wsX4_asksPayment := goodIn_r _ [6, 7, 8, 9, 5, 10, 11, 12, 13, 14, 15, 16, 17, 18, 19, 20, 21, 22, 23, 24, 25, 26, 27, 28, 29, 30, 31, 32, 33, 34, 35, 36, 37, 38, 39, 40, 41] (by decide +kernel) (by decide +kernel)
set_option maxRecDepth 20000 in
theorem gX4_paymentTo_X4_asksPayment : GoodIn wsX4_paymentTo (wsV RX4 149 RX4 yX4_asksPayment wsX4_asksPayment) := goodIn_app (goodIn_of _ (by decide +kernel)) ggX4_paymentTo_X4_asksPayment
theorem dX4_paymentTo_0 : decode cX4_paymentTo 0 = .ok (.aload_n 0, 1) := by decide +kernel
theorem dX4_paymentTo_1 : decode cX4_paymentTo 1 = .ok (.iload_n 1, 1) := by decide +kernel
theorem dX4_paymentTo_2 : decode cX4_paymentTo 2 = .ok (.invokevirtual 149, 3) := by decide +kernel
theorem dX4_paymentTo_5 : decode cX4_paymentTo 5 = .ok (.ifCond .eq 12, 3) := by decide +kernel
theorem dX4_paymentTo_8 : decode cX4_paymentTo 8 = .ok (.aload_n 0, 1) := by decide +kernel
theorem dX4_paymentTo_9 : decode cX4_paymentTo 9 = .ok (.getfield 32, 3) := by decide +kernel
theorem dX4_paymentTo_12 : decode cX4_paymentTo 12 = .ok (.iload_n 1, 1) := by decide +kernel
theorem dX4_paymentTo_13 : decode cX4_paymentTo 13 = .ok (.iaload, 1) := by decide +kernel
theorem dX4_paymentTo_14 : decode cX4_paymentTo 14 = .ok (.goto 4, 3) := by decide +kernel
theorem dX4_paymentTo_17 : decode cX4_paymentTo 17 = .ok (.iconst 0, 1) := by decide +kernel
theorem dX4_paymentTo_18 : decode cX4_paymentTo 18 = .ok (.ireturn, 1) := by decide +kernel
set_option maxRecDepth 20000 in
theorem ggX4_amountOf_X4_asksPayment : GoodIn wsX4_amountOf wsX4_asksPayment := goodIn_r _ [6, 7, 8, 9, 5, 10, 11, 12, 13, 14, 15, 16, 17, 18, 19, 20, 21, 22, 23, 24, 25, 26, 27, 28, 29, 30, 31, 32, 33, 34, 35, 36, 37, 38, 39, 40, 41] (by decide +kernel) (by decide +kernel)
set_option maxRecDepth 20000 in
theorem gX4_amountOf_X4_asksPayment : GoodIn wsX4_amountOf (wsV RX4 149 RX4 yX4_asksPayment wsX4_asksPayment) := goodIn_app (goodIn_of _ (by decide +kernel)) ggX4_amountOf_X4_asksPayment
theorem dX4_amountOf_0 : decode cX4_amountOf 0 = .ok (.aload_n 0, 1) := by decide +kernel
theorem dX4_amountOf_1 : decode cX4_amountOf 1 = .ok (.iload_n 1, 1) := by decide +kernel
theorem dX4_amountOf_2 : decode cX4_amountOf 2 = .ok (.invokevirtual 149, 3) := by decide +kernel
theorem dX4_amountOf_5 : decode cX4_amountOf 5 = .ok (.ifCond .eq 12, 3) := by decide +kernel
theorem dX4_amountOf_8 : decode cX4_amountOf 8 = .ok (.aload_n 0, 1) := by decide +kernel
theorem dX4_amountOf_9 : decode cX4_amountOf 9 = .ok (.getfield 35, 3) := by decide +kernel
theorem dX4_amountOf_12 : decode cX4_amountOf 12 = .ok (.iload_n 1, 1) := by decide +kernel
theorem dX4_amountOf_13 : decode cX4_amountOf 13 = .ok (.iaload, 1) := by decide +kernel
theorem dX4_amountOf_14 : decode cX4_amountOf 14 = .ok (.goto 4, 3) := by decide +kernel
theorem dX4_amountOf_17 : decode cX4_amountOf 17 = .ok (.iconst 0, 1) := by decide +kernel
theorem dX4_amountOf_18 : decode cX4_amountOf 18 = .ok (.ireturn, 1) := by decide +kernel
set_option maxRecDepth 20000 in
theorem ggX4_paymentState_X4_asksPayment : GoodIn wsX4_paymentState wsX4_asksPayment := goodIn_r _ [6, 7, 8, 9, 5, 10, 11, 12, 13, 14, 15, 16, 17, 18, 19, 20, 21, 22, 23, 24, 25, 26, 27, 28, 29, 30, 31, 32, 33, 34, 35, 36, 37, 38, 39, 40, 41] (by decide +kernel) (by decide +kernel)
set_option maxRecDepth 20000 in
theorem gX4_paymentState_X4_asksPayment : GoodIn wsX4_paymentState (wsV RX4 149 RX4 yX4_asksPayment wsX4_asksPayment) := goodIn_app (goodIn_of _ (by decide +kernel)) ggX4_paymentState_X4_asksPayment
theorem dX4_paymentState_0 : decode cX4_paymentState 0 = .ok (.aload_n 0, 1) := by decide +kernel
theorem dX4_paymentState_1 : decode cX4_paymentState 1 = .ok (.iload_n 1, 1) := by decide +kernel
theorem dX4_paymentState_2 : decode cX4_paymentState 2 = .ok (.invokevirtual 149, 3) := by decide +kernel
theorem dX4_paymentState_5 : decode cX4_paymentState 5 = .ok (.ifCond .eq 12, 3) := by decide +kernel
theorem dX4_paymentState_8 : decode cX4_paymentState 8 = .ok (.aload_n 0, 1) := by decide +kernel
theorem dX4_paymentState_9 : decode cX4_paymentState 9 = .ok (.getfield 41, 3) := by decide +kernel
theorem dX4_paymentState_12 : decode cX4_paymentState 12 = .ok (.iload_n 1, 1) := by decide +kernel
theorem dX4_paymentState_13 : decode cX4_paymentState 13 = .ok (.iaload, 1) := by decide +kernel
theorem dX4_paymentState_14 : decode cX4_paymentState 14 = .ok (.goto 4, 3) := by decide +kernel
theorem dX4_paymentState_17 : decode cX4_paymentState 17 = .ok (.iconst 0, 1) := by decide +kernel
theorem dX4_paymentState_18 : decode cX4_paymentState 18 = .ok (.ireturn, 1) := by decide +kernel
set_option maxRecDepth 20000 in
theorem ggX4_shareNow_X4_isClaim : GoodIn wsX4_shareNow wsX4_isClaim := goodIn_r _ [8, 9, 10, 11, 7, 12, 80, 81, 82, 83, 84, 85, 86, 87, 88, 89, 90, 91, 92, 93, 94, 95, 96, 97, 98, 99, 100, 101] (by decide +kernel) (by decide +kernel)
set_option maxRecDepth 20000 in
theorem gX4_shareNow_X4_isClaim : GoodIn wsX4_shareNow (wsV RX4 101 RX4 yX4_isClaim wsX4_isClaim) := goodIn_app (goodIn_of _ (by decide +kernel)) ggX4_shareNow_X4_isClaim
set_option maxRecDepth 20000 in
theorem ggX4_shareNow_X4_isIn : GoodIn wsX4_shareNow wsX4_isIn := goodIn_r _ [12] (by decide +kernel) (by decide +kernel)
set_option maxRecDepth 20000 in
theorem gX4_shareNow_X4_isIn : GoodIn wsX4_shareNow (va_wsS RX4 64 yX4_isIn wsX4_isIn) := goodIn_app (goodIn_of _ (by decide +kernel)) ggX4_shareNow_X4_isIn
set_option maxRecDepth 20000 in
theorem ggX4_shareNow_X4_goes : GoodIn wsX4_shareNow wsX4_goes := goodIn_r _ [16, 17, 80, 81, 82, 83, 84, 85, 86, 87, 88, 89, 90, 91, 92, 93, 94, 95, 96, 97, 98, 99, 100, 101] (by decide +kernel) (by decide +kernel)
set_option maxRecDepth 20000 in
theorem gX4_shareNow_X4_goes : GoodIn wsX4_shareNow (wsV RX4 87 RX4 yX4_goes wsX4_goes) := goodIn_app (goodIn_of _ (by decide +kernel)) ggX4_shareNow_X4_goes
set_option maxRecDepth 20000 in
theorem ggX4_shareNow_X4_lays : GoodIn wsX4_shareNow wsX4_lays := goodIn_r _ [21, 9, 22, 2, 23, 3, 24, 25, 26, 7, 27, 28, 29, 30, 31, 32, 33, 34, 35, 36, 37, 38, 39, 40, 41, 42, 43, 44, 45, 46, 47, 48, 49, 50, 51, 52, 53, 54, 55, 56, 57, 58, 59, 60, 61, 62, 63, 64, 65, 66, 67, 68, 69, 70, 71, 72, 73, 74, 75, 76, 77, 78, 79, 80, 81, 82, 83, 84, 85, 86, 87, 88, 89, 90, 91, 92, 93, 94, 95, 96, 97, 98, 99, 100, 101] (by decide +kernel) (by decide +kernel)
set_option maxRecDepth 20000 in
theorem gX4_shareNow_X4_lays : GoodIn wsX4_shareNow (wsV RX4 136 RX4 yX4_lays wsX4_lays) := goodIn_app (goodIn_of _ (by decide +kernel)) ggX4_shareNow_X4_lays
theorem dX4_shareNow_0 : decode cX4_shareNow 0 = .ok (.aload_n 0, 1) := by decide +kernel
theorem dX4_shareNow_1 : decode cX4_shareNow 1 = .ok (.aload_n 0, 1) := by decide +kernel
theorem dX4_shareNow_2 : decode cX4_shareNow 2 = .ok (.iload_n 1, 1) := by decide +kernel
theorem dX4_shareNow_3 : decode cX4_shareNow 3 = .ok (.invokevirtual 101, 3) := by decide +kernel
theorem dX4_shareNow_6 : decode cX4_shareNow 6 = .ok (.ifCond .ne 7, 3) := by decide +kernel
theorem dX4_shareNow_9 : decode cX4_shareNow 9 = .ok (.iconst 1, 1) := by decide +kernel
theorem dX4_shareNow_10 : decode cX4_shareNow 10 = .ok (.goto 18, 3) := by decide +kernel
theorem dX4_shareNow_13 : decode cX4_shareNow 13 = .ok (.iload_n 2, 1) := by decide +kernel
theorem dX4_shareNow_14 : decode cX4_shareNow 14 = .ok (.iconst 0, 1) := by decide +kernel
theorem dX4_shareNow_15 : decode cX4_shareNow 15 = .ok (.ldc 135, 2) := by decide +kernel
theorem dX4_shareNow_17 : decode cX4_shareNow 17 = .ok (.invokestatic 64, 3) := by decide +kernel
theorem dX4_shareNow_20 : decode cX4_shareNow 20 = .ok (.ifCond .eq 7, 3) := by decide +kernel
theorem dX4_shareNow_23 : decode cX4_shareNow 23 = .ok (.iconst 0, 1) := by decide +kernel
theorem dX4_shareNow_24 : decode cX4_shareNow 24 = .ok (.goto 4, 3) := by decide +kernel
theorem dX4_shareNow_27 : decode cX4_shareNow 27 = .ok (.iconst 2, 1) := by decide +kernel
theorem dX4_shareNow_28 : decode cX4_shareNow 28 = .ok (.invokevirtual 87, 3) := by decide +kernel
theorem dX4_shareNow_31 : decode cX4_shareNow 31 = .ok (.ifCond .ne 5, 3) := by decide +kernel
theorem dX4_shareNow_34 : decode cX4_shareNow 34 = .ok (.iconst 0, 1) := by decide +kernel
theorem dX4_shareNow_35 : decode cX4_shareNow 35 = .ok (.ireturn, 1) := by decide +kernel
theorem dX4_shareNow_36 : decode cX4_shareNow 36 = .ok (.aload_n 0, 1) := by decide +kernel
theorem dX4_shareNow_37 : decode cX4_shareNow 37 = .ok (.iload_n 2, 1) := by decide +kernel
theorem dX4_shareNow_38 : decode cX4_shareNow 38 = .ok (.invokevirtual 136, 3) := by decide +kernel
theorem dX4_shareNow_41 : decode cX4_shareNow 41 = .ok (.aload_n 0, 1) := by decide +kernel
theorem dX4_shareNow_42 : decode cX4_shareNow 42 = .ok (.getfield 44, 3) := by decide +kernel
theorem dX4_shareNow_45 : decode cX4_shareNow 45 = .ok (.iload_n 1, 1) := by decide +kernel
theorem dX4_shareNow_46 : decode cX4_shareNow 46 = .ok (.baload, 1) := by decide +kernel
theorem dX4_shareNow_47 : decode cX4_shareNow 47 = .ok (.ifCond .eq 12, 3) := by decide +kernel
theorem dX4_shareNow_50 : decode cX4_shareNow 50 = .ok (.aload_n 0, 1) := by decide +kernel
theorem dX4_shareNow_51 : decode cX4_shareNow 51 = .ok (.getfield 50, 3) := by decide +kernel
theorem dX4_shareNow_54 : decode cX4_shareNow 54 = .ok (.iload_n 1, 1) := by decide +kernel
theorem dX4_shareNow_55 : decode cX4_shareNow 55 = .ok (.iaload, 1) := by decide +kernel
theorem dX4_shareNow_56 : decode cX4_shareNow 56 = .ok (.goto 4, 3) := by decide +kernel
theorem dX4_shareNow_59 : decode cX4_shareNow 59 = .ok (.iconst 0, 1) := by decide +kernel
theorem dX4_shareNow_60 : decode cX4_shareNow 60 = .ok (.ireturn, 1) := by decide +kernel
set_option maxRecDepth 20000 in
theorem ggX4_shareOf_X4_shareNow : GoodIn wsX4_shareOf wsX4_shareNow := goodIn_r _ [5, 6, 7, 8, 9, 10, 11, 4, 12, 13, 14, 15, 16, 17, 18, 19, 20, 21, 22, 23, 24, 25, 26, 27, 28, 29, 30, 31, 32, 33, 34, 35, 36, 37, 38, 39, 40, 41, 42, 43, 44, 45, 46, 47, 48, 49, 50, 51, 52, 53, 54, 55, 56, 57, 58, 59, 60, 61, 62, 63, 64, 65, 66, 67, 68, 69, 70, 71, 72, 73, 74, 75, 76, 77, 78, 79, 80, 81, 82, 83, 84, 85, 86, 87, 88, 89, 90, 91, 92, 93, 94, 95, 96, 97, 98, 99, 100, 101, 102, 103, 104, 105] (by decide +kernel) (by decide +kernel)
set_option maxRecDepth 20000 in
theorem gX4_shareOf_X4_shareNow : GoodIn wsX4_shareOf (wsV RX4 152 RX4 yX4_shareNow wsX4_shareNow) := goodIn_app (goodIn_of _ (by decide +kernel)) ggX4_shareOf_X4_shareNow
theorem dX4_shareOf_0 : decode cX4_shareOf 0 = .ok (.aload_n 0, 1) := by decide +kernel
theorem dX4_shareOf_1 : decode cX4_shareOf 1 = .ok (.iload_n 1, 1) := by decide +kernel
theorem dX4_shareOf_2 : decode cX4_shareOf 2 = .ok (.iload_n 2, 1) := by decide +kernel
theorem dX4_shareOf_3 : decode cX4_shareOf 3 = .ok (.invokevirtual 152, 3) := by decide +kernel
theorem dX4_shareOf_6 : decode cX4_shareOf 6 = .ok (.ireturn, 1) := by decide +kernel
set_option maxRecDepth 20000 in
theorem ggX4_shareBySorting_X4_shareNow : GoodIn wsX4_shareBySorting wsX4_shareNow := goodIn_r _ [5, 6, 7, 8, 9, 10, 11, 4, 12, 13, 14, 15, 16, 17, 18, 19, 20, 21, 22, 23, 24, 25, 26, 27, 28, 29, 30, 31, 32, 33, 34, 35, 36, 37, 38, 39, 40, 41, 42, 43, 44, 45, 46, 47, 48, 49, 50, 51, 52, 53, 54, 55, 56, 57, 58, 59, 60, 61, 62, 63, 64, 65, 66, 67, 68, 69, 70, 71, 72, 73, 74, 75, 76, 77, 78, 79, 80, 81, 82, 83, 84, 85, 86, 87, 88, 89, 90, 91, 92, 93, 94, 95, 96, 97, 98, 99, 100, 101, 102, 103, 104, 105] (by decide +kernel) (by decide +kernel)
set_option maxRecDepth 20000 in
theorem gX4_shareBySorting_X4_shareNow : GoodIn wsX4_shareBySorting (wsV RX4 152 RX4 yX4_shareNow wsX4_shareNow) := goodIn_app (goodIn_of _ (by decide +kernel)) ggX4_shareBySorting_X4_shareNow
theorem dX4_shareBySorting_0 : decode cX4_shareBySorting 0 = .ok (.aload_n 0, 1) := by decide +kernel
theorem dX4_shareBySorting_1 : decode cX4_shareBySorting 1 = .ok (.iload_n 1, 1) := by decide +kernel
theorem dX4_shareBySorting_2 : decode cX4_shareBySorting 2 = .ok (.iload_n 2, 1) := by decide +kernel
theorem dX4_shareBySorting_3 : decode cX4_shareBySorting 3 = .ok (.invokevirtual 152, 3) := by decide +kernel
theorem dX4_shareBySorting_6 : decode cX4_shareBySorting 6 = .ok (.ireturn, 1) := by decide +kernel
theorem dJ9_max_7cf53_0 : decode cJ9_max_7cf53 0 = .ok (.iload_n 0, 1) := by decide +kernel
theorem dJ9_max_7cf53_1 : decode cJ9_max_7cf53 1 = .ok (.iload_n 1, 1) := by decide +kernel
theorem dJ9_max_7cf53_2 : decode cJ9_max_7cf53 2 = .ok (.if_icmp .lt 7, 3) := by decide +kernel
theorem dJ9_max_7cf53_5 : decode cJ9_max_7cf53 5 = .ok (.iload_n 0, 1) := by decide +kernel
theorem dJ9_max_7cf53_6 : decode cJ9_max_7cf53 6 = .ok (.goto 4, 3) := by decide +kernel
theorem dJ9_max_7cf53_9 : decode cJ9_max_7cf53 9 = .ok (.iload_n 1, 1) := by decide +kernel
theorem dJ9_max_7cf53_10 : decode cJ9_max_7cf53 10 = .ok (.ireturn, 1) := by decide +kernel
set_option maxRecDepth 20000 in
theorem ggL_setFund_X3_setFund : GoodIn wsL_setFund wsX3_setFund := goodIn_ca (goodIn_ca (goodIn_r _ [7, 8, 9, 10, 11, 12, 13, 14, 15, 16, 6, 17, 18, 19, 20, 21, 22, 23, 24, 25, 26, 27, 28, 29, 30, 31, 32, 33, 34, 35, 36, 37, 38, 39, 40, 41, 42, 43, 44, 45, 46, 47, 48, 49, 50, 51, 52, 53, 54, 55, 56] (by decide +kernel) (by decide +kernel)) (goodIn_sub (fun _ h => List.mem_cons_of_mem _ (List.mem_append_left _ (List.mem_append_right _ h))) (by decide +kernel))) (goodIn_sub (fun _ h => List.mem_cons_of_mem _ (List.mem_append_right _ h)) (by decide +kernel))
set_option maxRecDepth 20000 in
theorem gL_setFund_X3_setFund : GoodIn wsL_setFund (wsV RL 7 RX3 yX3_setFund wsX3_setFund) := goodIn_app (goodIn_of _ (by decide +kernel)) ggL_setFund_X3_setFund
