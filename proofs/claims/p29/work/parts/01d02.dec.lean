theorem dL_setGrade_3 : decode cL_setGrade 3 = .ok (.iload_n 3, 1) := by decide +kernel
theorem dL_setGrade_4 : decode cL_setGrade 4 = .ok (.invokevirtual 51, 3) := by decide +kernel
theorem dL_setGrade_7 : decode cL_setGrade 7 = .ok (.iconst 0, 1) := by decide +kernel
theorem dL_setGrade_8 : decode cL_setGrade 8 = .ok (.ireturn, 1) := by decide +kernel
theorem dL_setGrade_9 : decode cL_setGrade 9 = .ok (.astore 4, 2) := by decide +kernel
theorem dL_setGrade_11 : decode cL_setGrade 11 = .ok (.ldc 44, 2) := by decide +kernel
theorem dL_setGrade_13 : decode cL_setGrade 13 = .ok (.ireturn, 1) := by decide +kernel
theorem dL_setGrade_14 : decode cL_setGrade 14 = .ok (.astore 4, 2) := by decide +kernel
theorem dL_setGrade_16 : decode cL_setGrade 16 = .ok (.ldc 47, 2) := by decide +kernel
theorem dL_setGrade_18 : decode cL_setGrade 18 = .ok (.ireturn, 1) := by decide +kernel
theorem dL_setGrade_19 : decode cL_setGrade 19 = .ok (.astore 4, 2) := by decide +kernel
theorem dL_setGrade_21 : decode cL_setGrade 21 = .ok (.ldc 50, 2) := by decide +kernel
theorem dL_setGrade_23 : decode cL_setGrade 23 = .ok (.ireturn, 1) := by decide +kernel
set_option maxRecDepth 20000 in
theorem ggL_of_X3_claimOf : GoodIn wsL_of wsX3_claimOf := goodIn_ca (goodIn_r _ [9, 10, 11, 12, 13, 14, 15, 8, 16, 219, 220, 221, 222, 223, 224, 225, 226, 227, 228, 229, 230, 231, 232, 233] (by decide +kernel) (by decide +kernel)) (goodIn_sub (fun _ h => List.mem_cons_of_mem _ (List.mem_append_left _ (List.mem_append_right _ h))) (by decide +kernel))
set_option maxRecDepth 20000 in
theorem gL_of_X3_claimOf : GoodIn wsL_of (wsV RL 55 RX3 yX3_claimOf wsX3_claimOf) := goodIn_app (goodIn_of _ (by decide +kernel)) ggL_of_X3_claimOf
set_option maxRecDepth 20000 in
theorem ggL_of_X3_stateOf : GoodIn wsL_of wsX3_stateOf := goodIn_ca (goodIn_r _ [20, 12, 21, 22, 23, 24, 8, 25, 10, 11, 26, 27, 28, 29, 30, 31, 219, 220, 221, 222, 223, 224, 225, 226, 227, 228, 229, 230, 231, 232, 233] (by decide +kernel) (by decide +kernel)) (goodIn_sub (fun _ h => List.mem_cons_of_mem _ (List.mem_append_left _ (List.mem_append_right _ h))) (by decide +kernel))
set_option maxRecDepth 20000 in
theorem gL_of_X3_stateOf : GoodIn wsL_of (wsV RL 58 RX3 yX3_stateOf wsX3_stateOf) := goodIn_app (goodIn_of _ (by decide +kernel)) ggL_of_X3_stateOf
set_option maxRecDepth 20000 in
theorem ggL_of_X3_gradeOf : GoodIn wsL_of wsX3_gradeOf := goodIn_ca (goodIn_r _ [35, 12, 36, 22, 23, 24, 8, 25, 10, 11, 26, 27, 28, 29, 30, 31, 219, 220, 221, 222, 223, 224, 225, 226, 227, 228, 229, 230, 231, 232, 233] (by decide +kernel) (by decide +kernel)) (goodIn_sub (fun _ h => List.mem_cons_of_mem _ (List.mem_append_left _ (List.mem_append_right _ h))) (by decide +kernel))
set_option maxRecDepth 20000 in
theorem gL_of_X3_gradeOf : GoodIn wsL_of (wsV RL 61 RX3 yX3_gradeOf wsX3_gradeOf) := goodIn_app (goodIn_of _ (by decide +kernel)) ggL_of_X3_gradeOf
set_option maxRecDepth 20000 in
theorem ggL_of_X3_room : GoodIn wsL_of wsX3_room := goodIn_ca (goodIn_r _ [40, 41, 12, 36, 42, 22, 23, 24, 8, 25, 10, 11, 26, 27, 28, 29, 30, 31, 43, 44, 45, 46, 47, 48, 49, 50, 51, 52, 53, 54, 219, 220, 221, 222, 223, 224, 225, 226, 227, 228, 229, 230, 231, 232, 233, 234, 235, 236, 237, 238] (by decide +kernel) (by decide +kernel)) (goodIn_sub (fun _ h => List.mem_cons_of_mem _ (List.mem_append_left _ (List.mem_append_right _ h))) (by decide +kernel))
set_option maxRecDepth 20000 in
theorem gL_of_X3_room : GoodIn wsL_of (wsV RL 64 RX3 yX3_room wsX3_room) := goodIn_app (goodIn_of _ (by decide +kernel)) ggL_of_X3_room
set_option maxRecDepth 20000 in
theorem ggL_of_X3_paidTo : GoodIn wsL_of wsX3_paidTo := goodIn_ca (goodIn_r _ [58, 42, 22, 23, 24, 8, 25, 10, 11, 12, 26, 27, 28, 29, 30, 31, 46, 47, 48, 49, 50, 51, 52, 53, 54, 219, 220, 221, 222, 223, 224, 225, 226, 227, 228, 229, 230, 231, 232, 233, 234, 235, 236, 237, 238] (by decide +kernel) (by decide +kernel)) (goodIn_sub (fun _ h => List.mem_cons_of_mem _ (List.mem_append_left _ (List.mem_append_right _ h))) (by decide +kernel))
set_option maxRecDepth 20000 in
theorem gL_of_X3_paidTo : GoodIn wsL_of (wsV RL 67 RX3 yX3_paidTo wsX3_paidTo) := goodIn_app (goodIn_of _ (by decide +kernel)) ggL_of_X3_paidTo
set_option maxRecDepth 20000 in
theorem ggL_of_X3_paymentTo : GoodIn wsL_of wsX3_paymentTo := goodIn_ca (goodIn_r _ [62, 42, 63, 64, 65, 66, 8, 67, 10, 11, 68, 69, 70, 49, 71, 51, 219, 220, 221, 222, 223, 224, 225, 226, 227, 234, 235, 236, 237, 238] (by decide +kernel) (by decide +kernel)) (goodIn_sub (fun _ h => List.mem_cons_of_mem _ (List.mem_append_left _ (List.mem_append_right _ h))) (by decide +kernel))
set_option maxRecDepth 20000 in
theorem gL_of_X3_paymentTo : GoodIn wsL_of (wsV RL 70 RX3 yX3_paymentTo wsX3_paymentTo) := goodIn_app (goodIn_of _ (by decide +kernel)) ggL_of_X3_paymentTo
set_option maxRecDepth 20000 in
theorem ggL_of_X3_amountOf : GoodIn wsL_of wsX3_amountOf := goodIn_ca (goodIn_r _ [75, 42, 76, 64, 65, 66, 8, 67, 10, 11, 68, 69, 70, 49, 71, 51, 219, 220, 221, 222, 223, 224, 225, 226, 227, 234, 235, 236, 237, 238] (by decide +kernel) (by decide +kernel)) (goodIn_sub (fun _ h => List.mem_cons_of_mem _ (List.mem_append_left _ (List.mem_append_right _ h))) (by decide +kernel))
set_option maxRecDepth 20000 in
theorem gL_of_X3_amountOf : GoodIn wsL_of (wsV RL 73 RX3 yX3_amountOf wsX3_amountOf) := goodIn_app (goodIn_of _ (by decide +kernel)) ggL_of_X3_amountOf
set_option maxRecDepth 20000 in
theorem ggL_of_X3_paymentState : GoodIn wsL_of wsX3_paymentState := goodIn_ca (goodIn_r _ [80, 42, 81, 64, 65, 66, 8, 67, 10, 11, 68, 69, 70, 49, 71, 51, 219, 220, 221, 222, 223, 224, 225, 226, 227, 234, 235, 236, 237, 238] (by decide +kernel) (by decide +kernel)) (goodIn_sub (fun _ h => List.mem_cons_of_mem _ (List.mem_append_left _ (List.mem_append_right _ h))) (by decide +kernel))
set_option maxRecDepth 20000 in
theorem gL_of_X3_paymentState : GoodIn wsL_of (wsV RL 76 RX3 yX3_paymentState wsX3_paymentState) := goodIn_app (goodIn_of _ (by decide +kernel)) ggL_of_X3_paymentState
set_option maxRecDepth 20000 in
theorem ggL_of_X3_shareOf : GoodIn wsL_of wsX3_shareOf := goodIn_ca (goodIn_ca (goodIn_r _ [85, 86, 87, 88, 8, 89, 90, 22, 23, 24, 25, 10, 11, 12, 26, 27, 28, 29, 30, 31, 91, 92, 93, 94, 95, 96, 97, 14, 15, 16, 98, 99, 100, 101, 102, 103, 36, 104, 105, 106, 107, 108, 109, 110, 111, 112, 113, 114, 115, 42, 116, 117, 118, 119, 120, 121, 122, 123, 124, 49, 125, 51, 53, 54, 126, 127, 128, 129, 21, 130, 38, 39, 40, 41, 43, 44, 45, 46, 47, 48, 50, 52, 131, 132, 133, 134, 135, 136, 137, 138, 139, 140, 141, 142, 143, 144, 145, 146, 147, 148, 149, 150, 151, 152, 153, 154, 155, 156, 157, 158, 159, 160, 161, 162, 163, 164, 165, 166, 167, 168, 169, 170, 171, 172, 173, 174, 175, 176, 177, 178, 179, 180, 181, 182, 183, 184, 185, 186, 187, 188, 189, 190, 191, 192, 193, 194, 195, 196, 197, 198, 199, 200, 201, 202, 203, 204, 205, 219, 220, 221, 222, 223, 224, 225, 226, 227, 228, 229, 230, 231, 232, 233, 239, 240, 241, 242, 243, 244, 245, 246, 234, 235, 236, 237, 238] (by decide +kernel) (by decide +kernel)) (goodIn_sub (fun _ h => List.mem_cons_of_mem _ (List.mem_append_left _ (List.mem_append_right _ h))) (by decide +kernel))) (goodIn_sub (fun _ h => List.mem_cons_of_mem _ (List.mem_append_right _ h)) (by decide +kernel))
set_option maxRecDepth 20000 in
theorem gL_of_X3_shareOf : GoodIn wsL_of (wsV RL 79 RX3 yX3_shareOf wsX3_shareOf) := goodIn_app (goodIn_of _ (by decide +kernel)) ggL_of_X3_shareOf
set_option maxRecDepth 20000 in
theorem ggL_of_X3_shareBySorting : GoodIn wsL_of wsX3_shareBySorting := goodIn_ca (goodIn_ca (goodIn_r _ [209, 86, 87, 88, 8, 89, 90, 22, 23, 24, 25, 10, 11, 12, 26, 27, 28, 29, 30, 31, 91, 92, 93, 94, 95, 96, 97, 14, 15, 16, 98, 99, 100, 101, 102, 103, 36, 104, 105, 106, 107, 108, 109, 110, 111, 112, 113, 114, 115, 42, 116, 117, 118, 119, 120, 121, 122, 123, 124, 49, 125, 51, 53, 54, 126, 127, 128, 129, 21, 130, 38, 39, 40, 41, 43, 44, 45, 46, 47, 48, 50, 52, 131, 132, 133, 134, 135, 136, 137, 138, 139, 140, 141, 142, 143, 144, 145, 146, 147, 148, 149, 150, 151, 152, 153, 154, 155, 156, 157, 158, 159, 160, 161, 162, 163, 164, 165, 166, 167, 168, 169, 170, 171, 172, 173, 174, 175, 176, 177, 178, 179, 180, 181, 182, 183, 184, 185, 186, 187, 188, 189, 190, 191, 192, 193, 194, 195, 196, 197, 198, 199, 200, 201, 202, 203, 204, 205, 219, 220, 221, 222, 223, 224, 225, 226, 227, 228, 229, 230, 231, 232, 233, 239, 240, 241, 242, 243, 244, 245, 246, 234, 235, 236, 237, 238] (by decide +kernel) (by decide +kernel)) (goodIn_sub (fun _ h => List.mem_cons_of_mem _ (List.mem_append_left _ (List.mem_append_right _ h))) (by decide +kernel))) (goodIn_sub (fun _ h => List.mem_cons_of_mem _ (List.mem_append_right _ h)) (by decide +kernel))
set_option maxRecDepth 20000 in
theorem gL_of_X3_shareBySorting : GoodIn wsL_of (wsV RL 83 RX3 yX3_shareBySorting wsX3_shareBySorting) := goodIn_app (goodIn_of _ (by decide +kernel)) ggL_of_X3_shareBySorting
set_option maxRecDepth 20000 in
theorem ggL_of_X3_count : GoodIn wsL_of wsX3_count := goodIn_ca (goodIn_r _ [213, 95, 96, 12, 14, 15, 8, 16, 214, 215, 216, 29, 217, 31, 218, 219, 220, 221, 222, 223, 224, 225, 226, 227, 228, 229, 230, 231, 232, 233] (by decide +kernel) (by decide +kernel)) (goodIn_sub (fun _ h => List.mem_cons_of_mem _ (List.mem_append_right _ h)) (by decide +kernel))
set_option maxRecDepth 20000 in
theorem gL_of_X3_count : GoodIn wsL_of (wsV RL 86 RX3 yX3_count wsX3_count) := goodIn_app (goodIn_of _ (by decide +kernel)) ggL_of_X3_count
theorem dL_of_0 : decode cL_of 0 = .ok (.iload_n 1, 1) := by decide +kernel
theorem dL_of_1 : decode cL_of 1 = .ok (.ifCond .ne 11, 3) := by decide +kernel
theorem dL_of_4 : decode cL_of 4 = .ok (.aload_n 0, 1) := by decide +kernel
theorem dL_of_5 : decode cL_of 5 = .ok (.iload_n 2, 1) := by decide +kernel
theorem dL_of_6 : decode cL_of 6 = .ok (.invokevirtual 55, 3) := by decide +kernel
theorem dL_of_9 : decode cL_of 9 = .ok (.goto 131, 3) := by decide +kernel
theorem dL_of_12 : decode cL_of 12 = .ok (.iload_n 1, 1) := by decide +kernel
theorem dL_of_13 : decode cL_of 13 = .ok (.iconst 1, 1) := by decide +kernel
theorem dL_of_14 : decode cL_of 14 = .ok (.if_icmp .ne 11, 3) := by decide +kernel
theorem dL_of_17 : decode cL_of 17 = .ok (.aload_n 0, 1) := by decide +kernel
theorem dL_of_18 : decode cL_of 18 = .ok (.iload_n 2, 1) := by decide +kernel
theorem dL_of_19 : decode cL_of 19 = .ok (.invokevirtual 58, 3) := by decide +kernel
theorem dL_of_22 : decode cL_of 22 = .ok (.goto 118, 3) := by decide +kernel
theorem dL_of_25 : decode cL_of 25 = .ok (.iload_n 1, 1) := by decide +kernel
theorem dL_of_26 : decode cL_of 26 = .ok (.iconst 2, 1) := by decide +kernel
theorem dL_of_27 : decode cL_of 27 = .ok (.if_icmp .ne 11, 3) := by decide +kernel
theorem dL_of_30 : decode cL_of 30 = .ok (.aload_n 0, 1) := by decide +kernel
theorem dL_of_31 : decode cL_of 31 = .ok (.iload_n 2, 1) := by decide +kernel
theorem dL_of_32 : decode cL_of 32 = .ok (.invokevirtual 61, 3) := by decide +kernel
theorem dL_of_35 : decode cL_of 35 = .ok (.goto 105, 3) := by decide +kernel
theorem dL_of_38 : decode cL_of 38 = .ok (.iload_n 1, 1) := by decide +kernel
theorem dL_of_39 : decode cL_of 39 = .ok (.iconst 3, 1) := by decide +kernel
theorem dL_of_40 : decode cL_of 40 = .ok (.if_icmp .ne 11, 3) := by decide +kernel
theorem dL_of_43 : decode cL_of 43 = .ok (.aload_n 0, 1) := by decide +kernel
theorem dL_of_44 : decode cL_of 44 = .ok (.iload_n 2, 1) := by decide +kernel
theorem dL_of_45 : decode cL_of 45 = .ok (.invokevirtual 64, 3) := by decide +kernel
theorem dL_of_48 : decode cL_of 48 = .ok (.goto 92, 3) := by decide +kernel
theorem dL_of_51 : decode cL_of 51 = .ok (.iload_n 1, 1) := by decide +kernel
theorem dL_of_52 : decode cL_of 52 = .ok (.iconst 4, 1) := by decide +kernel
theorem dL_of_53 : decode cL_of 53 = .ok (.if_icmp .ne 11, 3) := by decide +kernel
theorem dL_of_56 : decode cL_of 56 = .ok (.aload_n 0, 1) := by decide +kernel
theorem dL_of_57 : decode cL_of 57 = .ok (.iload_n 2, 1) := by decide +kernel
theorem dL_of_58 : decode cL_of 58 = .ok (.invokevirtual 67, 3) := by decide +kernel
theorem dL_of_61 : decode cL_of 61 = .ok (.goto 79, 3) := by decide +kernel
theorem dL_of_64 : decode cL_of 64 = .ok (.iload_n 1, 1) := by decide +kernel
theorem dL_of_65 : decode cL_of 65 = .ok (.iconst 5, 1) := by decide +kernel
theorem dL_of_66 : decode cL_of 66 = .ok (.if_icmp .ne 11, 3) := by decide +kernel
theorem dL_of_69 : decode cL_of 69 = .ok (.aload_n 0, 1) := by decide +kernel
theorem dL_of_70 : decode cL_of 70 = .ok (.iload_n 2, 1) := by decide +kernel
theorem dL_of_71 : decode cL_of 71 = .ok (.invokevirtual 70, 3) := by decide +kernel
theorem dL_of_74 : decode cL_of 74 = .ok (.goto 66, 3) := by decide +kernel
theorem dL_of_77 : decode cL_of 77 = .ok (.iload_n 1, 1) := by decide +kernel
theorem dL_of_78 : decode cL_of 78 = .ok (.bipush 6, 2) := by decide +kernel
theorem dL_of_80 : decode cL_of 80 = .ok (.if_icmp .ne 11, 3) := by decide +kernel
theorem dL_of_83 : decode cL_of 83 = .ok (.aload_n 0, 1) := by decide +kernel
theorem dL_of_84 : decode cL_of 84 = .ok (.iload_n 2, 1) := by decide +kernel
theorem dL_of_85 : decode cL_of 85 = .ok (.invokevirtual 73, 3) := by decide +kernel
theorem dL_of_88 : decode cL_of 88 = .ok (.goto 52, 3) := by decide +kernel
theorem dL_of_91 : decode cL_of 91 = .ok (.iload_n 1, 1) := by decide +kernel
theorem dL_of_92 : decode cL_of 92 = .ok (.bipush 7, 2) := by decide +kernel
theorem dL_of_94 : decode cL_of 94 = .ok (.if_icmp .ne 11, 3) := by decide +kernel
theorem dL_of_97 : decode cL_of 97 = .ok (.aload_n 0, 1) := by decide +kernel
theorem dL_of_98 : decode cL_of 98 = .ok (.iload_n 2, 1) := by decide +kernel
theorem dL_of_99 : decode cL_of 99 = .ok (.invokevirtual 76, 3) := by decide +kernel
theorem dL_of_102 : decode cL_of 102 = .ok (.goto 38, 3) := by decide +kernel
theorem dL_of_105 : decode cL_of 105 = .ok (.iload_n 1, 1) := by decide +kernel
theorem dL_of_106 : decode cL_of 106 = .ok (.bipush 8, 2) := by decide +kernel
theorem dL_of_108 : decode cL_of 108 = .ok (.if_icmp .ne 12, 3) := by decide +kernel
theorem dL_of_111 : decode cL_of 111 = .ok (.aload_n 0, 1) := by decide +kernel
theorem dL_of_112 : decode cL_of 112 = .ok (.iload_n 2, 1) := by decide +kernel
theorem dL_of_113 : decode cL_of 113 = .ok (.iload_n 3, 1) := by decide +kernel
theorem dL_of_114 : decode cL_of 114 = .ok (.invokevirtual 79, 3) := by decide +kernel
theorem dL_of_117 : decode cL_of 117 = .ok (.goto 23, 3) := by decide +kernel
theorem dL_of_120 : decode cL_of 120 = .ok (.iload_n 1, 1) := by decide +kernel
theorem dL_of_121 : decode cL_of 121 = .ok (.bipush 9, 2) := by decide +kernel
theorem dL_of_123 : decode cL_of 123 = .ok (.if_icmp .ne 12, 3) := by decide +kernel
theorem dL_of_126 : decode cL_of 126 = .ok (.aload_n 0, 1) := by decide +kernel
theorem dL_of_127 : decode cL_of 127 = .ok (.iload_n 2, 1) := by decide +kernel
theorem dL_of_128 : decode cL_of 128 = .ok (.iload_n 3, 1) := by decide +kernel
theorem dL_of_129 : decode cL_of 129 = .ok (.invokevirtual 83, 3) := by decide +kernel
theorem dL_of_132 : decode cL_of 132 = .ok (.goto 8, 3) := by decide +kernel
theorem dL_of_135 : decode cL_of 135 = .ok (.aload_n 0, 1) := by decide +kernel
theorem dL_of_136 : decode cL_of 136 = .ok (.iload_n 2, 1) := by decide +kernel
theorem dL_of_137 : decode cL_of 137 = .ok (.invokevirtual 86, 3) := by decide +kernel
theorem dL_of_140 : decode cL_of 140 = .ok (.ireturn, 1) := by decide +kernel
theorem dL_of_141 : decode cL_of 141 = .ok (.astore 4, 2) := by decide +kernel
theorem dL_of_143 : decode cL_of 143 = .ok (.ldc 44, 2) := by decide +kernel
theorem dL_of_145 : decode cL_of 145 = .ok (.ireturn, 1) := by decide +kernel
theorem dL_of_146 : decode cL_of 146 = .ok (.astore 4, 2) := by decide +kernel
theorem dL_of_148 : decode cL_of 148 = .ok (.ldc 47, 2) := by decide +kernel
theorem dL_of_150 : decode cL_of 150 = .ok (.ireturn, 1) := by decide +kernel
set_option maxRecDepth 20000 in
theorem ggL_all_X3_today : GoodIn wsL_all wsX3_today := goodIn_r _ [11, 12, 100, 101, 102, 103, 104, 105, 106, 107, 108] (by decide +kernel) (by decide +kernel)
set_option maxRecDepth 20000 in
theorem gL_all_X3_today : GoodIn wsL_all (wsV RL 89 RX3 yX3_today wsX3_today) := goodIn_app (goodIn_of _ (by decide +kernel)) ggL_all_X3_today
set_option maxRecDepth 20000 in
theorem ggL_all_X3_moneyLeft : GoodIn wsL_all wsX3_moneyLeft := goodIn_r _ [16, 17, 18, 19, 20, 21, 22, 10, 23, 24, 25, 26, 27, 28, 29, 30, 31, 32, 33, 100, 101, 102, 103, 104, 105, 106, 107, 108, 109, 110, 111, 112, 113] (by decide +kernel) (by decide +kernel)
set_option maxRecDepth 20000 in
theorem gL_all_X3_moneyLeft : GoodIn wsL_all (wsV RL 95 RX3 yX3_moneyLeft wsX3_moneyLeft) := goodIn_app (goodIn_of _ (by decide +kernel)) ggL_all_X3_moneyLeft
set_option maxRecDepth 20000 in
theorem ggL_all_X3_fee : GoodIn wsL_all wsX3_fee := goodIn_r _ [23, 17, 24, 25, 100, 101, 102, 103, 104, 105, 106, 107, 108] (by decide +kernel) (by decide +kernel)
set_option maxRecDepth 20000 in
theorem gL_all_X3_fee : GoodIn wsL_all (wsV RL 100 RX3 yX3_fee wsX3_fee) := goodIn_app (goodIn_of _ (by decide +kernel)) ggL_all_X3_fee
set_option maxRecDepth 20000 in
theorem ggL_all_X3_claims : GoodIn wsL_all wsX3_claims := goodIn_r _ [38, 39, 40, 100, 101, 102, 103, 104, 105, 106, 107, 108, 114, 115, 116, 117, 118, 119] (by decide +kernel) (by decide +kernel)
set_option maxRecDepth 20000 in
theorem gL_all_X3_claims : GoodIn wsL_all (wsV RL 103 RX3 yX3_claims wsX3_claims) := goodIn_app (goodIn_of _ (by decide +kernel)) ggL_all_X3_claims
set_option maxRecDepth 20000 in
theorem ggL_all_X3_stateOf : GoodIn wsL_all wsX3_stateOf := goodIn_ca (goodIn_r _ [44, 39, 45, 46, 47, 48, 10, 49, 50, 51, 52, 53, 54, 55, 56, 57, 100, 101, 102, 103, 104, 105, 106, 107, 108, 114, 115, 116, 117, 118, 119] (by decide +kernel) (by decide +kernel)) (goodIn_sub (fun _ h => List.mem_cons_of_mem _ (List.mem_append_right _ h)) (by decide +kernel))
set_option maxRecDepth 20000 in
theorem gL_all_X3_stateOf : GoodIn wsL_all (wsV RL 58 RX3 yX3_stateOf wsX3_stateOf) := goodIn_app (goodIn_of _ (by decide +kernel)) ggL_all_X3_stateOf
set_option maxRecDepth 20000 in
theorem ggL_all_X3_gradeOf : GoodIn wsL_all wsX3_gradeOf := goodIn_ca (goodIn_r _ [61, 39, 62, 46, 47, 48, 10, 49, 50, 51, 52, 53, 54, 55, 56, 57, 100, 101, 102, 103, 104, 105, 106, 107, 108, 114, 115, 116, 117, 118, 119] (by decide +kernel) (by decide +kernel)) (goodIn_sub (fun _ h => List.mem_cons_of_mem _ (List.mem_append_right _ h)) (by decide +kernel))
set_option maxRecDepth 20000 in
theorem gL_all_X3_gradeOf : GoodIn wsL_all (wsV RL 61 RX3 yX3_gradeOf wsX3_gradeOf) := goodIn_app (goodIn_of _ (by decide +kernel)) ggL_all_X3_gradeOf
set_option maxRecDepth 20000 in
theorem ggL_all_X3_paidTo : GoodIn wsL_all wsX3_paidTo := goodIn_ca (goodIn_r _ [66, 19, 46, 47, 48, 10, 49, 50, 51, 39, 52, 53, 54, 55, 56, 57, 67, 68, 69, 29, 70, 31, 71, 32, 33, 100, 101, 102, 103, 104, 105, 106, 107, 108, 114, 115, 116, 117, 118, 119, 109, 110, 111, 112, 113] (by decide +kernel) (by decide +kernel)) (goodIn_sub (fun _ h => List.mem_cons_of_mem _ (List.mem_append_right _ h)) (by decide +kernel))
set_option maxRecDepth 20000 in
theorem gL_all_X3_paidTo : GoodIn wsL_all (wsV RL 67 RX3 yX3_paidTo wsX3_paidTo) := goodIn_app (goodIn_of _ (by decide +kernel)) ggL_all_X3_paidTo
set_option maxRecDepth 20000 in
theorem ggL_all_X3_payments : GoodIn wsL_all wsX3_payments := goodIn_r _ [75, 19, 76, 100, 101, 102, 103, 104, 105, 106, 107, 108, 109, 110, 111, 112, 113] (by decide +kernel) (by decide +kernel)
set_option maxRecDepth 20000 in
theorem gL_all_X3_payments : GoodIn wsL_all (wsV RL 112 RX3 yX3_payments wsX3_payments) := goodIn_app (goodIn_of _ (by decide +kernel)) ggL_all_X3_payments
set_option maxRecDepth 20000 in
theorem ggL_all_X3_paymentState : GoodIn wsL_all wsX3_paymentState := goodIn_ca (goodIn_r _ [80, 19, 81, 82, 83, 84, 10, 85, 50, 51, 86, 87, 88, 29, 89, 31, 100, 101, 102, 103, 104, 105, 106, 107, 108, 109, 110, 111, 112, 113] (by decide +kernel) (by decide +kernel)) (goodIn_sub (fun _ h => List.mem_cons_of_mem _ (List.mem_append_right _ h)) (by decide +kernel))
set_option maxRecDepth 20000 in
theorem gL_all_X3_paymentState : GoodIn wsL_all (wsV RL 76 RX3 yX3_paymentState wsX3_paymentState) := goodIn_app (goodIn_of _ (by decide +kernel)) ggL_all_X3_paymentState
set_option maxRecDepth 20000 in
theorem ggL_all_X3_paymentTo : GoodIn wsL_all wsX3_paymentTo := goodIn_ca (goodIn_r _ [93, 19, 94, 82, 83, 84, 10, 85, 50, 51, 86, 87, 88, 29, 89, 31, 100, 101, 102, 103, 104, 105, 106, 107, 108, 109, 110, 111, 112, 113] (by decide +kernel) (by decide +kernel)) (goodIn_sub (fun _ h => List.mem_cons_of_mem _ (List.mem_append_right _ h)) (by decide +kernel))
set_option maxRecDepth 20000 in
theorem gL_all_X3_paymentTo : GoodIn wsL_all (wsV RL 70 RX3 yX3_paymentTo wsX3_paymentTo) := goodIn_app (goodIn_of _ (by decide +kernel)) ggL_all_X3_paymentTo
set_option maxRecDepth 20000 in
theorem ggL_all_X3_amountOf : GoodIn wsL_all wsX3_amountOf := goodIn_ca (goodIn_r _ [98, 19, 99, 82, 83, 84, 10, 85, 50, 51, 86, 87, 88, 29, 89, 31, 100, 101, 102, 103, 104, 105, 106, 107, 108, 109, 110, 111, 112, 113] (by decide +kernel) (by decide +kernel)) (goodIn_sub (fun _ h => List.mem_cons_of_mem _ (List.mem_append_right _ h)) (by decide +kernel))
set_option maxRecDepth 20000 in
theorem gL_all_X3_amountOf : GoodIn wsL_all (wsV RL 73 RX3 yX3_amountOf wsX3_amountOf) := goodIn_app (goodIn_of _ (by decide +kernel)) ggL_all_X3_amountOf
theorem dL_all_0 : decode cL_all 0 = .ok (.aload_n 0, 1) := by decide +kernel
theorem dL_all_1 : decode cL_all 1 = .ok (.invokevirtual 89, 3) := by decide +kernel
theorem dL_all_4 : decode cL_all 4 = .ok (.i2l, 1) := by decide +kernel
theorem dL_all_5 : decode cL_all 5 = .ok (.ldc2_w 93, 3) := by decide +kernel
theorem dL_all_8 : decode cL_all 8 = .ok (.aload_n 0, 1) := by decide +kernel
theorem dL_all_9 : decode cL_all 9 = .ok (.invokevirtual 95, 3) := by decide +kernel
theorem dL_all_12 : decode cL_all 12 = .ok (.i2l, 1) := by decide +kernel
theorem dL_all_13 : decode cL_all 13 = .ok (.lmul, 1) := by decide +kernel
theorem dL_all_14 : decode cL_all 14 = .ok (.ladd, 1) := by decide +kernel
theorem dL_all_15 : decode cL_all 15 = .ok (.ldc2_w 98, 3) := by decide +kernel
theorem dL_all_18 : decode cL_all 18 = .ok (.aload_n 0, 1) := by decide +kernel
theorem dL_all_19 : decode cL_all 19 = .ok (.invokevirtual 100, 3) := by decide +kernel
theorem dL_all_22 : decode cL_all 22 = .ok (.i2l, 1) := by decide +kernel
theorem dL_all_23 : decode cL_all 23 = .ok (.lmul, 1) := by decide +kernel
theorem dL_all_24 : decode cL_all 24 = .ok (.ladd, 1) := by decide +kernel
theorem dL_all_25 : decode cL_all 25 = .ok (.lstore_n 1, 1) := by decide +kernel
theorem dL_all_26 : decode cL_all 26 = .ok (.iconst 0, 1) := by decide +kernel
theorem dL_all_27 : decode cL_all 27 = .ok (.istore_n 3, 1) := by decide +kernel
theorem dL_all_28 : decode cL_all 28 = .ok (.iload_n 3, 1) := by decide +kernel
theorem dL_all_29 : decode cL_all 29 = .ok (.aload_n 0, 1) := by decide +kernel
theorem dL_all_30 : decode cL_all 30 = .ok (.invokevirtual 103, 3) := by decide +kernel
theorem dL_all_33 : decode cL_all 33 = .ok (.if_icmp .ge 44, 3) := by decide +kernel
theorem dL_all_36 : decode cL_all 36 = .ok (.ldc2_w 106, 3) := by decide +kernel
theorem dL_all_39 : decode cL_all 39 = .ok (.lload_n 1, 1) := by decide +kernel
theorem dL_all_40 : decode cL_all 40 = .ok (.lmul, 1) := by decide +kernel
theorem dL_all_41 : decode cL_all 41 = .ok (.aload_n 0, 1) := by decide +kernel
theorem dL_all_42 : decode cL_all 42 = .ok (.iload_n 3, 1) := by decide +kernel
theorem dL_all_43 : decode cL_all 43 = .ok (.invokevirtual 58, 3) := by decide +kernel
theorem dL_all_46 : decode cL_all 46 = .ok (.i2l, 1) := by decide +kernel
theorem dL_all_47 : decode cL_all 47 = .ok (.ladd, 1) := by decide +kernel
theorem dL_all_48 : decode cL_all 48 = .ok (.ldc2_w 108, 3) := by decide +kernel
theorem dL_all_51 : decode cL_all 51 = .ok (.aload_n 0, 1) := by decide +kernel
theorem dL_all_52 : decode cL_all 52 = .ok (.iload_n 3, 1) := by decide +kernel
theorem dL_all_53 : decode cL_all 53 = .ok (.invokevirtual 61, 3) := by decide +kernel
theorem dL_all_56 : decode cL_all 56 = .ok (.i2l, 1) := by decide +kernel
theorem dL_all_57 : decode cL_all 57 = .ok (.lmul, 1) := by decide +kernel
theorem dL_all_58 : decode cL_all 58 = .ok (.ladd, 1) := by decide +kernel
theorem dL_all_59 : decode cL_all 59 = .ok (.ldc2_w 110, 3) := by decide +kernel
theorem dL_all_62 : decode cL_all 62 = .ok (.aload_n 0, 1) := by decide +kernel
theorem dL_all_63 : decode cL_all 63 = .ok (.iload_n 3, 1) := by decide +kernel
theorem dL_all_64 : decode cL_all 64 = .ok (.invokevirtual 67, 3) := by decide +kernel
theorem dL_all_67 : decode cL_all 67 = .ok (.i2l, 1) := by decide +kernel
theorem dL_all_68 : decode cL_all 68 = .ok (.lmul, 1) := by decide +kernel
theorem dL_all_69 : decode cL_all 69 = .ok (.ladd, 1) := by decide +kernel
theorem dL_all_70 : decode cL_all 70 = .ok (.lstore_n 1, 1) := by decide +kernel
theorem dL_all_71 : decode cL_all 71 = .ok (.iinc 3 1, 3) := by decide +kernel
theorem dL_all_74 : decode cL_all 74 = .ok (.goto (-46), 3) := by decide +kernel
theorem dL_all_77 : decode cL_all 77 = .ok (.iconst 0, 1) := by decide +kernel
theorem dL_all_78 : decode cL_all 78 = .ok (.istore_n 3, 1) := by decide +kernel
theorem dL_all_79 : decode cL_all 79 = .ok (.iload_n 3, 1) := by decide +kernel
theorem dL_all_80 : decode cL_all 80 = .ok (.aload_n 0, 1) := by decide +kernel
theorem dL_all_81 : decode cL_all 81 = .ok (.invokevirtual 112, 3) := by decide +kernel
theorem dL_all_84 : decode cL_all 84 = .ok (.if_icmp .ge 44, 3) := by decide +kernel
theorem dL_all_87 : decode cL_all 87 = .ok (.ldc2_w 106, 3) := by decide +kernel
theorem dL_all_90 : decode cL_all 90 = .ok (.lload_n 1, 1) := by decide +kernel
theorem dL_all_91 : decode cL_all 91 = .ok (.lmul, 1) := by decide +kernel
theorem dL_all_92 : decode cL_all 92 = .ok (.aload_n 0, 1) := by decide +kernel
theorem dL_all_93 : decode cL_all 93 = .ok (.iload_n 3, 1) := by decide +kernel
theorem dL_all_94 : decode cL_all 94 = .ok (.invokevirtual 76, 3) := by decide +kernel
theorem dL_all_97 : decode cL_all 97 = .ok (.i2l, 1) := by decide +kernel
theorem dL_all_98 : decode cL_all 98 = .ok (.ladd, 1) := by decide +kernel
theorem dL_all_99 : decode cL_all 99 = .ok (.ldc2_w 108, 3) := by decide +kernel
theorem dL_all_102 : decode cL_all 102 = .ok (.aload_n 0, 1) := by decide +kernel
theorem dL_all_103 : decode cL_all 103 = .ok (.iload_n 3, 1) := by decide +kernel
theorem dL_all_104 : decode cL_all 104 = .ok (.invokevirtual 70, 3) := by decide +kernel
theorem dL_all_107 : decode cL_all 107 = .ok (.i2l, 1) := by decide +kernel
theorem dL_all_108 : decode cL_all 108 = .ok (.lmul, 1) := by decide +kernel
theorem dL_all_109 : decode cL_all 109 = .ok (.ladd, 1) := by decide +kernel
theorem dL_all_110 : decode cL_all 110 = .ok (.ldc2_w 115, 3) := by decide +kernel
theorem dL_all_113 : decode cL_all 113 = .ok (.aload_n 0, 1) := by decide +kernel
theorem dL_all_114 : decode cL_all 114 = .ok (.iload_n 3, 1) := by decide +kernel
theorem dL_all_115 : decode cL_all 115 = .ok (.invokevirtual 73, 3) := by decide +kernel
theorem dL_all_118 : decode cL_all 118 = .ok (.i2l, 1) := by decide +kernel
theorem dL_all_119 : decode cL_all 119 = .ok (.lmul, 1) := by decide +kernel
theorem dL_all_120 : decode cL_all 120 = .ok (.ladd, 1) := by decide +kernel
theorem dL_all_121 : decode cL_all 121 = .ok (.lstore_n 1, 1) := by decide +kernel
theorem dL_all_122 : decode cL_all 122 = .ok (.iinc 3 1, 3) := by decide +kernel
theorem dL_all_125 : decode cL_all 125 = .ok (.goto (-46), 3) := by decide +kernel
theorem dL_all_128 : decode cL_all 128 = .ok (.lload_n 1, 1) := by decide +kernel
theorem dL_all_129 : decode cL_all 129 = .ok (.lreturn, 1) := by decide +kernel
set_option maxRecDepth 20000 in
theorem ggL_areMoney_X3_claims : GoodIn wsL_areMoney wsX3_claims := goodIn_r _ [5, 6, 7, 105, 106, 107, 108, 109, 110, 111, 112, 113, 114, 115, 116, 117, 118, 119] (by decide +kernel) (by decide +kernel)
set_option maxRecDepth 20000 in
theorem gL_areMoney_X3_claims : GoodIn wsL_areMoney (wsV RL 103 RX3 yX3_claims wsX3_claims) := goodIn_app (goodIn_of _ (by decide +kernel)) ggL_areMoney_X3_claims
set_option maxRecDepth 20000 in
theorem ggL_areMoney_X3_payments : GoodIn wsL_areMoney wsX3_payments := goodIn_r _ [11, 12, 13, 105, 106, 107, 108, 109, 110, 111, 112, 113, 120, 121, 122, 123, 124] (by decide +kernel) (by decide +kernel)
set_option maxRecDepth 20000 in
theorem gL_areMoney_X3_payments : GoodIn wsL_areMoney (wsV RL 112 RX3 yX3_payments wsX3_payments) := goodIn_app (goodIn_of _ (by decide +kernel)) ggL_areMoney_X3_payments
set_option maxRecDepth 20000 in
theorem ggL_areMoney_X3_paymentState : GoodIn wsL_areMoney wsX3_paymentState := goodIn_ca (goodIn_r _ [17, 12, 18, 19, 20, 21, 4, 22, 23, 24, 25, 26, 27, 28, 29, 30, 105, 106, 107, 108, 109, 110, 111, 112, 113, 120, 121, 122, 123, 124] (by decide +kernel) (by decide +kernel)) (goodIn_sub (fun _ h => List.mem_cons_of_mem _ (List.mem_append_left _ (List.mem_append_right _ h))) (by decide +kernel))
set_option maxRecDepth 20000 in
theorem gL_areMoney_X3_paymentState : GoodIn wsL_areMoney (wsV RL 76 RX3 yX3_paymentState wsX3_paymentState) := goodIn_app (goodIn_of _ (by decide +kernel)) ggL_areMoney_X3_paymentState
set_option maxRecDepth 20000 in
theorem ggL_areMoney_X3_amountOf : GoodIn wsL_areMoney wsX3_amountOf := goodIn_ca (goodIn_r _ [34, 12, 35, 19, 20, 21, 4, 22, 23, 24, 25, 26, 27, 28, 29, 30, 105, 106, 107, 108, 109, 110, 111, 112, 113, 120, 121, 122, 123, 124] (by decide +kernel) (by decide +kernel)) (goodIn_sub (fun _ h => List.mem_cons_of_mem _ (List.mem_append_left _ (List.mem_append_right _ h))) (by decide +kernel))
set_option maxRecDepth 20000 in
theorem gL_areMoney_X3_amountOf : GoodIn wsL_areMoney (wsV RL 73 RX3 yX3_amountOf wsX3_amountOf) := goodIn_app (goodIn_of _ (by decide +kernel)) ggL_areMoney_X3_amountOf
set_option maxRecDepth 20000 in
theorem ggL_areMoney_X3_paymentTo : GoodIn wsL_areMoney wsX3_paymentTo := goodIn_ca (goodIn_r _ [39, 12, 40, 19, 20, 21, 4, 22, 23, 24, 25, 26, 27, 28, 29, 30, 105, 106, 107, 108, 109, 110, 111, 112, 113, 120, 121, 122, 123, 124] (by decide +kernel) (by decide +kernel)) (goodIn_sub (fun _ h => List.mem_cons_of_mem _ (List.mem_append_left _ (List.mem_append_right _ h))) (by decide +kernel))
set_option maxRecDepth 20000 in
theorem gL_areMoney_X3_paymentTo : GoodIn wsL_areMoney (wsV RL 70 RX3 yX3_paymentTo wsX3_paymentTo) := goodIn_app (goodIn_of _ (by decide +kernel)) ggL_areMoney_X3_paymentTo
set_option maxRecDepth 20000 in
theorem ggL_areMoney_X3_gradeOf : GoodIn wsL_areMoney wsX3_gradeOf := goodIn_ca (goodIn_r _ [44, 6, 45, 46, 47, 48, 4, 49, 23, 24, 50, 51, 52, 53, 54, 55, 105, 106, 107, 108, 109, 110, 111, 112, 113, 114, 115, 116, 117, 118, 119] (by decide +kernel) (by decide +kernel)) (goodIn_sub (fun _ h => List.mem_cons_of_mem _ (List.mem_append_left _ (List.mem_append_right _ h))) (by decide +kernel))
set_option maxRecDepth 20000 in
theorem gL_areMoney_X3_gradeOf : GoodIn wsL_areMoney (wsV RL 61 RX3 yX3_gradeOf wsX3_gradeOf) := goodIn_app (goodIn_of _ (by decide +kernel)) ggL_areMoney_X3_gradeOf
set_option maxRecDepth 20000 in
theorem ggL_areMoney_X3_paidTo : GoodIn wsL_areMoney wsX3_paidTo := goodIn_ca (goodIn_r _ [59, 12, 46, 47, 48, 4, 49, 23, 24, 6, 50, 51, 52, 53, 54, 55, 60, 61, 62, 28, 63, 30, 64, 65, 66, 105, 106, 107, 108, 109, 110, 111, 112, 113, 114, 115, 116, 117, 118, 119, 120, 121, 122, 123, 124] (by decide +kernel) (by decide +kernel)) (goodIn_sub (fun _ h => List.mem_cons_of_mem _ (List.mem_append_left _ (List.mem_append_right _ h))) (by decide +kernel))
set_option maxRecDepth 20000 in
theorem gL_areMoney_X3_paidTo : GoodIn wsL_areMoney (wsV RL 67 RX3 yX3_paidTo wsX3_paidTo) := goodIn_app (goodIn_of _ (by decide +kernel)) ggL_areMoney_X3_paidTo
set_option maxRecDepth 20000 in
theorem ggL_areMoney_X3_room : GoodIn wsL_areMoney wsX3_room := goodIn_ca (goodIn_r _ [70, 71, 6, 45, 12, 46, 47, 48, 4, 49, 23, 24, 50, 51, 52, 53, 54, 55, 72, 73, 74, 60, 61, 62, 28, 63, 30, 64, 65, 66, 105, 106, 107, 108, 109, 110, 111, 112, 113, 114, 115, 116, 117, 118, 119, 120, 121, 122, 123, 124] (by decide +kernel) (by decide +kernel)) (goodIn_sub (fun _ h => List.mem_cons_of_mem _ (List.mem_append_left _ (List.mem_append_right _ h))) (by decide +kernel))
set_option maxRecDepth 20000 in
theorem gL_areMoney_X3_room : GoodIn wsL_areMoney (wsV RL 64 RX3 yX3_room wsX3_room) := goodIn_app (goodIn_of _ (by decide +kernel)) ggL_areMoney_X3_room
set_option maxRecDepth 20000 in
theorem ggL_areMoney_X3_count : GoodIn wsL_areMoney wsX3_count := goodIn_ca (goodIn_r _ [78, 79, 80, 6, 81, 82, 4, 83, 84, 85, 86, 53, 87, 55, 88, 105, 106, 107, 108, 109, 110, 111, 112, 113, 114, 115, 116, 117, 118, 119] (by decide +kernel) (by decide +kernel)) (goodIn_sub (fun _ h => List.mem_cons_of_mem _ (List.mem_append_right _ h)) (by decide +kernel))
set_option maxRecDepth 20000 in
theorem gL_areMoney_X3_count : GoodIn wsL_areMoney (wsV RL 86 RX3 yX3_count wsX3_count) := goodIn_app (goodIn_of _ (by decide +kernel)) ggL_areMoney_X3_count
set_option maxRecDepth 20000 in
theorem ggL_areMoney_X3_moneyLeft : GoodIn wsL_areMoney wsX3_moneyLeft := goodIn_r _ [92, 93, 94, 12, 95, 96, 97, 4, 98, 99, 100, 101, 102, 103, 28, 104, 30, 65, 66, 105, 106, 107, 108, 109, 110, 111, 112, 113, 120, 121, 122, 123, 124] (by decide +kernel) (by decide +kernel)
set_option maxRecDepth 20000 in
theorem gL_areMoney_X3_moneyLeft : GoodIn wsL_areMoney (wsV RL 95 RX3 yX3_moneyLeft wsX3_moneyLeft) := goodIn_app (goodIn_of _ (by decide +kernel)) ggL_areMoney_X3_moneyLeft
theorem dL_areMoney_0 : decode cL_areMoney 0 = .ok (.aload_n 1, 1) := by decide +kernel
theorem dL_areMoney_1 : decode cL_areMoney 1 = .ok (.iconst 0, 1) := by decide +kernel
theorem dL_areMoney_2 : decode cL_areMoney 2 = .ok (.iaload, 1) := by decide +kernel
theorem dL_areMoney_3 : decode cL_areMoney 3 = .ok (.istore_n 2, 1) := by decide +kernel
theorem dL_areMoney_4 : decode cL_areMoney 4 = .ok (.iconst 0, 1) := by decide +kernel
theorem dL_areMoney_5 : decode cL_areMoney 5 = .ok (.istore_n 3, 1) := by decide +kernel
theorem dL_areMoney_6 : decode cL_areMoney 6 = .ok (.aload_n 0, 1) := by decide +kernel
theorem dL_areMoney_7 : decode cL_areMoney 7 = .ok (.invokevirtual 103, 3) := by decide +kernel
theorem dL_areMoney_10 : decode cL_areMoney 10 = .ok (.bipush 24, 2) := by decide +kernel
theorem dL_areMoney_12 : decode cL_areMoney 12 = .ok (.if_icmp .gt 16, 3) := by decide +kernel
theorem dL_areMoney_15 : decode cL_areMoney 15 = .ok (.aload_n 0, 1) := by decide +kernel
theorem dL_areMoney_16 : decode cL_areMoney 16 = .ok (.invokevirtual 112, 3) := by decide +kernel
theorem dL_areMoney_19 : decode cL_areMoney 19 = .ok (.bipush 100, 2) := by decide +kernel
theorem dL_areMoney_21 : decode cL_areMoney 21 = .ok (.if_icmp .gt 7, 3) := by decide +kernel
theorem dL_areMoney_24 : decode cL_areMoney 24 = .ok (.iconst 1, 1) := by decide +kernel
theorem dL_areMoney_25 : decode cL_areMoney 25 = .ok (.goto 4, 3) := by decide +kernel
theorem dL_areMoney_28 : decode cL_areMoney 28 = .ok (.iconst 0, 1) := by decide +kernel
theorem dL_areMoney_29 : decode cL_areMoney 29 = .ok (.istore 4, 2) := by decide +kernel
theorem dL_areMoney_31 : decode cL_areMoney 31 = .ok (.iconst 0, 1) := by decide +kernel
theorem dL_areMoney_32 : decode cL_areMoney 32 = .ok (.istore 5, 2) := by decide +kernel
theorem dL_areMoney_34 : decode cL_areMoney 34 = .ok (.iload 5, 2) := by decide +kernel
theorem dL_areMoney_36 : decode cL_areMoney 36 = .ok (.aload_n 0, 1) := by decide +kernel
theorem dL_areMoney_37 : decode cL_areMoney 37 = .ok (.invokevirtual 112, 3) := by decide +kernel
theorem dL_areMoney_40 : decode cL_areMoney 40 = .ok (.if_icmp .ge 90, 3) := by decide +kernel
theorem dL_areMoney_43 : decode cL_areMoney 43 = .ok (.iload 4, 2) := by decide +kernel
theorem dL_areMoney_45 : decode cL_areMoney 45 = .ok (.ifCond .eq 85, 3) := by decide +kernel
theorem dL_areMoney_48 : decode cL_areMoney 48 = .ok (.aload_n 0, 1) := by decide +kernel
theorem dL_areMoney_49 : decode cL_areMoney 49 = .ok (.iload 5, 2) := by decide +kernel
theorem dL_areMoney_51 : decode cL_areMoney 51 = .ok (.invokevirtual 76, 3) := by decide +kernel
theorem dL_areMoney_54 : decode cL_areMoney 54 = .ok (.istore 6, 2) := by decide +kernel
theorem dL_areMoney_56 : decode cL_areMoney 56 = .ok (.iload_n 2, 1) := by decide +kernel
theorem dL_areMoney_57 : decode cL_areMoney 57 = .ok (.iload 6, 2) := by decide +kernel
theorem dL_areMoney_59 : decode cL_areMoney 59 = .ok (.iconst 2, 1) := by decide +kernel
theorem dL_areMoney_60 : decode cL_areMoney 60 = .ok (.if_icmp .ne 7, 3) := by decide +kernel
theorem dL_areMoney_63 : decode cL_areMoney 63 = .ok (.iconst 0, 1) := by decide +kernel
theorem dL_areMoney_64 : decode cL_areMoney 64 = .ok (.goto 9, 3) := by decide +kernel
theorem dL_areMoney_67 : decode cL_areMoney 67 = .ok (.aload_n 0, 1) := by decide +kernel
theorem dL_areMoney_68 : decode cL_areMoney 68 = .ok (.iload 5, 2) := by decide +kernel
theorem dL_areMoney_70 : decode cL_areMoney 70 = .ok (.invokevirtual 73, 3) := by decide +kernel
theorem dL_areMoney_73 : decode cL_areMoney 73 = .ok (.isub, 1) := by decide +kernel
theorem dL_areMoney_74 : decode cL_areMoney 74 = .ok (.istore_n 2, 1) := by decide +kernel
theorem dL_areMoney_75 : decode cL_areMoney 75 = .ok (.iload 6, 2) := by decide +kernel
theorem dL_areMoney_77 : decode cL_areMoney 77 = .ok (.ifCond .lt 44, 3) := by decide +kernel
theorem dL_areMoney_80 : decode cL_areMoney 80 = .ok (.iload 6, 2) := by decide +kernel
theorem dL_areMoney_82 : decode cL_areMoney 82 = .ok (.iconst 3, 1) := by decide +kernel
theorem dL_areMoney_83 : decode cL_areMoney 83 = .ok (.if_icmp .ge 38, 3) := by decide +kernel
theorem dL_areMoney_86 : decode cL_areMoney 86 = .ok (.aload_n 0, 1) := by decide +kernel
theorem dL_areMoney_87 : decode cL_areMoney 87 = .ok (.iload 5, 2) := by decide +kernel
theorem dL_areMoney_89 : decode cL_areMoney 89 = .ok (.invokevirtual 73, 3) := by decide +kernel
theorem dL_areMoney_92 : decode cL_areMoney 92 = .ok (.ifCond .le 29, 3) := by decide +kernel
theorem dL_areMoney_95 : decode cL_areMoney 95 = .ok (.aload_n 0, 1) := by decide +kernel
theorem dL_areMoney_96 : decode cL_areMoney 96 = .ok (.iload 5, 2) := by decide +kernel
theorem dL_areMoney_98 : decode cL_areMoney 98 = .ok (.invokevirtual 70, 3) := by decide +kernel
theorem dL_areMoney_101 : decode cL_areMoney 101 = .ok (.ifCond .lt 20, 3) := by decide +kernel
theorem dL_areMoney_104 : decode cL_areMoney 104 = .ok (.aload_n 0, 1) := by decide +kernel
theorem dL_areMoney_105 : decode cL_areMoney 105 = .ok (.iload 5, 2) := by decide +kernel
theorem dL_areMoney_107 : decode cL_areMoney 107 = .ok (.invokevirtual 70, 3) := by decide +kernel
theorem dL_areMoney_110 : decode cL_areMoney 110 = .ok (.aload_n 0, 1) := by decide +kernel
theorem dL_areMoney_111 : decode cL_areMoney 111 = .ok (.invokevirtual 103, 3) := by decide +kernel
theorem dL_areMoney_114 : decode cL_areMoney 114 = .ok (.if_icmp .ge 7, 3) := by decide +kernel
theorem dL_areMoney_117 : decode cL_areMoney 117 = .ok (.iconst 1, 1) := by decide +kernel
theorem dL_areMoney_118 : decode cL_areMoney 118 = .ok (.goto 4, 3) := by decide +kernel
theorem dL_areMoney_121 : decode cL_areMoney 121 = .ok (.iconst 0, 1) := by decide +kernel
theorem dL_areMoney_122 : decode cL_areMoney 122 = .ok (.istore 4, 2) := by decide +kernel
theorem dL_areMoney_124 : decode cL_areMoney 124 = .ok (.iinc 5 1, 3) := by decide +kernel
theorem dL_areMoney_127 : decode cL_areMoney 127 = .ok (.goto (-93), 3) := by decide +kernel
theorem dL_areMoney_130 : decode cL_areMoney 130 = .ok (.iconst 0, 1) := by decide +kernel
theorem dL_areMoney_131 : decode cL_areMoney 131 = .ok (.istore 5, 2) := by decide +kernel
theorem dL_areMoney_133 : decode cL_areMoney 133 = .ok (.iload 5, 2) := by decide +kernel
theorem dL_areMoney_135 : decode cL_areMoney 135 = .ok (.aload_n 0, 1) := by decide +kernel
theorem dL_areMoney_136 : decode cL_areMoney 136 = .ok (.invokevirtual 103, 3) := by decide +kernel
theorem dL_areMoney_139 : decode cL_areMoney 139 = .ok (.if_icmp .ge 125, 3) := by decide +kernel
theorem dL_areMoney_142 : decode cL_areMoney 142 = .ok (.iload 4, 2) := by decide +kernel
theorem dL_areMoney_144 : decode cL_areMoney 144 = .ok (.ifCond .eq 120, 3) := by decide +kernel
theorem dL_areMoney_147 : decode cL_areMoney 147 = .ok (.iconst 0, 1) := by decide +kernel
theorem dL_areMoney_148 : decode cL_areMoney 148 = .ok (.istore 6, 2) := by decide +kernel
theorem dL_areMoney_150 : decode cL_areMoney 150 = .ok (.iconst 0, 1) := by decide +kernel
theorem dL_areMoney_151 : decode cL_areMoney 151 = .ok (.istore 7, 2) := by decide +kernel
theorem dL_areMoney_153 : decode cL_areMoney 153 = .ok (.iload 7, 2) := by decide +kernel
theorem dL_areMoney_155 : decode cL_areMoney 155 = .ok (.aload_n 0, 1) := by decide +kernel
theorem dL_areMoney_156 : decode cL_areMoney 156 = .ok (.invokevirtual 112, 3) := by decide +kernel
theorem dL_areMoney_159 : decode cL_areMoney 159 = .ok (.if_icmp .ge 45, 3) := by decide +kernel
theorem dL_areMoney_162 : decode cL_areMoney 162 = .ok (.iload 6, 2) := by decide +kernel
theorem dL_areMoney_164 : decode cL_areMoney 164 = .ok (.aload_n 0, 1) := by decide +kernel
theorem dL_areMoney_165 : decode cL_areMoney 165 = .ok (.iload 7, 2) := by decide +kernel
theorem dL_areMoney_167 : decode cL_areMoney 167 = .ok (.invokevirtual 70, 3) := by decide +kernel
theorem dL_areMoney_170 : decode cL_areMoney 170 = .ok (.iload 5, 2) := by decide +kernel
theorem dL_areMoney_172 : decode cL_areMoney 172 = .ok (.if_icmp .ne 22, 3) := by decide +kernel
theorem dL_areMoney_175 : decode cL_areMoney 175 = .ok (.aload_n 0, 1) := by decide +kernel
theorem dL_areMoney_176 : decode cL_areMoney 176 = .ok (.iload 7, 2) := by decide +kernel
theorem dL_areMoney_178 : decode cL_areMoney 178 = .ok (.invokevirtual 76, 3) := by decide +kernel
theorem dL_areMoney_181 : decode cL_areMoney 181 = .ok (.iconst 2, 1) := by decide +kernel
theorem dL_areMoney_182 : decode cL_areMoney 182 = .ok (.if_icmp .eq 12, 3) := by decide +kernel
theorem dL_areMoney_185 : decode cL_areMoney 185 = .ok (.aload_n 0, 1) := by decide +kernel
theorem dL_areMoney_186 : decode cL_areMoney 186 = .ok (.iload 7, 2) := by decide +kernel
theorem dL_areMoney_188 : decode cL_areMoney 188 = .ok (.invokevirtual 73, 3) := by decide +kernel
theorem dL_areMoney_191 : decode cL_areMoney 191 = .ok (.goto 4, 3) := by decide +kernel
theorem dL_areMoney_194 : decode cL_areMoney 194 = .ok (.iconst 0, 1) := by decide +kernel
theorem dL_areMoney_195 : decode cL_areMoney 195 = .ok (.iadd, 1) := by decide +kernel
theorem dL_areMoney_196 : decode cL_areMoney 196 = .ok (.istore 6, 2) := by decide +kernel
theorem dL_areMoney_198 : decode cL_areMoney 198 = .ok (.iinc 7 1, 3) := by decide +kernel
theorem dL_areMoney_201 : decode cL_areMoney 201 = .ok (.goto (-48), 3) := by decide +kernel
theorem dL_areMoney_204 : decode cL_areMoney 204 = .ok (.aload_n 1, 1) := by decide +kernel
theorem dL_areMoney_205 : decode cL_areMoney 205 = .ok (.bipush 6, 2) := by decide +kernel
theorem dL_areMoney_207 : decode cL_areMoney 207 = .ok (.aload_n 0, 1) := by decide +kernel
theorem dL_areMoney_208 : decode cL_areMoney 208 = .ok (.iload 5, 2) := by decide +kernel
theorem dL_areMoney_210 : decode cL_areMoney 210 = .ok (.invokevirtual 61, 3) := by decide +kernel
theorem dL_areMoney_213 : decode cL_areMoney 213 = .ok (.iadd, 1) := by decide +kernel
theorem dL_areMoney_214 : decode cL_areMoney 214 = .ok (.iaload, 1) := by decide +kernel
theorem dL_areMoney_215 : decode cL_areMoney 215 = .ok (.iload 6, 2) := by decide +kernel
theorem dL_areMoney_217 : decode cL_areMoney 217 = .ok (.isub, 1) := by decide +kernel
theorem dL_areMoney_218 : decode cL_areMoney 218 = .ok (.istore 7, 2) := by decide +kernel
theorem dL_areMoney_220 : decode cL_areMoney 220 = .ok (.aload_n 0, 1) := by decide +kernel
theorem dL_areMoney_221 : decode cL_areMoney 221 = .ok (.iload 5, 2) := by decide +kernel
theorem dL_areMoney_223 : decode cL_areMoney 223 = .ok (.invokevirtual 67, 3) := by decide +kernel
theorem dL_areMoney_226 : decode cL_areMoney 226 = .ok (.iload 6, 2) := by decide +kernel
theorem dL_areMoney_228 : decode cL_areMoney 228 = .ok (.if_icmp .ne 27, 3) := by decide +kernel
theorem dL_areMoney_231 : decode cL_areMoney 231 = .ok (.aload_n 0, 1) := by decide +kernel
theorem dL_areMoney_232 : decode cL_areMoney 232 = .ok (.iload 5, 2) := by decide +kernel
theorem dL_areMoney_234 : decode cL_areMoney 234 = .ok (.invokevirtual 64, 3) := by decide +kernel
theorem dL_areMoney_237 : decode cL_areMoney 237 = .ok (.iload 7, 2) := by decide +kernel
theorem dL_areMoney_239 : decode cL_areMoney 239 = .ok (.ifCond .le 8, 3) := by decide +kernel
theorem dL_areMoney_242 : decode cL_areMoney 242 = .ok (.iload 7, 2) := by decide +kernel
theorem dL_areMoney_244 : decode cL_areMoney 244 = .ok (.goto 4, 3) := by decide +kernel
theorem dL_areMoney_247 : decode cL_areMoney 247 = .ok (.iconst 0, 1) := by decide +kernel
theorem dL_areMoney_248 : decode cL_areMoney 248 = .ok (.if_icmp .ne 7, 3) := by decide +kernel
theorem dL_areMoney_251 : decode cL_areMoney 251 = .ok (.iconst 1, 1) := by decide +kernel
theorem dL_areMoney_252 : decode cL_areMoney 252 = .ok (.goto 4, 3) := by decide +kernel
theorem dL_areMoney_255 : decode cL_areMoney 255 = .ok (.iconst 0, 1) := by decide +kernel
theorem dL_areMoney_256 : decode cL_areMoney 256 = .ok (.istore 4, 2) := by decide +kernel
theorem dL_areMoney_258 : decode cL_areMoney 258 = .ok (.iinc 5 1, 3) := by decide +kernel
theorem dL_areMoney_261 : decode cL_areMoney 261 = .ok (.goto (-128), 3) := by decide +kernel
theorem dL_areMoney_264 : decode cL_areMoney 264 = .ok (.iconst 0, 1) := by decide +kernel
theorem dL_areMoney_265 : decode cL_areMoney 265 = .ok (.istore 5, 2) := by decide +kernel
theorem dL_areMoney_267 : decode cL_areMoney 267 = .ok (.iload 5, 2) := by decide +kernel
theorem dL_areMoney_269 : decode cL_areMoney 269 = .ok (.iconst 4, 1) := by decide +kernel
theorem dL_areMoney_270 : decode cL_areMoney 270 = .ok (.if_icmp .ge 18, 3) := by decide +kernel
theorem dL_areMoney_273 : decode cL_areMoney 273 = .ok (.iload_n 3, 1) := by decide +kernel
theorem dL_areMoney_274 : decode cL_areMoney 274 = .ok (.aload_n 0, 1) := by decide +kernel
theorem dL_areMoney_275 : decode cL_areMoney 275 = .ok (.iload 5, 2) := by decide +kernel
theorem dL_areMoney_277 : decode cL_areMoney 277 = .ok (.invokevirtual 86, 3) := by decide +kernel
theorem dL_areMoney_280 : decode cL_areMoney 280 = .ok (.iadd, 1) := by decide +kernel
theorem dL_areMoney_281 : decode cL_areMoney 281 = .ok (.istore_n 3, 1) := by decide +kernel
theorem dL_areMoney_282 : decode cL_areMoney 282 = .ok (.iinc 5 1, 3) := by decide +kernel
theorem dL_areMoney_285 : decode cL_areMoney 285 = .ok (.goto (-18), 3) := by decide +kernel
theorem dL_areMoney_288 : decode cL_areMoney 288 = .ok (.iload 4, 2) := by decide +kernel
theorem dL_areMoney_290 : decode cL_areMoney 290 = .ok (.ifCond .eq 23, 3) := by decide +kernel
theorem dL_areMoney_293 : decode cL_areMoney 293 = .ok (.aload_n 0, 1) := by decide +kernel
theorem dL_areMoney_294 : decode cL_areMoney 294 = .ok (.invokevirtual 95, 3) := by decide +kernel
theorem dL_areMoney_297 : decode cL_areMoney 297 = .ok (.iload_n 2, 1) := by decide +kernel
theorem dL_areMoney_298 : decode cL_areMoney 298 = .ok (.if_icmp .ne 15, 3) := by decide +kernel
theorem dL_areMoney_301 : decode cL_areMoney 301 = .ok (.iload_n 3, 1) := by decide +kernel
theorem dL_areMoney_302 : decode cL_areMoney 302 = .ok (.aload_n 0, 1) := by decide +kernel
theorem dL_areMoney_303 : decode cL_areMoney 303 = .ok (.invokevirtual 103, 3) := by decide +kernel
theorem dL_areMoney_306 : decode cL_areMoney 306 = .ok (.if_icmp .ne 7, 3) := by decide +kernel
theorem dL_areMoney_309 : decode cL_areMoney 309 = .ok (.iconst 1, 1) := by decide +kernel
theorem dL_areMoney_310 : decode cL_areMoney 310 = .ok (.goto 4, 3) := by decide +kernel
theorem dL_areMoney_313 : decode cL_areMoney 313 = .ok (.iconst 0, 1) := by decide +kernel
theorem dL_areMoney_314 : decode cL_areMoney 314 = .ok (.ireturn, 1) := by decide +kernel
set_option maxRecDepth 20000 in
theorem ggL_areShares_X3_claims : GoodIn wsL_areShares wsX3_claims := goodIn_r _ [5, 6, 7, 206, 207, 208, 209, 210, 211, 212, 213, 214, 215, 216, 217, 218, 219, 220] (by decide +kernel) (by decide +kernel)
set_option maxRecDepth 20000 in
theorem gL_areShares_X3_claims : GoodIn wsL_areShares (wsV RL 103 RX3 yX3_claims wsX3_claims) := goodIn_app (goodIn_of _ (by decide +kernel)) ggL_areShares_X3_claims
set_option maxRecDepth 20000 in
theorem ggL_areShares_X3_shareOf : GoodIn wsL_areShares wsX3_shareOf := goodIn_ca (goodIn_ca (goodIn_r _ [11, 12, 13, 14, 4, 15, 16, 17, 18, 19, 20, 21, 22, 6, 23, 24, 25, 26, 27, 28, 29, 30, 31, 32, 33, 34, 35, 36, 37, 38, 39, 40, 41, 42, 7, 43, 44, 45, 46, 47, 48, 49, 50, 51, 52, 53, 54, 55, 56, 57, 58, 59, 60, 61, 62, 63, 64, 65, 66, 67, 68, 69, 70, 71, 72, 73, 74, 75, 76, 77, 78, 79, 80, 81, 82, 83, 84, 85, 86, 87, 88, 89, 90, 91, 92, 93, 94, 95, 96, 97, 98, 99, 100, 101, 102, 103, 104, 105, 106, 107, 108, 109, 110, 111, 112, 113, 114, 115, 116, 117, 118, 119, 120, 121, 122, 123, 124, 125, 126, 127, 128, 129, 130, 131, 132, 133, 134, 135, 136, 137, 138, 139, 140, 141, 142, 143, 144, 145, 146, 147, 148, 149, 150, 151, 152, 153, 154, 155, 156, 157, 158, 159, 160, 161, 162, 163, 164, 206, 207, 208, 209, 210, 211, 212, 213, 214, 215, 216, 217, 218, 219, 220, 221, 222, 223, 224, 225, 226, 227, 228, 229, 230, 231, 232, 233] (by decide +kernel) (by decide +kernel)) (goodIn_sub (fun _ h => List.mem_cons_of_mem _ (List.mem_append_left _ (List.mem_append_right _ h))) (by decide +kernel))) (goodIn_sub (fun _ h => List.mem_cons_of_mem _ (List.mem_append_right _ h)) (by decide +kernel))
set_option maxRecDepth 20000 in
theorem gL_areShares_X3_shareOf : GoodIn wsL_areShares (wsV RL 79 RX3 yX3_shareOf wsX3_shareOf) := goodIn_app (goodIn_of _ (by decide +kernel)) ggL_areShares_X3_shareOf
set_option maxRecDepth 20000 in
theorem ggL_areShares_X3_room : GoodIn wsL_areShares wsX3_room := goodIn_ca (goodIn_r _ [80, 81, 6, 44, 57, 17, 18, 19, 4, 20, 21, 22, 23, 24, 25, 26, 27, 28, 82, 83, 84, 85, 86, 87, 67, 88, 69, 89, 70, 71, 206, 207, 208, 209, 210, 211, 212, 213, 214, 215, 216, 217, 218, 219, 220, 229, 230, 231, 232, 233] (by decide +kernel) (by decide +kernel)) (goodIn_sub (fun _ h => List.mem_cons_of_mem _ (List.mem_append_left _ (List.mem_append_right _ h))) (by decide +kernel))
set_option maxRecDepth 20000 in
theorem gL_areShares_X3_room : GoodIn wsL_areShares (wsV RL 64 RX3 yX3_room wsX3_room) := goodIn_app (goodIn_of _ (by decide +kernel)) ggL_areShares_X3_room
set_option maxRecDepth 20000 in
theorem ggL_areShares_X3_moneyLeft : GoodIn wsL_areShares wsX3_moneyLeft := goodIn_r _ [54, 55, 56, 57, 58, 59, 60, 4, 61, 62, 63, 64, 65, 66, 67, 68, 69, 70, 71, 206, 207, 208, 209, 210, 211, 212, 213, 214, 229, 230, 231, 232, 233] (by decide +kernel) (by decide +kernel)
set_option maxRecDepth 20000 in
theorem gL_areShares_X3_moneyLeft : GoodIn wsL_areShares (wsV RL 95 RX3 yX3_moneyLeft wsX3_moneyLeft) := goodIn_app (goodIn_of _ (by decide +kernel)) ggL_areShares_X3_moneyLeft
set_option maxRecDepth 20000 in
theorem ggL_areShares_X3_stateOf : GoodIn wsL_areShares wsX3_stateOf := goodIn_ca (goodIn_r _ [170, 6, 76, 17, 18, 19, 4, 20, 21, 22, 23, 24, 25, 26, 27, 28, 206, 207, 208, 209, 210, 211, 212, 213, 214, 215, 216, 217, 218, 219, 220] (by decide +kernel) (by decide +kernel)) (goodIn_sub (fun _ h => List.mem_cons_of_mem _ (List.mem_append_left _ (List.mem_append_right _ h))) (by decide +kernel))
set_option maxRecDepth 20000 in
theorem gL_areShares_X3_stateOf : GoodIn wsL_areShares (wsV RL 58 RX3 yX3_stateOf wsX3_stateOf) := goodIn_app (goodIn_of _ (by decide +kernel)) ggL_areShares_X3_stateOf
set_option maxRecDepth 20000 in
theorem ggL_areShares_X3_shareBySorting : GoodIn wsL_areShares wsX3_shareBySorting := goodIn_ca (goodIn_ca (goodIn_r _ [201, 12, 13, 14, 4, 15, 16, 17, 18, 19, 20, 21, 22, 6, 23, 24, 25, 26, 27, 28, 29, 30, 31, 32, 33, 34, 35, 36, 37, 38, 39, 40, 41, 42, 7, 43, 44, 45, 46, 47, 48, 49, 50, 51, 52, 53, 54, 55, 56, 57, 58, 59, 60, 61, 62, 63, 64, 65, 66, 67, 68, 69, 70, 71, 72, 73, 74, 75, 76, 77, 78, 79, 80, 81, 82, 83, 84, 85, 86, 87, 88, 89, 90, 91, 92, 93, 94, 95, 96, 97, 98, 99, 100, 101, 102, 103, 104, 105, 106, 107, 108, 109, 110, 111, 112, 113, 114, 115, 116, 117, 118, 119, 120, 121, 122, 123, 124, 125, 126, 127, 128, 129, 130, 131, 132, 133, 134, 135, 136, 137, 138, 139, 140, 141, 142, 143, 144, 145, 146, 147, 148, 149, 150, 151, 152, 153, 154, 155, 156, 157, 158, 159, 160, 161, 162, 163, 164, 206, 207, 208, 209, 210, 211, 212, 213, 214, 215, 216, 217, 218, 219, 220, 221, 222, 223, 224, 225, 226, 227, 228, 229, 230, 231, 232, 233] (by decide +kernel) (by decide +kernel)) (goodIn_sub (fun _ h => List.mem_cons_of_mem _ (List.mem_append_left _ (List.mem_append_right _ h))) (by decide +kernel))) (goodIn_sub (fun _ h => List.mem_cons_of_mem _ (List.mem_append_right _ h)) (by decide +kernel))
set_option maxRecDepth 20000 in
theorem gL_areShares_X3_shareBySorting : GoodIn wsL_areShares (wsV RL 83 RX3 yX3_shareBySorting wsX3_shareBySorting) := goodIn_app (goodIn_of _ (by decide +kernel)) ggL_areShares_X3_shareBySorting
set_option maxRecDepth 20000 in
theorem ggL_areShares_X3_gradeOf : GoodIn wsL_areShares wsX3_gradeOf := goodIn_ca (goodIn_r _ [205, 6, 44, 17, 18, 19, 4, 20, 21, 22, 23, 24, 25, 26, 27, 28, 206, 207, 208, 209, 210, 211, 212, 213, 214, 215, 216, 217, 218, 219, 220] (by decide +kernel) (by decide +kernel)) (goodIn_sub (fun _ h => List.mem_cons_of_mem _ (List.mem_append_left _ (List.mem_append_right _ h))) (by decide +kernel))
set_option maxRecDepth 20000 in
theorem gL_areShares_X3_gradeOf : GoodIn wsL_areShares (wsV RL 61 RX3 yX3_gradeOf wsX3_gradeOf) := goodIn_app (goodIn_of _ (by decide +kernel)) ggL_areShares_X3_gradeOf
theorem dL_areShares_0 : decode cL_areShares 0 = .ok (.lconst 0, 1) := by decide +kernel
theorem dL_areShares_1 : decode cL_areShares 1 = .ok (.lstore 5, 2) := by decide +kernel
theorem dL_areShares_3 : decode cL_areShares 3 = .ok (.iconst 0, 1) := by decide +kernel
theorem dL_areShares_4 : decode cL_areShares 4 = .ok (.istore 7, 2) := by decide +kernel
theorem dL_areShares_6 : decode cL_areShares 6 = .ok (.iconst 1, 1) := by decide +kernel
theorem dL_areShares_7 : decode cL_areShares 7 = .ok (.istore 8, 2) := by decide +kernel
theorem dL_areShares_9 : decode cL_areShares 9 = .ok (.iconst 0, 1) := by decide +kernel
theorem dL_areShares_10 : decode cL_areShares 10 = .ok (.istore 9, 2) := by decide +kernel
theorem dL_areShares_12 : decode cL_areShares 12 = .ok (.iload 9, 2) := by decide +kernel
theorem dL_areShares_14 : decode cL_areShares 14 = .ok (.aload_n 0, 1) := by decide +kernel
theorem dL_areShares_15 : decode cL_areShares 15 = .ok (.invokevirtual 103, 3) := by decide +kernel
theorem dL_areShares_18 : decode cL_areShares 18 = .ok (.if_icmp .ge 303, 3) := by decide +kernel
theorem dL_areShares_21 : decode cL_areShares 21 = .ok (.iload 8, 2) := by decide +kernel
theorem dL_areShares_23 : decode cL_areShares 23 = .ok (.ifCond .eq 298, 3) := by decide +kernel
theorem dL_areShares_26 : decode cL_areShares 26 = .ok (.aload_n 0, 1) := by decide +kernel
theorem dL_areShares_27 : decode cL_areShares 27 = .ok (.iload 9, 2) := by decide +kernel
theorem dL_areShares_29 : decode cL_areShares 29 = .ok (.iconst 0, 1) := by decide +kernel
theorem dL_areShares_30 : decode cL_areShares 30 = .ok (.invokevirtual 79, 3) := by decide +kernel
theorem dL_areShares_33 : decode cL_areShares 33 = .ok (.istore 10, 2) := by decide +kernel
theorem dL_areShares_35 : decode cL_areShares 35 = .ok (.aload_n 3, 1) := by decide +kernel
theorem dL_areShares_36 : decode cL_areShares 36 = .ok (.iload 9, 2) := by decide +kernel
theorem dL_areShares_38 : decode cL_areShares 38 = .ok (.aload_n 0, 1) := by decide +kernel
theorem dL_areShares_39 : decode cL_areShares 39 = .ok (.iload 9, 2) := by decide +kernel
theorem dL_areShares_41 : decode cL_areShares 41 = .ok (.invokevirtual 64, 3) := by decide +kernel
theorem dL_areShares_44 : decode cL_areShares 44 = .ok (.iastore, 1) := by decide +kernel
theorem dL_areShares_45 : decode cL_areShares 45 = .ok (.aload_n 0, 1) := by decide +kernel
theorem dL_areShares_46 : decode cL_areShares 46 = .ok (.invokevirtual 95, 3) := by decide +kernel
theorem dL_areShares_49 : decode cL_areShares 49 = .ok (.ifCond .le 32, 3) := by decide +kernel
theorem dL_areShares_52 : decode cL_areShares 52 = .ok (.aload_n 0, 1) := by decide +kernel
theorem dL_areShares_53 : decode cL_areShares 53 = .ok (.iload 9, 2) := by decide +kernel
theorem dL_areShares_55 : decode cL_areShares 55 = .ok (.invokevirtual 58, 3) := by decide +kernel
theorem dL_areShares_58 : decode cL_areShares 58 = .ok (.ifCond .ne 23, 3) := by decide +kernel
theorem dL_areShares_61 : decode cL_areShares 61 = .ok (.aload_n 3, 1) := by decide +kernel
theorem dL_areShares_62 : decode cL_areShares 62 = .ok (.iload 9, 2) := by decide +kernel
theorem dL_areShares_64 : decode cL_areShares 64 = .ok (.iaload, 1) := by decide +kernel
theorem dL_areShares_65 : decode cL_areShares 65 = .ok (.ifCond .le 16, 3) := by decide +kernel
theorem dL_areShares_68 : decode cL_areShares 68 = .ok (.aload_n 0, 1) := by decide +kernel
theorem dL_areShares_69 : decode cL_areShares 69 = .ok (.iload 9, 2) := by decide +kernel
theorem dL_areShares_71 : decode cL_areShares 71 = .ok (.invokestatic 117, 3) := by decide +kernel
theorem dL_areShares_74 : decode cL_areShares 74 = .ok (.ifCond .ne 7, 3) := by decide +kernel
theorem dL_areShares_77 : decode cL_areShares 77 = .ok (.iconst 1, 1) := by decide +kernel
theorem dL_areShares_78 : decode cL_areShares 78 = .ok (.goto 4, 3) := by decide +kernel
theorem dL_areShares_81 : decode cL_areShares 81 = .ok (.iconst 0, 1) := by decide +kernel
theorem dL_areShares_82 : decode cL_areShares 82 = .ok (.istore 11, 2) := by decide +kernel
theorem dL_areShares_84 : decode cL_areShares 84 = .ok (.lload 5, 2) := by decide +kernel
theorem dL_areShares_86 : decode cL_areShares 86 = .ok (.iload 10, 2) := by decide +kernel
theorem dL_areShares_88 : decode cL_areShares 88 = .ok (.i2l, 1) := by decide +kernel
theorem dL_areShares_89 : decode cL_areShares 89 = .ok (.ladd, 1) := by decide +kernel
theorem dL_areShares_90 : decode cL_areShares 90 = .ok (.lstore 5, 2) := by decide +kernel
theorem dL_areShares_92 : decode cL_areShares 92 = .ok (.aload_n 2, 1) := by decide +kernel
theorem dL_areShares_93 : decode cL_areShares 93 = .ok (.iload 9, 2) := by decide +kernel
theorem dL_areShares_95 : decode cL_areShares 95 = .ok (.iload 11, 2) := by decide +kernel
theorem dL_areShares_97 : decode cL_areShares 97 = .ok (.ifCond .eq 8, 3) := by decide +kernel
theorem dL_areShares_100 : decode cL_areShares 100 = .ok (.iload 10, 2) := by decide +kernel
theorem dL_areShares_102 : decode cL_areShares 102 = .ok (.goto 4, 3) := by decide +kernel
theorem dL_areShares_105 : decode cL_areShares 105 = .ok (.iconst (-1), 1) := by decide +kernel
theorem dL_areShares_106 : decode cL_areShares 106 = .ok (.iastore, 1) := by decide +kernel
theorem dL_areShares_107 : decode cL_areShares 107 = .ok (.iload 7, 2) := by decide +kernel
theorem dL_areShares_109 : decode cL_areShares 109 = .ok (.ifCond .ne 17, 3) := by decide +kernel
theorem dL_areShares_112 : decode cL_areShares 112 = .ok (.iload 11, 2) := by decide +kernel
theorem dL_areShares_114 : decode cL_areShares 114 = .ok (.ifCond .eq 16, 3) := by decide +kernel
theorem dL_areShares_117 : decode cL_areShares 117 = .ok (.iload 10, 2) := by decide +kernel
theorem dL_areShares_119 : decode cL_areShares 119 = .ok (.aload_n 3, 1) := by decide +kernel
theorem dL_areShares_120 : decode cL_areShares 120 = .ok (.iload 9, 2) := by decide +kernel
theorem dL_areShares_122 : decode cL_areShares 122 = .ok (.iaload, 1) := by decide +kernel
theorem dL_areShares_123 : decode cL_areShares 123 = .ok (.if_icmp .ge 7, 3) := by decide +kernel
theorem dL_areShares_126 : decode cL_areShares 126 = .ok (.iconst 1, 1) := by decide +kernel
theorem dL_areShares_127 : decode cL_areShares 127 = .ok (.goto 4, 3) := by decide +kernel
theorem dL_areShares_130 : decode cL_areShares 130 = .ok (.iconst 0, 1) := by decide +kernel
theorem dL_areShares_131 : decode cL_areShares 131 = .ok (.istore 7, 2) := by decide +kernel
theorem dL_areShares_133 : decode cL_areShares 133 = .ok (.iload 10, 2) := by decide +kernel
theorem dL_areShares_135 : decode cL_areShares 135 = .ok (.ifCond .lt 49, 3) := by decide +kernel
theorem dL_areShares_138 : decode cL_areShares 138 = .ok (.iload 10, 2) := by decide +kernel
theorem dL_areShares_140 : decode cL_areShares 140 = .ok (.aload_n 3, 1) := by decide +kernel
theorem dL_areShares_141 : decode cL_areShares 141 = .ok (.iload 9, 2) := by decide +kernel
theorem dL_areShares_143 : decode cL_areShares 143 = .ok (.iaload, 1) := by decide +kernel
theorem dL_areShares_144 : decode cL_areShares 144 = .ok (.if_icmp .gt 40, 3) := by decide +kernel
theorem dL_areShares_147 : decode cL_areShares 147 = .ok (.iload 11, 2) := by decide +kernel
theorem dL_areShares_149 : decode cL_areShares 149 = .ok (.ifCond .ne 8, 3) := by decide +kernel
theorem dL_areShares_152 : decode cL_areShares 152 = .ok (.iload 10, 2) := by decide +kernel
theorem dL_areShares_154 : decode cL_areShares 154 = .ok (.ifCond .ne 30, 3) := by decide +kernel
theorem dL_areShares_157 : decode cL_areShares 157 = .ok (.iload 9, 2) := by decide +kernel
theorem dL_areShares_159 : decode cL_areShares 159 = .ok (.iconst 4, 1) := by decide +kernel
theorem dL_areShares_160 : decode cL_areShares 160 = .ok (.irem, 1) := by decide +kernel
theorem dL_areShares_161 : decode cL_areShares 161 = .ok (.iload 4, 2) := by decide +kernel
theorem dL_areShares_163 : decode cL_areShares 163 = .ok (.iconst 4, 1) := by decide +kernel
theorem dL_areShares_164 : decode cL_areShares 164 = .ok (.irem, 1) := by decide +kernel
theorem dL_areShares_165 : decode cL_areShares 165 = .ok (.if_icmp .ne 15, 3) := by decide +kernel
theorem dL_areShares_168 : decode cL_areShares 168 = .ok (.aload_n 0, 1) := by decide +kernel
