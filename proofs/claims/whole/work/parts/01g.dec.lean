theorem dL_setFund_0 : decode cL_setFund 0 = .ok (.aload 4, 2) := by decide +kernel
theorem dL_setFund_2 : decode cL_setFund 2 = .ok (.iconst 0, 1) := by decide +kernel
theorem dL_setFund_3 : decode cL_setFund 3 = .ok (.aload_n 0, 1) := by decide +kernel
theorem dL_setFund_4 : decode cL_setFund 4 = .ok (.iload_n 1, 1) := by decide +kernel
theorem dL_setFund_5 : decode cL_setFund 5 = .ok (.iload_n 2, 1) := by decide +kernel
theorem dL_setFund_6 : decode cL_setFund 6 = .ok (.iload_n 3, 1) := by decide +kernel
theorem dL_setFund_7 : decode cL_setFund 7 = .ok (.invokevirtual 7, 3) := by decide +kernel
theorem dL_setFund_10 : decode cL_setFund 10 = .ok (.i2l, 1) := by decide +kernel
theorem dL_setFund_11 : decode cL_setFund 11 = .ok (.lastore, 1) := by decide +kernel
theorem dL_setFund_12 : decode cL_setFund 12 = .ok (.goto 11, 3) := by decide +kernel
theorem dL_setFund_15 : decode cL_setFund 15 = .ok (.astore 5, 2) := by decide +kernel
theorem dL_setFund_17 : decode cL_setFund 17 = .ok (.iconst 1, 1) := by decide +kernel
theorem dL_setFund_18 : decode cL_setFund 18 = .ok (.ireturn, 1) := by decide +kernel
theorem dL_setFund_19 : decode cL_setFund 19 = .ok (.astore 5, 2) := by decide +kernel
theorem dL_setFund_21 : decode cL_setFund 21 = .ok (.iconst 2, 1) := by decide +kernel
theorem dL_setFund_22 : decode cL_setFund 22 = .ok (.ireturn, 1) := by decide +kernel
theorem dL_setFund_23 : decode cL_setFund 23 = .ok (.iconst 0, 1) := by decide +kernel
theorem dL_setFund_24 : decode cL_setFund 24 = .ok (.ireturn, 1) := by decide +kernel
set_option maxRecDepth 20000 in
theorem ggL_setGrade_X3_setGrade : GoodIn wsL_setGrade wsX3_setGrade := goodIn_ca (goodIn_ca (goodIn_ca (goodIn_r _ [8, 9, 10, 11, 12, 13, 14, 15, 16, 17, 7, 18, 19, 20, 21, 22, 23, 24, 25, 26, 27, 28, 29, 30, 31, 32, 33, 34, 35, 36, 37, 38, 39, 40] (by decide +kernel) (by decide +kernel)) (goodIn_sub (fun _ h => List.mem_cons_of_mem _ (List.mem_append_left _ (List.mem_append_left _ (List.mem_append_right _ h)))) (by decide +kernel))) (goodIn_sub (fun _ h => List.mem_cons_of_mem _ (List.mem_append_left _ (List.mem_append_right _ h))) (by decide +kernel))) (goodIn_sub (fun _ h => List.mem_cons_of_mem _ (List.mem_append_right _ h)) (by decide +kernel))
set_option maxRecDepth 20000 in
theorem gL_setGrade_X3_setGrade : GoodIn wsL_setGrade (wsV RL 17 RX3 yX3_setGrade wsX3_setGrade) := goodIn_app (goodIn_of _ (by decide +kernel)) ggL_setGrade_X3_setGrade
theorem dL_setGrade_0 : decode cL_setGrade 0 = .ok (.aload_n 0, 1) := by decide +kernel
theorem dL_setGrade_1 : decode cL_setGrade 1 = .ok (.iload_n 1, 1) := by decide +kernel
theorem dL_setGrade_2 : decode cL_setGrade 2 = .ok (.iload_n 2, 1) := by decide +kernel
theorem dL_setGrade_3 : decode cL_setGrade 3 = .ok (.iload_n 3, 1) := by decide +kernel
theorem dL_setGrade_4 : decode cL_setGrade 4 = .ok (.invokevirtual 17, 3) := by decide +kernel
theorem dL_setGrade_7 : decode cL_setGrade 7 = .ok (.goto 15, 3) := by decide +kernel
theorem dL_setGrade_10 : decode cL_setGrade 10 = .ok (.astore 4, 2) := by decide +kernel
theorem dL_setGrade_12 : decode cL_setGrade 12 = .ok (.iconst 1, 1) := by decide +kernel
theorem dL_setGrade_13 : decode cL_setGrade 13 = .ok (.ireturn, 1) := by decide +kernel
theorem dL_setGrade_14 : decode cL_setGrade 14 = .ok (.astore 4, 2) := by decide +kernel
theorem dL_setGrade_16 : decode cL_setGrade 16 = .ok (.iconst 2, 1) := by decide +kernel
theorem dL_setGrade_17 : decode cL_setGrade 17 = .ok (.ireturn, 1) := by decide +kernel
theorem dL_setGrade_18 : decode cL_setGrade 18 = .ok (.astore 4, 2) := by decide +kernel
theorem dL_setGrade_20 : decode cL_setGrade 20 = .ok (.iconst 3, 1) := by decide +kernel
theorem dL_setGrade_21 : decode cL_setGrade 21 = .ok (.ireturn, 1) := by decide +kernel
theorem dL_setGrade_22 : decode cL_setGrade 22 = .ok (.iconst 0, 1) := by decide +kernel
theorem dL_setGrade_23 : decode cL_setGrade 23 = .ok (.ireturn, 1) := by decide +kernel
set_option maxRecDepth 20000 in
theorem ggL_pass_X3_pass : GoodIn wsL_pass wsX3_pass := goodIn_ca (goodIn_r _ [6, 7, 8, 9, 10, 11, 12, 13, 5, 14, 15, 16, 17, 18, 19, 20, 21, 22, 23, 24, 25, 26, 27, 28, 29, 30, 31, 32, 33, 34, 35, 36, 37, 38, 39, 40, 41, 42, 43, 44, 45, 46, 47, 48, 49, 50] (by decide +kernel) (by decide +kernel)) (goodIn_sub (fun _ h => List.mem_cons_of_mem _ (List.mem_append_right _ h)) (by decide +kernel))
set_option maxRecDepth 20000 in
theorem gL_pass_X3_pass : GoodIn wsL_pass (wsV RL 23 RX3 yX3_pass wsX3_pass) := goodIn_app (goodIn_of _ (by decide +kernel)) ggL_pass_X3_pass
theorem dL_pass_0 : decode cL_pass 0 = .ok (.aload_n 2, 1) := by decide +kernel
theorem dL_pass_1 : decode cL_pass 1 = .ok (.iconst 0, 1) := by decide +kernel
theorem dL_pass_2 : decode cL_pass 2 = .ok (.aload_n 0, 1) := by decide +kernel
theorem dL_pass_3 : decode cL_pass 3 = .ok (.iload_n 1, 1) := by decide +kernel
theorem dL_pass_4 : decode cL_pass 4 = .ok (.invokevirtual 23, 3) := by decide +kernel
theorem dL_pass_7 : decode cL_pass 7 = .ok (.i2l, 1) := by decide +kernel
theorem dL_pass_8 : decode cL_pass 8 = .ok (.lastore, 1) := by decide +kernel
theorem dL_pass_9 : decode cL_pass 9 = .ok (.goto 6, 3) := by decide +kernel
theorem dL_pass_12 : decode cL_pass 12 = .ok (.astore_n 3, 1) := by decide +kernel
theorem dL_pass_13 : decode cL_pass 13 = .ok (.iconst 1, 1) := by decide +kernel
theorem dL_pass_14 : decode cL_pass 14 = .ok (.ireturn, 1) := by decide +kernel
theorem dL_pass_15 : decode cL_pass 15 = .ok (.iconst 0, 1) := by decide +kernel
theorem dL_pass_16 : decode cL_pass 16 = .ok (.ireturn, 1) := by decide +kernel
set_option maxRecDepth 20000 in
theorem ggL_claim_X3_claim : GoodIn wsL_claim wsX3_claim := goodIn_ca (goodIn_ca (goodIn_ca (goodIn_r _ [8, 9, 10, 11, 12, 13, 14, 15, 16, 17, 18, 19, 7, 20, 21, 22, 23, 24, 25, 26, 27, 28, 29, 30, 31, 32, 33, 34, 35, 36, 37, 38, 39, 40, 41, 42, 43, 44, 45, 46, 47, 48, 49, 50, 51, 52, 53, 54, 55, 56, 57, 58, 59, 60, 61] (by decide +kernel) (by decide +kernel)) (goodIn_sub (fun _ h => List.mem_cons_of_mem _ (List.mem_append_left _ (List.mem_append_left _ (List.mem_append_right _ h)))) (by decide +kernel))) (goodIn_sub (fun _ h => List.mem_cons_of_mem _ (List.mem_append_left _ (List.mem_append_right _ h))) (by decide +kernel))) (goodIn_sub (fun _ h => List.mem_cons_of_mem _ (List.mem_append_right _ h)) (by decide +kernel))
set_option maxRecDepth 20000 in
theorem gL_claim_X3_claim : GoodIn wsL_claim (wsV RL 27 RX3 yX3_claim wsX3_claim) := goodIn_app (goodIn_of _ (by decide +kernel)) ggL_claim_X3_claim
theorem dL_claim_0 : decode cL_claim 0 = .ok (.aload 5, 2) := by decide +kernel
theorem dL_claim_2 : decode cL_claim 2 = .ok (.iconst 0, 1) := by decide +kernel
theorem dL_claim_3 : decode cL_claim 3 = .ok (.aload_n 0, 1) := by decide +kernel
theorem dL_claim_4 : decode cL_claim 4 = .ok (.iload_n 1, 1) := by decide +kernel
theorem dL_claim_5 : decode cL_claim 5 = .ok (.iload_n 2, 1) := by decide +kernel
theorem dL_claim_6 : decode cL_claim 6 = .ok (.iload_n 3, 1) := by decide +kernel
theorem dL_claim_7 : decode cL_claim 7 = .ok (.iload 4, 2) := by decide +kernel
theorem dL_claim_9 : decode cL_claim 9 = .ok (.invokevirtual 27, 3) := by decide +kernel
theorem dL_claim_12 : decode cL_claim 12 = .ok (.i2l, 1) := by decide +kernel
theorem dL_claim_13 : decode cL_claim 13 = .ok (.lastore, 1) := by decide +kernel
theorem dL_claim_14 : decode cL_claim 14 = .ok (.goto 15, 3) := by decide +kernel
theorem dL_claim_17 : decode cL_claim 17 = .ok (.astore 6, 2) := by decide +kernel
theorem dL_claim_19 : decode cL_claim 19 = .ok (.iconst 1, 1) := by decide +kernel
theorem dL_claim_20 : decode cL_claim 20 = .ok (.ireturn, 1) := by decide +kernel
theorem dL_claim_21 : decode cL_claim 21 = .ok (.astore 6, 2) := by decide +kernel
theorem dL_claim_23 : decode cL_claim 23 = .ok (.iconst 2, 1) := by decide +kernel
theorem dL_claim_24 : decode cL_claim 24 = .ok (.ireturn, 1) := by decide +kernel
theorem dL_claim_25 : decode cL_claim 25 = .ok (.astore 6, 2) := by decide +kernel
theorem dL_claim_27 : decode cL_claim 27 = .ok (.iconst 3, 1) := by decide +kernel
theorem dL_claim_28 : decode cL_claim 28 = .ok (.ireturn, 1) := by decide +kernel
theorem dL_claim_29 : decode cL_claim 29 = .ok (.iconst 0, 1) := by decide +kernel
theorem dL_claim_30 : decode cL_claim 30 = .ok (.ireturn, 1) := by decide +kernel
set_option maxRecDepth 20000 in
theorem ggL_cure_X3_cure : GoodIn wsL_cure wsX3_cure := goodIn_ca (goodIn_ca (goodIn_r _ [7, 8, 9, 10, 11, 12, 13, 14, 15, 16, 6, 17, 18, 19, 20, 21, 22, 23, 24, 25, 26, 27, 28, 29, 30, 31, 32, 33, 34, 35, 36, 37, 38, 39, 40] (by decide +kernel) (by decide +kernel)) (goodIn_sub (fun _ h => List.mem_cons_of_mem _ (List.mem_append_left _ (List.mem_append_right _ h))) (by decide +kernel))) (goodIn_sub (fun _ h => List.mem_cons_of_mem _ (List.mem_append_right _ h)) (by decide +kernel))
set_option maxRecDepth 20000 in
theorem gL_cure_X3_cure : GoodIn wsL_cure (wsV RL 31 RX3 yX3_cure wsX3_cure) := goodIn_app (goodIn_of _ (by decide +kernel)) ggL_cure_X3_cure
theorem dL_cure_0 : decode cL_cure 0 = .ok (.aload_n 2, 1) := by decide +kernel
theorem dL_cure_1 : decode cL_cure 1 = .ok (.iconst 0, 1) := by decide +kernel
theorem dL_cure_2 : decode cL_cure 2 = .ok (.aload_n 0, 1) := by decide +kernel
theorem dL_cure_3 : decode cL_cure 3 = .ok (.iload_n 1, 1) := by decide +kernel
theorem dL_cure_4 : decode cL_cure 4 = .ok (.invokevirtual 31, 3) := by decide +kernel
theorem dL_cure_7 : decode cL_cure 7 = .ok (.i2l, 1) := by decide +kernel
theorem dL_cure_8 : decode cL_cure 8 = .ok (.lastore, 1) := by decide +kernel
theorem dL_cure_9 : decode cL_cure 9 = .ok (.goto 9, 3) := by decide +kernel
theorem dL_cure_12 : decode cL_cure 12 = .ok (.astore_n 3, 1) := by decide +kernel
theorem dL_cure_13 : decode cL_cure 13 = .ok (.iconst 1, 1) := by decide +kernel
theorem dL_cure_14 : decode cL_cure 14 = .ok (.ireturn, 1) := by decide +kernel
theorem dL_cure_15 : decode cL_cure 15 = .ok (.astore_n 3, 1) := by decide +kernel
theorem dL_cure_16 : decode cL_cure 16 = .ok (.iconst 2, 1) := by decide +kernel
theorem dL_cure_17 : decode cL_cure 17 = .ok (.ireturn, 1) := by decide +kernel
theorem dL_cure_18 : decode cL_cure 18 = .ok (.iconst 0, 1) := by decide +kernel
theorem dL_cure_19 : decode cL_cure 19 = .ok (.ireturn, 1) := by decide +kernel
set_option maxRecDepth 20000 in
theorem ggL_deny_X3_deny : GoodIn wsL_deny wsX3_deny := goodIn_ca (goodIn_ca (goodIn_r _ [7, 8, 9, 10, 11, 12, 13, 14, 6, 15, 16, 17, 18, 19, 20, 21, 22, 23, 24, 25, 26, 27, 28, 29, 30, 31, 32, 33, 34, 35, 36, 37, 38] (by decide +kernel) (by decide +kernel)) (goodIn_sub (fun _ h => List.mem_cons_of_mem _ (List.mem_append_left _ (List.mem_append_right _ h))) (by decide +kernel))) (goodIn_sub (fun _ h => List.mem_cons_of_mem _ (List.mem_append_right _ h)) (by decide +kernel))
set_option maxRecDepth 20000 in
theorem gL_deny_X3_deny : GoodIn wsL_deny (wsV RL 34 RX3 yX3_deny wsX3_deny) := goodIn_app (goodIn_of _ (by decide +kernel)) ggL_deny_X3_deny
theorem dL_deny_0 : decode cL_deny 0 = .ok (.aload_n 2, 1) := by decide +kernel
theorem dL_deny_1 : decode cL_deny 1 = .ok (.iconst 0, 1) := by decide +kernel
theorem dL_deny_2 : decode cL_deny 2 = .ok (.aload_n 0, 1) := by decide +kernel
theorem dL_deny_3 : decode cL_deny 3 = .ok (.iload_n 1, 1) := by decide +kernel
theorem dL_deny_4 : decode cL_deny 4 = .ok (.invokevirtual 34, 3) := by decide +kernel
theorem dL_deny_7 : decode cL_deny 7 = .ok (.i2l, 1) := by decide +kernel
theorem dL_deny_8 : decode cL_deny 8 = .ok (.lastore, 1) := by decide +kernel
theorem dL_deny_9 : decode cL_deny 9 = .ok (.goto 9, 3) := by decide +kernel
theorem dL_deny_12 : decode cL_deny 12 = .ok (.astore_n 3, 1) := by decide +kernel
theorem dL_deny_13 : decode cL_deny 13 = .ok (.iconst 1, 1) := by decide +kernel
theorem dL_deny_14 : decode cL_deny 14 = .ok (.ireturn, 1) := by decide +kernel
theorem dL_deny_15 : decode cL_deny 15 = .ok (.astore_n 3, 1) := by decide +kernel
theorem dL_deny_16 : decode cL_deny 16 = .ok (.iconst 2, 1) := by decide +kernel
theorem dL_deny_17 : decode cL_deny 17 = .ok (.ireturn, 1) := by decide +kernel
theorem dL_deny_18 : decode cL_deny 18 = .ok (.iconst 0, 1) := by decide +kernel
theorem dL_deny_19 : decode cL_deny 19 = .ok (.ireturn, 1) := by decide +kernel
set_option maxRecDepth 20000 in
theorem ggL_object_X3_object : GoodIn wsL_object wsX3_object := goodIn_ca (goodIn_ca (goodIn_r _ [7, 8, 9, 10, 11, 12, 13, 14, 15, 6, 16, 17, 18, 19, 20, 21, 22, 23, 24, 25, 26, 27, 28, 29, 30, 31, 32, 33, 34, 35, 36, 37, 38, 39, 40, 41, 42, 43, 44] (by decide +kernel) (by decide +kernel)) (goodIn_sub (fun _ h => List.mem_cons_of_mem _ (List.mem_append_left _ (List.mem_append_right _ h))) (by decide +kernel))) (goodIn_sub (fun _ h => List.mem_cons_of_mem _ (List.mem_append_right _ h)) (by decide +kernel))
set_option maxRecDepth 20000 in
theorem gL_object_X3_object : GoodIn wsL_object (wsV RL 37 RX3 yX3_object wsX3_object) := goodIn_app (goodIn_of _ (by decide +kernel)) ggL_object_X3_object
theorem dL_object_0 : decode cL_object 0 = .ok (.aload_n 2, 1) := by decide +kernel
theorem dL_object_1 : decode cL_object 1 = .ok (.iconst 0, 1) := by decide +kernel
theorem dL_object_2 : decode cL_object 2 = .ok (.aload_n 0, 1) := by decide +kernel
theorem dL_object_3 : decode cL_object 3 = .ok (.iload_n 1, 1) := by decide +kernel
theorem dL_object_4 : decode cL_object 4 = .ok (.invokevirtual 37, 3) := by decide +kernel
theorem dL_object_7 : decode cL_object 7 = .ok (.i2l, 1) := by decide +kernel
theorem dL_object_8 : decode cL_object 8 = .ok (.lastore, 1) := by decide +kernel
theorem dL_object_9 : decode cL_object 9 = .ok (.goto 9, 3) := by decide +kernel
theorem dL_object_12 : decode cL_object 12 = .ok (.astore_n 3, 1) := by decide +kernel
theorem dL_object_13 : decode cL_object 13 = .ok (.iconst 1, 1) := by decide +kernel
theorem dL_object_14 : decode cL_object 14 = .ok (.ireturn, 1) := by decide +kernel
theorem dL_object_15 : decode cL_object 15 = .ok (.astore_n 3, 1) := by decide +kernel
theorem dL_object_16 : decode cL_object 16 = .ok (.iconst 2, 1) := by decide +kernel
theorem dL_object_17 : decode cL_object 17 = .ok (.ireturn, 1) := by decide +kernel
theorem dL_object_18 : decode cL_object 18 = .ok (.iconst 0, 1) := by decide +kernel
theorem dL_object_19 : decode cL_object 19 = .ok (.ireturn, 1) := by decide +kernel
set_option maxRecDepth 20000 in
theorem ggL_decide_X3_decide : GoodIn wsL_decide wsX3_decide := goodIn_ca (goodIn_ca (goodIn_r _ [7, 8, 9, 10, 11, 12, 13, 14, 6, 15, 16, 17, 18, 19, 20, 21, 22, 23, 24, 25, 26, 27, 28, 29, 30, 31, 32, 33, 34, 35, 36, 37, 38, 39, 40, 41, 42, 43] (by decide +kernel) (by decide +kernel)) (goodIn_sub (fun _ h => List.mem_cons_of_mem _ (List.mem_append_left _ (List.mem_append_right _ h))) (by decide +kernel))) (goodIn_sub (fun _ h => List.mem_cons_of_mem _ (List.mem_append_right _ h)) (by decide +kernel))
set_option maxRecDepth 20000 in
theorem gL_decide_X3_decide : GoodIn wsL_decide (wsV RL 40 RX3 yX3_decide wsX3_decide) := goodIn_app (goodIn_of _ (by decide +kernel)) ggL_decide_X3_decide
theorem dL_decide_0 : decode cL_decide 0 = .ok (.aload_n 3, 1) := by decide +kernel
theorem dL_decide_1 : decode cL_decide 1 = .ok (.iconst 0, 1) := by decide +kernel
theorem dL_decide_2 : decode cL_decide 2 = .ok (.aload_n 0, 1) := by decide +kernel
theorem dL_decide_3 : decode cL_decide 3 = .ok (.iload_n 1, 1) := by decide +kernel
theorem dL_decide_4 : decode cL_decide 4 = .ok (.iload_n 2, 1) := by decide +kernel
theorem dL_decide_5 : decode cL_decide 5 = .ok (.invokevirtual 40, 3) := by decide +kernel
theorem dL_decide_8 : decode cL_decide 8 = .ok (.i2l, 1) := by decide +kernel
theorem dL_decide_9 : decode cL_decide 9 = .ok (.lastore, 1) := by decide +kernel
theorem dL_decide_10 : decode cL_decide 10 = .ok (.goto 11, 3) := by decide +kernel
theorem dL_decide_13 : decode cL_decide 13 = .ok (.astore 4, 2) := by decide +kernel
theorem dL_decide_15 : decode cL_decide 15 = .ok (.iconst 1, 1) := by decide +kernel
theorem dL_decide_16 : decode cL_decide 16 = .ok (.ireturn, 1) := by decide +kernel
theorem dL_decide_17 : decode cL_decide 17 = .ok (.astore 4, 2) := by decide +kernel
theorem dL_decide_19 : decode cL_decide 19 = .ok (.iconst 2, 1) := by decide +kernel
theorem dL_decide_20 : decode cL_decide 20 = .ok (.ireturn, 1) := by decide +kernel
theorem dL_decide_21 : decode cL_decide 21 = .ok (.iconst 0, 1) := by decide +kernel
theorem dL_decide_22 : decode cL_decide 22 = .ok (.ireturn, 1) := by decide +kernel
set_option maxRecDepth 20000 in
theorem ggL_round_X3_round : GoodIn wsL_round wsX3_round := goodIn_ca (goodIn_ca (goodIn_ca (goodIn_r _ [7, 8, 9, 10, 11, 12, 13, 14, 15, 6, 16, 17, 18, 19, 20, 21, 22, 23, 24, 25, 26, 27, 28, 29, 30, 31, 32, 33, 34, 35, 36, 37, 38, 39, 40, 41, 42, 43, 44, 45, 46, 47, 48, 49, 50, 51, 52, 53, 54, 55, 56, 57, 58, 59, 60, 61, 62, 63, 64, 65, 66, 67, 68, 69, 70, 71, 72, 73, 74, 75, 76, 77, 78, 79, 80, 81, 82, 83, 84, 85, 86, 87, 88, 89, 90, 91, 92, 93, 94, 95, 96, 97, 98, 99, 100, 101, 102, 103, 104, 105, 106, 107, 108, 109, 110, 111, 112, 113, 114, 115, 116, 117, 118, 119, 120, 121, 122, 123, 124, 125, 126, 127, 128, 129, 130, 131, 132, 133, 134, 135, 136, 137, 138, 139, 140, 141, 142, 143, 144, 145, 146, 147, 148, 149, 150, 151, 152, 153, 154, 155, 156, 157, 158, 159, 160, 161, 162, 163, 164, 165, 166, 167, 168, 169, 170, 171, 172, 173, 174, 175, 176, 177, 178, 179, 180, 181, 182, 183, 184, 185, 186, 187, 188, 189, 190, 191, 192, 193, 194, 195, 196, 197, 198, 199, 200, 201, 202, 203, 204, 205, 206, 207, 208, 209, 210, 211, 212, 213, 214, 215, 216] (by decide +kernel) (by decide +kernel)) (goodIn_sub (fun _ h => List.mem_cons_of_mem _ (List.mem_append_left _ (List.mem_append_left _ (List.mem_append_right _ h)))) (by decide +kernel))) (goodIn_sub (fun _ h => List.mem_cons_of_mem _ (List.mem_append_left _ (List.mem_append_right _ h))) (by decide +kernel))) (goodIn_sub (fun _ h => List.mem_cons_of_mem _ (List.mem_append_right _ h)) (by decide +kernel))
set_option maxRecDepth 20000 in
theorem gL_round_X3_round : GoodIn wsL_round (wsV RL 44 RX3 yX3_round wsX3_round) := goodIn_app (goodIn_of _ (by decide +kernel)) ggL_round_X3_round
theorem dL_round_0 : decode cL_round 0 = .ok (.aload_n 2, 1) := by decide +kernel
theorem dL_round_1 : decode cL_round 1 = .ok (.iconst 0, 1) := by decide +kernel
theorem dL_round_2 : decode cL_round 2 = .ok (.aload_n 0, 1) := by decide +kernel
theorem dL_round_3 : decode cL_round 3 = .ok (.iload_n 1, 1) := by decide +kernel
theorem dL_round_4 : decode cL_round 4 = .ok (.invokevirtual 44, 3) := by decide +kernel
theorem dL_round_7 : decode cL_round 7 = .ok (.i2l, 1) := by decide +kernel
theorem dL_round_8 : decode cL_round 8 = .ok (.lastore, 1) := by decide +kernel
theorem dL_round_9 : decode cL_round 9 = .ok (.goto 9, 3) := by decide +kernel
theorem dL_round_12 : decode cL_round 12 = .ok (.astore_n 3, 1) := by decide +kernel
theorem dL_round_13 : decode cL_round 13 = .ok (.iconst 1, 1) := by decide +kernel
theorem dL_round_14 : decode cL_round 14 = .ok (.ireturn, 1) := by decide +kernel
theorem dL_round_15 : decode cL_round 15 = .ok (.astore_n 3, 1) := by decide +kernel
theorem dL_round_16 : decode cL_round 16 = .ok (.iconst 2, 1) := by decide +kernel
theorem dL_round_17 : decode cL_round 17 = .ok (.ireturn, 1) := by decide +kernel
theorem dL_round_18 : decode cL_round 18 = .ok (.iconst 0, 1) := by decide +kernel
theorem dL_round_19 : decode cL_round 19 = .ok (.ireturn, 1) := by decide +kernel
set_option maxRecDepth 20000 in
theorem ggL_cash_X3_cash : GoodIn wsL_cash wsX3_cash := goodIn_ca (goodIn_ca (goodIn_r _ [7, 8, 9, 10, 11, 12, 13, 14, 15, 6, 16, 17, 18, 19, 20, 21, 22, 23, 24, 25, 26, 27, 28, 29, 30, 31, 32, 33, 34, 35, 36, 37, 38] (by decide +kernel) (by decide +kernel)) (goodIn_sub (fun _ h => List.mem_cons_of_mem _ (List.mem_append_left _ (List.mem_append_right _ h))) (by decide +kernel))) (goodIn_sub (fun _ h => List.mem_cons_of_mem _ (List.mem_append_right _ h)) (by decide +kernel))
set_option maxRecDepth 20000 in
theorem gL_cash_X3_cash : GoodIn wsL_cash (wsV RL 47 RX3 yX3_cash wsX3_cash) := goodIn_app (goodIn_of _ (by decide +kernel)) ggL_cash_X3_cash
theorem dL_cash_0 : decode cL_cash 0 = .ok (.aload_n 2, 1) := by decide +kernel
theorem dL_cash_1 : decode cL_cash 1 = .ok (.iconst 0, 1) := by decide +kernel
theorem dL_cash_2 : decode cL_cash 2 = .ok (.aload_n 0, 1) := by decide +kernel
theorem dL_cash_3 : decode cL_cash 3 = .ok (.iload_n 1, 1) := by decide +kernel
theorem dL_cash_4 : decode cL_cash 4 = .ok (.invokevirtual 47, 3) := by decide +kernel
theorem dL_cash_7 : decode cL_cash 7 = .ok (.i2l, 1) := by decide +kernel
theorem dL_cash_8 : decode cL_cash 8 = .ok (.lastore, 1) := by decide +kernel
theorem dL_cash_9 : decode cL_cash 9 = .ok (.goto 9, 3) := by decide +kernel
theorem dL_cash_12 : decode cL_cash 12 = .ok (.astore_n 3, 1) := by decide +kernel
theorem dL_cash_13 : decode cL_cash 13 = .ok (.iconst 1, 1) := by decide +kernel
theorem dL_cash_14 : decode cL_cash 14 = .ok (.ireturn, 1) := by decide +kernel
theorem dL_cash_15 : decode cL_cash 15 = .ok (.astore_n 3, 1) := by decide +kernel
theorem dL_cash_16 : decode cL_cash 16 = .ok (.iconst 2, 1) := by decide +kernel
theorem dL_cash_17 : decode cL_cash 17 = .ok (.ireturn, 1) := by decide +kernel
theorem dL_cash_18 : decode cL_cash 18 = .ok (.iconst 0, 1) := by decide +kernel
theorem dL_cash_19 : decode cL_cash 19 = .ok (.ireturn, 1) := by decide +kernel
set_option maxRecDepth 20000 in
theorem ggL_claimOf_X3_claimOf : GoodIn wsL_claimOf wsX3_claimOf := goodIn_ca (goodIn_r _ [6, 7, 8, 9, 10, 11, 12, 5, 13, 14, 15, 16, 17, 18, 19, 20, 21, 22, 23, 24, 25, 26, 27, 28] (by decide +kernel) (by decide +kernel)) (goodIn_sub (fun _ h => List.mem_cons_of_mem _ (List.mem_append_right _ h)) (by decide +kernel))
set_option maxRecDepth 20000 in
theorem gL_claimOf_X3_claimOf : GoodIn wsL_claimOf (wsV RL 50 RX3 yX3_claimOf wsX3_claimOf) := goodIn_app (goodIn_of _ (by decide +kernel)) ggL_claimOf_X3_claimOf
theorem dL_claimOf_0 : decode cL_claimOf 0 = .ok (.aload_n 2, 1) := by decide +kernel
theorem dL_claimOf_1 : decode cL_claimOf 1 = .ok (.iconst 0, 1) := by decide +kernel
theorem dL_claimOf_2 : decode cL_claimOf 2 = .ok (.aload_n 0, 1) := by decide +kernel
theorem dL_claimOf_3 : decode cL_claimOf 3 = .ok (.iload_n 1, 1) := by decide +kernel
theorem dL_claimOf_4 : decode cL_claimOf 4 = .ok (.invokevirtual 50, 3) := by decide +kernel
theorem dL_claimOf_7 : decode cL_claimOf 7 = .ok (.i2l, 1) := by decide +kernel
theorem dL_claimOf_8 : decode cL_claimOf 8 = .ok (.lastore, 1) := by decide +kernel
theorem dL_claimOf_9 : decode cL_claimOf 9 = .ok (.goto 6, 3) := by decide +kernel
theorem dL_claimOf_12 : decode cL_claimOf 12 = .ok (.astore_n 3, 1) := by decide +kernel
theorem dL_claimOf_13 : decode cL_claimOf 13 = .ok (.iconst 1, 1) := by decide +kernel
theorem dL_claimOf_14 : decode cL_claimOf 14 = .ok (.ireturn, 1) := by decide +kernel
theorem dL_claimOf_15 : decode cL_claimOf 15 = .ok (.iconst 0, 1) := by decide +kernel
theorem dL_claimOf_16 : decode cL_claimOf 16 = .ok (.ireturn, 1) := by decide +kernel
set_option maxRecDepth 20000 in
theorem ggL_stateOf_X3_stateOf : GoodIn wsL_stateOf wsX3_stateOf := goodIn_ca (goodIn_r _ [6, 7, 8, 9, 10, 11, 5, 12, 13, 14, 15, 16, 17, 18, 19, 20, 21, 22, 23, 24, 25, 26, 27, 28, 29, 30, 31, 32, 33, 34, 35] (by decide +kernel) (by decide +kernel)) (goodIn_sub (fun _ h => List.mem_cons_of_mem _ (List.mem_append_right _ h)) (by decide +kernel))
set_option maxRecDepth 20000 in
theorem gL_stateOf_X3_stateOf : GoodIn wsL_stateOf (wsV RL 53 RX3 yX3_stateOf wsX3_stateOf) := goodIn_app (goodIn_of _ (by decide +kernel)) ggL_stateOf_X3_stateOf
theorem dL_stateOf_0 : decode cL_stateOf 0 = .ok (.aload_n 2, 1) := by decide +kernel
theorem dL_stateOf_1 : decode cL_stateOf 1 = .ok (.iconst 0, 1) := by decide +kernel
theorem dL_stateOf_2 : decode cL_stateOf 2 = .ok (.aload_n 0, 1) := by decide +kernel
theorem dL_stateOf_3 : decode cL_stateOf 3 = .ok (.iload_n 1, 1) := by decide +kernel
theorem dL_stateOf_4 : decode cL_stateOf 4 = .ok (.invokevirtual 53, 3) := by decide +kernel
theorem dL_stateOf_7 : decode cL_stateOf 7 = .ok (.i2l, 1) := by decide +kernel
theorem dL_stateOf_8 : decode cL_stateOf 8 = .ok (.lastore, 1) := by decide +kernel
theorem dL_stateOf_9 : decode cL_stateOf 9 = .ok (.goto 6, 3) := by decide +kernel
theorem dL_stateOf_12 : decode cL_stateOf 12 = .ok (.astore_n 3, 1) := by decide +kernel
theorem dL_stateOf_13 : decode cL_stateOf 13 = .ok (.iconst 1, 1) := by decide +kernel
theorem dL_stateOf_14 : decode cL_stateOf 14 = .ok (.ireturn, 1) := by decide +kernel
theorem dL_stateOf_15 : decode cL_stateOf 15 = .ok (.iconst 0, 1) := by decide +kernel
theorem dL_stateOf_16 : decode cL_stateOf 16 = .ok (.ireturn, 1) := by decide +kernel
set_option maxRecDepth 20000 in
theorem ggL_gradeOf_X3_gradeOf : GoodIn wsL_gradeOf wsX3_gradeOf := goodIn_ca (goodIn_r _ [6, 7, 8, 9, 10, 11, 5, 12, 13, 14, 15, 16, 17, 18, 19, 20, 21, 22, 23, 24, 25, 26, 27, 28, 29, 30, 31, 32, 33, 34, 35] (by decide +kernel) (by decide +kernel)) (goodIn_sub (fun _ h => List.mem_cons_of_mem _ (List.mem_append_right _ h)) (by decide +kernel))
set_option maxRecDepth 20000 in
theorem gL_gradeOf_X3_gradeOf : GoodIn wsL_gradeOf (wsV RL 56 RX3 yX3_gradeOf wsX3_gradeOf) := goodIn_app (goodIn_of _ (by decide +kernel)) ggL_gradeOf_X3_gradeOf
theorem dL_gradeOf_0 : decode cL_gradeOf 0 = .ok (.aload_n 2, 1) := by decide +kernel
theorem dL_gradeOf_1 : decode cL_gradeOf 1 = .ok (.iconst 0, 1) := by decide +kernel
theorem dL_gradeOf_2 : decode cL_gradeOf 2 = .ok (.aload_n 0, 1) := by decide +kernel
theorem dL_gradeOf_3 : decode cL_gradeOf 3 = .ok (.iload_n 1, 1) := by decide +kernel
theorem dL_gradeOf_4 : decode cL_gradeOf 4 = .ok (.invokevirtual 56, 3) := by decide +kernel
theorem dL_gradeOf_7 : decode cL_gradeOf 7 = .ok (.i2l, 1) := by decide +kernel
theorem dL_gradeOf_8 : decode cL_gradeOf 8 = .ok (.lastore, 1) := by decide +kernel
theorem dL_gradeOf_9 : decode cL_gradeOf 9 = .ok (.goto 6, 3) := by decide +kernel
theorem dL_gradeOf_12 : decode cL_gradeOf 12 = .ok (.astore_n 3, 1) := by decide +kernel
theorem dL_gradeOf_13 : decode cL_gradeOf 13 = .ok (.iconst 1, 1) := by decide +kernel
theorem dL_gradeOf_14 : decode cL_gradeOf 14 = .ok (.ireturn, 1) := by decide +kernel
theorem dL_gradeOf_15 : decode cL_gradeOf 15 = .ok (.iconst 0, 1) := by decide +kernel
theorem dL_gradeOf_16 : decode cL_gradeOf 16 = .ok (.ireturn, 1) := by decide +kernel
set_option maxRecDepth 20000 in
theorem ggL_room_X3_room : GoodIn wsL_room wsX3_room := goodIn_ca (goodIn_r _ [6, 7, 8, 9, 10, 11, 12, 13, 5, 14, 15, 16, 17, 18, 19, 20, 21, 22, 23, 24, 25, 26, 27, 28, 29, 30, 31, 32, 33, 34, 35, 36, 37, 38, 39, 40, 41, 42, 43, 44, 45, 46, 47, 48, 49, 50, 51, 52, 53, 54] (by decide +kernel) (by decide +kernel)) (goodIn_sub (fun _ h => List.mem_cons_of_mem _ (List.mem_append_right _ h)) (by decide +kernel))
set_option maxRecDepth 20000 in
theorem gL_room_X3_room : GoodIn wsL_room (wsV RL 59 RX3 yX3_room wsX3_room) := goodIn_app (goodIn_of _ (by decide +kernel)) ggL_room_X3_room
theorem dL_room_0 : decode cL_room 0 = .ok (.aload_n 2, 1) := by decide +kernel
theorem dL_room_1 : decode cL_room 1 = .ok (.iconst 0, 1) := by decide +kernel
theorem dL_room_2 : decode cL_room 2 = .ok (.aload_n 0, 1) := by decide +kernel
theorem dL_room_3 : decode cL_room 3 = .ok (.iload_n 1, 1) := by decide +kernel
theorem dL_room_4 : decode cL_room 4 = .ok (.invokevirtual 59, 3) := by decide +kernel
theorem dL_room_7 : decode cL_room 7 = .ok (.i2l, 1) := by decide +kernel
theorem dL_room_8 : decode cL_room 8 = .ok (.lastore, 1) := by decide +kernel
theorem dL_room_9 : decode cL_room 9 = .ok (.goto 6, 3) := by decide +kernel
theorem dL_room_12 : decode cL_room 12 = .ok (.astore_n 3, 1) := by decide +kernel
theorem dL_room_13 : decode cL_room 13 = .ok (.iconst 1, 1) := by decide +kernel
theorem dL_room_14 : decode cL_room 14 = .ok (.ireturn, 1) := by decide +kernel
theorem dL_room_15 : decode cL_room 15 = .ok (.iconst 0, 1) := by decide +kernel
theorem dL_room_16 : decode cL_room 16 = .ok (.ireturn, 1) := by decide +kernel
set_option maxRecDepth 20000 in
theorem ggL_paidTo_X3_paidTo : GoodIn wsL_paidTo wsX3_paidTo := goodIn_ca (goodIn_r _ [6, 7, 8, 9, 10, 5, 11, 12, 13, 14, 15, 16, 17, 18, 19, 20, 21, 22, 23, 24, 25, 26, 27, 28, 29, 30, 31, 32, 33, 34, 35, 36, 37, 38, 39, 40, 41, 42, 43, 44, 45, 46, 47, 48, 49] (by decide +kernel) (by decide +kernel)) (goodIn_sub (fun _ h => List.mem_cons_of_mem _ (List.mem_append_right _ h)) (by decide +kernel))
set_option maxRecDepth 20000 in
theorem gL_paidTo_X3_paidTo : GoodIn wsL_paidTo (wsV RL 62 RX3 yX3_paidTo wsX3_paidTo) := goodIn_app (goodIn_of _ (by decide +kernel)) ggL_paidTo_X3_paidTo
theorem dL_paidTo_0 : decode cL_paidTo 0 = .ok (.aload_n 2, 1) := by decide +kernel
theorem dL_paidTo_1 : decode cL_paidTo 1 = .ok (.iconst 0, 1) := by decide +kernel
theorem dL_paidTo_2 : decode cL_paidTo 2 = .ok (.aload_n 0, 1) := by decide +kernel
theorem dL_paidTo_3 : decode cL_paidTo 3 = .ok (.iload_n 1, 1) := by decide +kernel
theorem dL_paidTo_4 : decode cL_paidTo 4 = .ok (.invokevirtual 62, 3) := by decide +kernel
theorem dL_paidTo_7 : decode cL_paidTo 7 = .ok (.i2l, 1) := by decide +kernel
theorem dL_paidTo_8 : decode cL_paidTo 8 = .ok (.lastore, 1) := by decide +kernel
theorem dL_paidTo_9 : decode cL_paidTo 9 = .ok (.goto 6, 3) := by decide +kernel
theorem dL_paidTo_12 : decode cL_paidTo 12 = .ok (.astore_n 3, 1) := by decide +kernel
theorem dL_paidTo_13 : decode cL_paidTo 13 = .ok (.iconst 1, 1) := by decide +kernel
theorem dL_paidTo_14 : decode cL_paidTo 14 = .ok (.ireturn, 1) := by decide +kernel
theorem dL_paidTo_15 : decode cL_paidTo 15 = .ok (.iconst 0, 1) := by decide +kernel
theorem dL_paidTo_16 : decode cL_paidTo 16 = .ok (.ireturn, 1) := by decide +kernel
set_option maxRecDepth 20000 in
theorem ggL_count_X3_count : GoodIn wsL_count wsX3_count := goodIn_ca (goodIn_r _ [6, 7, 8, 9, 10, 11, 5, 12, 13, 14, 15, 16, 17, 18, 19, 20, 21, 22, 23, 24, 25, 26, 27, 28, 29, 30, 31, 32, 33, 34] (by decide +kernel) (by decide +kernel)) (goodIn_sub (fun _ h => List.mem_cons_of_mem _ (List.mem_append_right _ h)) (by decide +kernel))
set_option maxRecDepth 20000 in
theorem gL_count_X3_count : GoodIn wsL_count (wsV RL 65 RX3 yX3_count wsX3_count) := goodIn_app (goodIn_of _ (by decide +kernel)) ggL_count_X3_count
theorem dL_count_0 : decode cL_count 0 = .ok (.aload_n 2, 1) := by decide +kernel
theorem dL_count_1 : decode cL_count 1 = .ok (.iconst 0, 1) := by decide +kernel
theorem dL_count_2 : decode cL_count 2 = .ok (.aload_n 0, 1) := by decide +kernel
theorem dL_count_3 : decode cL_count 3 = .ok (.iload_n 1, 1) := by decide +kernel
theorem dL_count_4 : decode cL_count 4 = .ok (.invokevirtual 65, 3) := by decide +kernel
theorem dL_count_7 : decode cL_count 7 = .ok (.i2l, 1) := by decide +kernel
theorem dL_count_8 : decode cL_count 8 = .ok (.lastore, 1) := by decide +kernel
theorem dL_count_9 : decode cL_count 9 = .ok (.goto 6, 3) := by decide +kernel
theorem dL_count_12 : decode cL_count 12 = .ok (.astore_n 3, 1) := by decide +kernel
theorem dL_count_13 : decode cL_count 13 = .ok (.iconst 1, 1) := by decide +kernel
theorem dL_count_14 : decode cL_count 14 = .ok (.ireturn, 1) := by decide +kernel
theorem dL_count_15 : decode cL_count 15 = .ok (.iconst 0, 1) := by decide +kernel
theorem dL_count_16 : decode cL_count 16 = .ok (.ireturn, 1) := by decide +kernel
set_option maxRecDepth 20000 in
theorem ggL_paymentTo_X3_paymentTo : GoodIn wsL_paymentTo wsX3_paymentTo := goodIn_ca (goodIn_r _ [6, 7, 8, 9, 10, 11, 5, 12, 13, 14, 15, 16, 17, 18, 19, 20, 21, 22, 23, 24, 25, 26, 27, 28, 29, 30, 31, 32, 33, 34] (by decide +kernel) (by decide +kernel)) (goodIn_sub (fun _ h => List.mem_cons_of_mem _ (List.mem_append_right _ h)) (by decide +kernel))
set_option maxRecDepth 20000 in
theorem gL_paymentTo_X3_paymentTo : GoodIn wsL_paymentTo (wsV RL 68 RX3 yX3_paymentTo wsX3_paymentTo) := goodIn_app (goodIn_of _ (by decide +kernel)) ggL_paymentTo_X3_paymentTo
theorem dL_paymentTo_0 : decode cL_paymentTo 0 = .ok (.aload_n 2, 1) := by decide +kernel
theorem dL_paymentTo_1 : decode cL_paymentTo 1 = .ok (.iconst 0, 1) := by decide +kernel
theorem dL_paymentTo_2 : decode cL_paymentTo 2 = .ok (.aload_n 0, 1) := by decide +kernel
theorem dL_paymentTo_3 : decode cL_paymentTo 3 = .ok (.iload_n 1, 1) := by decide +kernel
theorem dL_paymentTo_4 : decode cL_paymentTo 4 = .ok (.invokevirtual 68, 3) := by decide +kernel
theorem dL_paymentTo_7 : decode cL_paymentTo 7 = .ok (.i2l, 1) := by decide +kernel
theorem dL_paymentTo_8 : decode cL_paymentTo 8 = .ok (.lastore, 1) := by decide +kernel
theorem dL_paymentTo_9 : decode cL_paymentTo 9 = .ok (.goto 6, 3) := by decide +kernel
theorem dL_paymentTo_12 : decode cL_paymentTo 12 = .ok (.astore_n 3, 1) := by decide +kernel
theorem dL_paymentTo_13 : decode cL_paymentTo 13 = .ok (.iconst 1, 1) := by decide +kernel
theorem dL_paymentTo_14 : decode cL_paymentTo 14 = .ok (.ireturn, 1) := by decide +kernel
theorem dL_paymentTo_15 : decode cL_paymentTo 15 = .ok (.iconst 0, 1) := by decide +kernel
theorem dL_paymentTo_16 : decode cL_paymentTo 16 = .ok (.ireturn, 1) := by decide +kernel
set_option maxRecDepth 20000 in
theorem ggL_amountOf_X3_amountOf : GoodIn wsL_amountOf wsX3_amountOf := goodIn_ca (goodIn_r _ [6, 7, 8, 9, 10, 11, 5, 12, 13, 14, 15, 16, 17, 18, 19, 20, 21, 22, 23, 24, 25, 26, 27, 28, 29, 30, 31, 32, 33, 34] (by decide +kernel) (by decide +kernel)) (goodIn_sub (fun _ h => List.mem_cons_of_mem _ (List.mem_append_right _ h)) (by decide +kernel))
set_option maxRecDepth 20000 in
theorem gL_amountOf_X3_amountOf : GoodIn wsL_amountOf (wsV RL 71 RX3 yX3_amountOf wsX3_amountOf) := goodIn_app (goodIn_of _ (by decide +kernel)) ggL_amountOf_X3_amountOf
theorem dL_amountOf_0 : decode cL_amountOf 0 = .ok (.aload_n 2, 1) := by decide +kernel
theorem dL_amountOf_1 : decode cL_amountOf 1 = .ok (.iconst 0, 1) := by decide +kernel
theorem dL_amountOf_2 : decode cL_amountOf 2 = .ok (.aload_n 0, 1) := by decide +kernel
theorem dL_amountOf_3 : decode cL_amountOf 3 = .ok (.iload_n 1, 1) := by decide +kernel
theorem dL_amountOf_4 : decode cL_amountOf 4 = .ok (.invokevirtual 71, 3) := by decide +kernel
theorem dL_amountOf_7 : decode cL_amountOf 7 = .ok (.i2l, 1) := by decide +kernel
theorem dL_amountOf_8 : decode cL_amountOf 8 = .ok (.lastore, 1) := by decide +kernel
theorem dL_amountOf_9 : decode cL_amountOf 9 = .ok (.goto 6, 3) := by decide +kernel
theorem dL_amountOf_12 : decode cL_amountOf 12 = .ok (.astore_n 3, 1) := by decide +kernel
theorem dL_amountOf_13 : decode cL_amountOf 13 = .ok (.iconst 1, 1) := by decide +kernel
theorem dL_amountOf_14 : decode cL_amountOf 14 = .ok (.ireturn, 1) := by decide +kernel
theorem dL_amountOf_15 : decode cL_amountOf 15 = .ok (.iconst 0, 1) := by decide +kernel
theorem dL_amountOf_16 : decode cL_amountOf 16 = .ok (.ireturn, 1) := by decide +kernel
set_option maxRecDepth 20000 in
theorem ggL_paymentState_X3_paymentState : GoodIn wsL_paymentState wsX3_paymentState := goodIn_ca (goodIn_r _ [6, 7, 8, 9, 10, 11, 5, 12, 13, 14, 15, 16, 17, 18, 19, 20, 21, 22, 23, 24, 25, 26, 27, 28, 29, 30, 31, 32, 33, 34] (by decide +kernel) (by decide +kernel)) (goodIn_sub (fun _ h => List.mem_cons_of_mem _ (List.mem_append_right _ h)) (by decide +kernel))
set_option maxRecDepth 20000 in
theorem gL_paymentState_X3_paymentState : GoodIn wsL_paymentState (wsV RL 74 RX3 yX3_paymentState wsX3_paymentState) := goodIn_app (goodIn_of _ (by decide +kernel)) ggL_paymentState_X3_paymentState
theorem dL_paymentState_0 : decode cL_paymentState 0 = .ok (.aload_n 2, 1) := by decide +kernel
theorem dL_paymentState_1 : decode cL_paymentState 1 = .ok (.iconst 0, 1) := by decide +kernel
theorem dL_paymentState_2 : decode cL_paymentState 2 = .ok (.aload_n 0, 1) := by decide +kernel
theorem dL_paymentState_3 : decode cL_paymentState 3 = .ok (.iload_n 1, 1) := by decide +kernel
theorem dL_paymentState_4 : decode cL_paymentState 4 = .ok (.invokevirtual 74, 3) := by decide +kernel
theorem dL_paymentState_7 : decode cL_paymentState 7 = .ok (.i2l, 1) := by decide +kernel
theorem dL_paymentState_8 : decode cL_paymentState 8 = .ok (.lastore, 1) := by decide +kernel
theorem dL_paymentState_9 : decode cL_paymentState 9 = .ok (.goto 6, 3) := by decide +kernel
theorem dL_paymentState_12 : decode cL_paymentState 12 = .ok (.astore_n 3, 1) := by decide +kernel
theorem dL_paymentState_13 : decode cL_paymentState 13 = .ok (.iconst 1, 1) := by decide +kernel
theorem dL_paymentState_14 : decode cL_paymentState 14 = .ok (.ireturn, 1) := by decide +kernel
theorem dL_paymentState_15 : decode cL_paymentState 15 = .ok (.iconst 0, 1) := by decide +kernel
theorem dL_paymentState_16 : decode cL_paymentState 16 = .ok (.ireturn, 1) := by decide +kernel
set_option maxRecDepth 20000 in
theorem ggL_shareOf_X3_shareOf : GoodIn wsL_shareOf wsX3_shareOf := goodIn_ca (goodIn_ca (goodIn_r _ [7, 8, 9, 10, 6, 11, 12, 13, 14, 15, 16, 17, 18, 19, 20, 21, 22, 23, 24, 25, 26, 27, 28, 29, 30, 31, 32, 33, 34, 35, 36, 37, 38, 39, 40, 41, 42, 43, 44, 45, 46, 47, 48, 49, 50, 51, 52, 53, 54, 55, 56, 57, 58, 59, 60, 61, 62, 63, 64, 65, 66, 67, 68, 69, 70, 71, 72, 73, 74, 75, 76, 77, 78, 79, 80, 81, 82, 83, 84, 85, 86, 87, 88, 89, 90, 91, 92, 93, 94, 95, 96, 97, 98, 99, 100, 101, 102, 103, 104, 105, 106, 107, 108, 109, 110, 111, 112, 113, 114, 115, 116, 117, 118, 119, 120, 121, 122, 123, 124, 125, 126, 127, 128, 129, 130, 131, 132, 133, 134, 135, 136, 137, 138, 139, 140, 141, 142, 143, 144, 145, 146, 147, 148, 149, 150, 151, 152, 153, 154, 155, 156, 157, 158, 159, 160, 161, 162, 163, 164, 165, 166, 167, 168, 169, 170, 171, 172, 173, 174, 175, 176, 177, 178, 179, 180, 181, 182, 183, 184, 185, 186, 187, 188, 189, 190] (by decide +kernel) (by decide +kernel)) (goodIn_sub (fun _ h => List.mem_cons_of_mem _ (List.mem_append_left _ (List.mem_append_right _ h))) (by decide +kernel))) (goodIn_sub (fun _ h => List.mem_cons_of_mem _ (List.mem_append_right _ h)) (by decide +kernel))
set_option maxRecDepth 20000 in
theorem gL_shareOf_X3_shareOf : GoodIn wsL_shareOf (wsV RL 77 RX3 yX3_shareOf wsX3_shareOf) := goodIn_app (goodIn_of _ (by decide +kernel)) ggL_shareOf_X3_shareOf
theorem dL_shareOf_0 : decode cL_shareOf 0 = .ok (.aload_n 3, 1) := by decide +kernel
theorem dL_shareOf_1 : decode cL_shareOf 1 = .ok (.iconst 0, 1) := by decide +kernel
theorem dL_shareOf_2 : decode cL_shareOf 2 = .ok (.aload_n 0, 1) := by decide +kernel
theorem dL_shareOf_3 : decode cL_shareOf 3 = .ok (.iload_n 1, 1) := by decide +kernel
theorem dL_shareOf_4 : decode cL_shareOf 4 = .ok (.iload_n 2, 1) := by decide +kernel
theorem dL_shareOf_5 : decode cL_shareOf 5 = .ok (.invokevirtual 77, 3) := by decide +kernel
theorem dL_shareOf_8 : decode cL_shareOf 8 = .ok (.i2l, 1) := by decide +kernel
theorem dL_shareOf_9 : decode cL_shareOf 9 = .ok (.lastore, 1) := by decide +kernel
theorem dL_shareOf_10 : decode cL_shareOf 10 = .ok (.goto 11, 3) := by decide +kernel
theorem dL_shareOf_13 : decode cL_shareOf 13 = .ok (.astore 4, 2) := by decide +kernel
theorem dL_shareOf_15 : decode cL_shareOf 15 = .ok (.iconst 1, 1) := by decide +kernel
theorem dL_shareOf_16 : decode cL_shareOf 16 = .ok (.ireturn, 1) := by decide +kernel
theorem dL_shareOf_17 : decode cL_shareOf 17 = .ok (.astore 4, 2) := by decide +kernel
theorem dL_shareOf_19 : decode cL_shareOf 19 = .ok (.iconst 2, 1) := by decide +kernel
theorem dL_shareOf_20 : decode cL_shareOf 20 = .ok (.ireturn, 1) := by decide +kernel
theorem dL_shareOf_21 : decode cL_shareOf 21 = .ok (.iconst 0, 1) := by decide +kernel
theorem dL_shareOf_22 : decode cL_shareOf 22 = .ok (.ireturn, 1) := by decide +kernel
set_option maxRecDepth 20000 in
theorem ggL_shareBySorting_X3_shareBySorting : GoodIn wsL_shareBySorting wsX3_shareBySorting := goodIn_ca (goodIn_ca (goodIn_r _ [7, 8, 9, 10, 6, 11, 12, 13, 14, 15, 16, 17, 18, 19, 20, 21, 22, 23, 24, 25, 26, 27, 28, 29, 30, 31, 32, 33, 34, 35, 36, 37, 38, 39, 40, 41, 42, 43, 44, 45, 46, 47, 48, 49, 50, 51, 52, 53, 54, 55, 56, 57, 58, 59, 60, 61, 62, 63, 64, 65, 66, 67, 68, 69, 70, 71, 72, 73, 74, 75, 76, 77, 78, 79, 80, 81, 82, 83, 84, 85, 86, 87, 88, 89, 90, 91, 92, 93, 94, 95, 96, 97, 98, 99, 100, 101, 102, 103, 104, 105, 106, 107, 108, 109, 110, 111, 112, 113, 114, 115, 116, 117, 118, 119, 120, 121, 122, 123, 124, 125, 126, 127, 128, 129, 130, 131, 132, 133, 134, 135, 136, 137, 138, 139, 140, 141, 142, 143, 144, 145, 146, 147, 148, 149, 150, 151, 152, 153, 154, 155, 156, 157, 158, 159, 160, 161, 162, 163, 164, 165, 166, 167, 168, 169, 170, 171, 172, 173, 174, 175, 176, 177, 178, 179, 180, 181, 182, 183, 184, 185, 186, 187, 188, 189, 190] (by decide +kernel) (by decide +kernel)) (goodIn_sub (fun _ h => List.mem_cons_of_mem _ (List.mem_append_left _ (List.mem_append_right _ h))) (by decide +kernel))) (goodIn_sub (fun _ h => List.mem_cons_of_mem _ (List.mem_append_right _ h)) (by decide +kernel))
set_option maxRecDepth 20000 in
theorem gL_shareBySorting_X3_shareBySorting : GoodIn wsL_shareBySorting (wsV RL 81 RX3 yX3_shareBySorting wsX3_shareBySorting) := goodIn_app (goodIn_of _ (by decide +kernel)) ggL_shareBySorting_X3_shareBySorting
theorem dL_shareBySorting_0 : decode cL_shareBySorting 0 = .ok (.aload_n 3, 1) := by decide +kernel
theorem dL_shareBySorting_1 : decode cL_shareBySorting 1 = .ok (.iconst 0, 1) := by decide +kernel
theorem dL_shareBySorting_2 : decode cL_shareBySorting 2 = .ok (.aload_n 0, 1) := by decide +kernel
theorem dL_shareBySorting_3 : decode cL_shareBySorting 3 = .ok (.iload_n 1, 1) := by decide +kernel
theorem dL_shareBySorting_4 : decode cL_shareBySorting 4 = .ok (.iload_n 2, 1) := by decide +kernel
theorem dL_shareBySorting_5 : decode cL_shareBySorting 5 = .ok (.invokevirtual 81, 3) := by decide +kernel
theorem dL_shareBySorting_8 : decode cL_shareBySorting 8 = .ok (.i2l, 1) := by decide +kernel
theorem dL_shareBySorting_9 : decode cL_shareBySorting 9 = .ok (.lastore, 1) := by decide +kernel
theorem dL_shareBySorting_10 : decode cL_shareBySorting 10 = .ok (.goto 11, 3) := by decide +kernel
theorem dL_shareBySorting_13 : decode cL_shareBySorting 13 = .ok (.astore 4, 2) := by decide +kernel
theorem dL_shareBySorting_15 : decode cL_shareBySorting 15 = .ok (.iconst 1, 1) := by decide +kernel
theorem dL_shareBySorting_16 : decode cL_shareBySorting 16 = .ok (.ireturn, 1) := by decide +kernel
theorem dL_shareBySorting_17 : decode cL_shareBySorting 17 = .ok (.astore 4, 2) := by decide +kernel
theorem dL_shareBySorting_19 : decode cL_shareBySorting 19 = .ok (.iconst 2, 1) := by decide +kernel
theorem dL_shareBySorting_20 : decode cL_shareBySorting 20 = .ok (.ireturn, 1) := by decide +kernel
theorem dL_shareBySorting_21 : decode cL_shareBySorting 21 = .ok (.iconst 0, 1) := by decide +kernel
theorem dL_shareBySorting_22 : decode cL_shareBySorting 22 = .ok (.ireturn, 1) := by decide +kernel
set_option maxRecDepth 20000 in
theorem ggL_law_X3_init : GoodIn wsL_law wsX3_init := goodIn_r _ [9, 10, 11, 12, 13, 14, 15, 16, 17, 18, 19, 20, 21, 22, 23, 24, 25, 26, 27, 28, 29, 30, 31, 32, 33, 34, 35, 36, 37, 38, 39, 40, 41, 42, 43, 44, 45, 46, 47, 48, 49, 50, 51, 52, 53, 652, 653, 654, 655, 656, 657, 658, 659, 660, 683, 684, 685, 686, 687, 688, 689, 690, 691, 692, 693, 694, 695, 696, 697, 698, 699, 700, 701] (by decide +kernel) (by decide +kernel)
set_option maxRecDepth 20000 in
theorem gL_law_X3_init : GoodIn wsL_law (wsX3_init) := ggL_law_X3_init
set_option maxRecDepth 20000 in
theorem ggL_law_X4_init : GoodIn wsL_law wsX4_init := goodIn_r _ [56, 57, 11, 12, 13, 58, 59, 60, 61, 62, 63, 37, 64, 65, 66, 67, 68, 69, 70, 71, 72, 73, 661, 662, 663, 664, 665, 666, 667, 668, 669, 670, 671, 672, 673, 674, 675, 676, 677, 678, 679, 680, 681, 682] (by decide +kernel) (by decide +kernel)
set_option maxRecDepth 20000 in
theorem gL_law_X4_init : GoodIn wsL_law (wsX4_init) := ggL_law_X4_init
set_option maxRecDepth 20000 in
theorem ggL_law_L_setFund : GoodIn wsL_law wsL_setFund := goodIn_ca (goodIn_ca (goodIn_r _ [77, 78, 79, 80, 81, 82, 2, 83, 84, 85, 86, 28, 87, 88, 89, 90, 91, 92, 93, 94, 95, 96, 97, 98, 23, 99, 100, 101, 102, 103, 104, 105, 106, 107, 108, 109, 110, 111, 22, 112, 113, 44, 43, 652, 653, 654, 655, 656, 657, 658, 659, 660, 689, 690, 691, 692, 693] (by decide +kernel) (by decide +kernel)) (goodIn_sub (fun _ h => List.mem_append_left _ (List.mem_append_left _ (List.mem_append_right _ h))) (by decide +kernel))) (goodIn_sub (fun _ h => List.mem_append_left _ (List.mem_append_right _ h)) (by decide +kernel))
set_option maxRecDepth 20000 in
theorem gL_law_L_setFund : GoodIn wsL_law (va_wsS RL 88 yL_setFund wsL_setFund) := goodIn_app (goodIn_of _ (by decide +kernel)) ggL_law_L_setFund
set_option maxRecDepth 20000 in
theorem ggL_law_X4_setFund : GoodIn wsL_law wsX4_setFund := goodIn_r _ [117, 118, 73, 119, 120, 121, 122, 123, 124, 5, 125, 126, 127, 128, 129, 130, 131, 132, 133, 134, 68, 66, 135, 136, 137, 138, 139, 661, 662, 663, 664, 665, 666, 667, 668, 669, 670, 671, 672, 673, 674, 675, 676, 677, 678, 679, 680, 681, 682] (by decide +kernel) (by decide +kernel)
set_option maxRecDepth 20000 in
theorem gL_law_X4_setFund : GoodIn wsL_law (wsV RL 93 RX4 yX4_setFund wsX4_setFund) := goodIn_app (goodIn_of _ (by decide +kernel)) ggL_law_X4_setFund
set_option maxRecDepth 20000 in
theorem ggL_law_X4_thrown : GoodIn wsL_law wsX4_thrown := goodIn_r _ [143, 130, 661, 662, 663, 664, 665, 666, 667, 668, 669, 670, 671, 672, 673, 674, 675, 676, 677, 678, 679, 680, 681, 682] (by decide +kernel) (by decide +kernel)
set_option maxRecDepth 20000 in
theorem gL_law_X4_thrown : GoodIn wsL_law (wsV RL 94 RX4 yX4_thrown wsX4_thrown) := goodIn_app (goodIn_of _ (by decide +kernel)) ggL_law_X4_thrown
set_option maxRecDepth 20000 in
theorem ggL_law_L_setGrade : GoodIn wsL_law wsL_setGrade := goodIn_ca (goodIn_ca (goodIn_ca (goodIn_r _ [146, 147, 78, 79, 148, 149, 150, 2, 151, 152, 153, 84, 85, 28, 14, 15, 90, 91, 92, 93, 94, 95, 96, 97, 98, 23, 99, 652, 653, 654, 655, 656, 657, 658, 659, 660, 689, 690, 691, 692, 693] (by decide +kernel) (by decide +kernel)) (goodIn_sub (fun _ h => List.mem_append_right _ h) (by decide +kernel))) (goodIn_sub (fun _ h => List.mem_append_left _ (List.mem_append_left _ (List.mem_append_right _ h))) (by decide +kernel))) (goodIn_sub (fun _ h => List.mem_append_left _ (List.mem_append_right _ h)) (by decide +kernel))
set_option maxRecDepth 20000 in
theorem gL_law_L_setGrade : GoodIn wsL_law (va_wsS RL 98 yL_setGrade wsL_setGrade) := goodIn_app (goodIn_of _ (by decide +kernel)) ggL_law_L_setGrade
set_option maxRecDepth 20000 in
theorem ggL_law_X4_setGrade : GoodIn wsL_law wsX4_setGrade := goodIn_r _ [157, 73, 119, 58, 59, 123, 124, 5, 125, 126, 127, 128, 129, 130, 661, 662, 663, 664, 665, 666, 667, 668, 669, 670, 671, 672, 673, 674, 675, 676, 677, 678, 679, 680, 681, 682] (by decide +kernel) (by decide +kernel)
set_option maxRecDepth 20000 in
theorem gL_law_X4_setGrade : GoodIn wsL_law (wsV RL 101 RX4 yX4_setGrade wsX4_setGrade) := goodIn_app (goodIn_of _ (by decide +kernel)) ggL_law_X4_setGrade
set_option maxRecDepth 20000 in
theorem ggL_law_L_pass : GoodIn wsL_law wsL_pass := goodIn_ca (goodIn_r _ [160, 78, 161, 162, 163, 2, 164, 84, 85, 165, 19, 23, 90, 91, 92, 166, 167, 168, 18, 169, 170, 35, 36, 171, 172, 173, 22, 174, 113, 44, 45, 652, 653, 654, 655, 656, 657, 658, 659, 660, 683, 684, 685, 686, 687, 688, 689, 690, 691, 692, 693] (by decide +kernel) (by decide +kernel)) (goodIn_sub (fun _ h => List.mem_append_left _ (List.mem_append_left _ (List.mem_append_right _ h))) (by decide +kernel))
set_option maxRecDepth 20000 in
theorem gL_law_L_pass : GoodIn wsL_law (va_wsS RL 102 yL_pass wsL_pass) := goodIn_app (goodIn_of _ (by decide +kernel)) ggL_law_L_pass
set_option maxRecDepth 20000 in
theorem ggL_law_X4_pass : GoodIn wsL_law wsX4_pass := goodIn_r _ [178, 179, 180, 62, 63, 119, 68, 67, 123, 124, 5, 125, 126, 127, 128, 129, 130, 661, 662, 663, 664, 665, 666, 667, 668, 669, 670, 671, 672, 673, 674, 675, 676, 677, 678, 679, 680, 681, 682] (by decide +kernel) (by decide +kernel)
set_option maxRecDepth 20000 in
theorem gL_law_X4_pass : GoodIn wsL_law (wsV RL 105 RX4 yX4_pass wsX4_pass) := goodIn_app (goodIn_of _ (by decide +kernel)) ggL_law_X4_pass
set_option maxRecDepth 20000 in
theorem ggL_law_L_claim : GoodIn wsL_law wsL_claim := goodIn_ca (goodIn_ca (goodIn_ca (goodIn_r _ [183, 147, 78, 79, 184, 185, 186, 2, 187, 152, 153, 84, 85, 97, 98, 19, 188, 165, 90, 91, 92, 189, 190, 191, 18, 192, 170, 193, 194, 195, 196, 34, 197, 198, 199, 200, 35, 201, 202, 203, 204, 205, 206, 207, 208, 33, 36, 652, 653, 654, 655, 656, 657, 658, 659, 660, 683, 684, 685, 686, 687, 688] (by decide +kernel) (by decide +kernel)) (goodIn_sub (fun _ h => List.mem_append_right _ h) (by decide +kernel))) (goodIn_sub (fun _ h => List.mem_append_left _ (List.mem_append_left _ (List.mem_append_right _ h))) (by decide +kernel))) (goodIn_sub (fun _ h => List.mem_append_left _ (List.mem_append_right _ h)) (by decide +kernel))
set_option maxRecDepth 20000 in
theorem gL_law_L_claim : GoodIn wsL_law (va_wsS RL 106 yL_claim wsL_claim) := goodIn_app (goodIn_of _ (by decide +kernel)) ggL_law_L_claim
set_option maxRecDepth 20000 in
theorem ggL_law_X4_claim : GoodIn wsL_law wsX4_claim := goodIn_r _ [212, 180, 60, 61, 62, 63, 179, 64, 123, 124, 5, 125, 213, 214, 215, 216, 126, 127, 128, 129, 130, 661, 662, 663, 664, 665, 666, 667, 668, 669, 670, 671, 672, 673, 674, 675, 676, 677, 678, 679, 680, 681, 682] (by decide +kernel) (by decide +kernel)
set_option maxRecDepth 20000 in
theorem gL_law_X4_claim : GoodIn wsL_law (wsV RL 109 RX4 yX4_claim wsX4_claim) := goodIn_app (goodIn_of _ (by decide +kernel)) ggL_law_X4_claim
set_option maxRecDepth 20000 in
theorem ggL_law_L_cure : GoodIn wsL_law wsL_cure := goodIn_ca (goodIn_ca (goodIn_r _ [219, 147, 79, 220, 221, 222, 2, 223, 97, 98, 19, 224, 225, 165, 226, 227, 228, 229, 152, 153, 189, 190, 191, 18, 192, 170, 652, 653, 654, 655, 656, 657, 658, 659, 660, 683, 684, 685, 686, 687, 688] (by decide +kernel) (by decide +kernel)) (goodIn_sub (fun _ h => List.mem_append_left _ (List.mem_append_right _ h)) (by decide +kernel))) (goodIn_sub (fun _ h => List.mem_append_right _ h) (by decide +kernel))
set_option maxRecDepth 20000 in
theorem gL_law_L_cure : GoodIn wsL_law (va_wsS RL 110 yL_cure wsL_cure) := goodIn_app (goodIn_of _ (by decide +kernel)) ggL_law_L_cure
set_option maxRecDepth 20000 in
theorem ggL_law_X4_cure : GoodIn wsL_law wsX4_cure := goodIn_r _ [233, 62, 63, 179, 234, 235, 236, 5, 237, 180, 123, 124, 125, 126, 127, 128, 129, 130, 661, 662, 663, 664, 665, 666, 667, 668, 669, 670, 671, 672, 673, 674, 675, 676, 677, 678, 679, 680, 681, 682] (by decide +kernel) (by decide +kernel)
set_option maxRecDepth 20000 in
theorem gL_law_X4_cure : GoodIn wsL_law (wsV RL 112 RX4 yX4_cure wsX4_cure) := goodIn_app (goodIn_of _ (by decide +kernel)) ggL_law_X4_cure
set_option maxRecDepth 20000 in
theorem ggL_law_L_deny : GoodIn wsL_law wsL_deny := goodIn_ca (goodIn_ca (goodIn_r _ [240, 147, 79, 241, 242, 243, 2, 244, 97, 98, 19, 224, 226, 227, 228, 229, 152, 153, 189, 190, 191, 18, 192, 170, 652, 653, 654, 655, 656, 657, 658, 659, 660, 683, 684, 685, 686, 687, 688] (by decide +kernel) (by decide +kernel)) (goodIn_sub (fun _ h => List.mem_append_left _ (List.mem_append_right _ h)) (by decide +kernel))) (goodIn_sub (fun _ h => List.mem_append_right _ h) (by decide +kernel))
set_option maxRecDepth 20000 in
theorem gL_law_L_deny : GoodIn wsL_law (va_wsS RL 113 yL_deny wsL_deny) := goodIn_app (goodIn_of _ (by decide +kernel)) ggL_law_L_deny
set_option maxRecDepth 20000 in
theorem ggL_law_X4_deny : GoodIn wsL_law wsX4_deny := goodIn_r _ [248, 62, 234, 235, 236, 5, 237, 180, 123, 124, 125, 126, 127, 128, 129, 130, 661, 662, 663, 664, 665, 666, 667, 668, 669, 670, 671, 672, 673, 674, 675, 676, 677, 678, 679, 680, 681, 682] (by decide +kernel) (by decide +kernel)
set_option maxRecDepth 20000 in
theorem gL_law_X4_deny : GoodIn wsL_law (wsV RL 115 RX4 yX4_deny wsX4_deny) := goodIn_app (goodIn_of _ (by decide +kernel)) ggL_law_X4_deny
set_option maxRecDepth 20000 in
theorem ggL_law_L_object : GoodIn wsL_law wsL_object := goodIn_ca (goodIn_ca (goodIn_r _ [251, 147, 79, 252, 253, 254, 2, 255, 97, 98, 19, 224, 256, 226, 227, 228, 229, 152, 153, 189, 190, 191, 18, 192, 170, 257, 258, 259, 260, 35, 652, 653, 654, 655, 656, 657, 658, 659, 660, 683, 684, 685, 686, 687, 688] (by decide +kernel) (by decide +kernel)) (goodIn_sub (fun _ h => List.mem_append_left _ (List.mem_append_right _ h)) (by decide +kernel))) (goodIn_sub (fun _ h => List.mem_append_right _ h) (by decide +kernel))
set_option maxRecDepth 20000 in
theorem gL_law_L_object : GoodIn wsL_law (va_wsS RL 116 yL_object wsL_object) := goodIn_app (goodIn_of _ (by decide +kernel)) ggL_law_L_object
set_option maxRecDepth 20000 in
theorem ggL_law_X4_object : GoodIn wsL_law wsX4_object := goodIn_r _ [264, 62, 64, 234, 235, 236, 5, 237, 180, 123, 124, 125, 126, 127, 128, 129, 130, 265, 266, 267, 268, 661, 662, 663, 664, 665, 666, 667, 668, 669, 670, 671, 672, 673, 674, 675, 676, 677, 678, 679, 680, 681, 682] (by decide +kernel) (by decide +kernel)
set_option maxRecDepth 20000 in
theorem gL_law_X4_object : GoodIn wsL_law (wsV RL 118 RX4 yX4_object wsX4_object) := goodIn_app (goodIn_of _ (by decide +kernel)) ggL_law_X4_object
set_option maxRecDepth 20000 in
theorem ggL_law_L_decide : GoodIn wsL_law wsL_decide := goodIn_ca (goodIn_ca (goodIn_r _ [271, 147, 79, 272, 273, 274, 2, 275, 97, 98, 19, 224, 226, 227, 228, 229, 152, 153, 189, 190, 191, 18, 192, 170, 257, 258, 259, 260, 35, 652, 653, 654, 655, 656, 657, 658, 659, 660, 683, 684, 685, 686, 687, 688] (by decide +kernel) (by decide +kernel)) (goodIn_sub (fun _ h => List.mem_append_left _ (List.mem_append_right _ h)) (by decide +kernel))) (goodIn_sub (fun _ h => List.mem_append_right _ h) (by decide +kernel))
set_option maxRecDepth 20000 in
theorem gL_law_L_decide : GoodIn wsL_law (va_wsS RL 119 yL_decide wsL_decide) := goodIn_app (goodIn_of _ (by decide +kernel)) ggL_law_L_decide
set_option maxRecDepth 20000 in
theorem ggL_law_X4_decide : GoodIn wsL_law wsX4_decide := goodIn_r _ [279, 62, 234, 235, 236, 5, 237, 180, 123, 124, 125, 126, 127, 128, 129, 130, 265, 266, 267, 268, 661, 662, 663, 664, 665, 666, 667, 668, 669, 670, 671, 672, 673, 674, 675, 676, 677, 678, 679, 680, 681, 682] (by decide +kernel) (by decide +kernel)
set_option maxRecDepth 20000 in
theorem gL_law_X4_decide : GoodIn wsL_law (wsV RL 122 RX4 yX4_decide wsX4_decide) := goodIn_app (goodIn_of _ (by decide +kernel)) ggL_law_X4_decide
set_option maxRecDepth 20000 in
theorem ggL_law_L_round : GoodIn wsL_law wsL_round := goodIn_ca (goodIn_ca (goodIn_ca (goodIn_r _ [282, 78, 79, 283, 284, 285, 2, 286, 97, 98, 19, 23, 27, 287, 288, 289, 290, 84, 85, 291, 90, 91, 92, 257, 258, 259, 18, 260, 170, 35, 292, 293, 294, 22, 295, 113, 44, 100, 101, 102, 103, 87, 89, 104, 105, 106, 107, 88, 108, 109, 110, 111, 112, 43, 296, 297, 298, 299, 300, 14, 301, 302, 303, 304, 26, 305, 306, 307, 308, 309, 310, 224, 311, 312, 313, 314, 15, 226, 227, 228, 229, 152, 153, 189, 190, 191, 192, 315, 316, 317, 318, 319, 320, 321, 42, 322, 323, 324, 325, 326, 327, 328, 329, 49, 50, 51, 330, 331, 332, 333, 52, 334, 335, 336, 337, 338, 339, 340, 341, 342, 343, 344, 345, 346, 347, 348, 349, 350, 351, 352, 353, 354, 355, 53, 356, 357, 358, 359, 360, 361, 362, 363, 364, 365, 366, 367, 368, 369, 370, 371, 372, 373, 374, 375, 376, 377, 378, 379, 380, 381, 382, 383, 384, 385, 386, 387, 388, 389, 390, 391, 392, 393, 394, 395, 396, 397, 398, 399, 165, 400, 401, 402, 403, 404, 405, 406, 407, 45, 408, 652, 653, 654, 655, 656, 657, 658, 659, 660, 683, 684, 685, 686, 687, 688, 689, 690, 691, 692, 693, 694, 695, 696, 697, 698, 699, 700, 701] (by decide +kernel) (by decide +kernel)) (goodIn_sub (fun _ h => List.mem_append_left _ (List.mem_append_right _ h)) (by decide +kernel))) (goodIn_sub (fun _ h => List.mem_append_left _ (List.mem_append_left _ (List.mem_append_right _ h))) (by decide +kernel))) (goodIn_sub (fun _ h => List.mem_append_right _ h) (by decide +kernel))
set_option maxRecDepth 20000 in
theorem gL_law_L_round : GoodIn wsL_law (va_wsS RL 123 yL_round wsL_round) := goodIn_app (goodIn_of _ (by decide +kernel)) ggL_law_L_round
set_option maxRecDepth 20000 in
theorem ggL_law_X4_round : GoodIn wsL_law wsX4_round := goodIn_r _ [412, 413, 180, 69, 71, 119, 65, 66, 67, 179, 68, 123, 124, 5, 125, 126, 127, 128, 129, 130, 414, 415, 416, 417, 72, 62, 131, 132, 133, 134, 120, 122, 135, 136, 137, 138, 121, 139, 418, 419, 420, 421, 59, 61, 422, 423, 424, 425, 426, 427, 428, 429, 430, 431, 432, 433, 70, 434, 435, 436, 437, 58, 438, 439, 440, 441, 442, 443, 444, 445, 446, 447, 448, 449, 450, 451, 452, 453, 265, 266, 267, 268, 454, 455, 456, 457, 661, 662, 663, 664, 665, 666, 667, 668, 669, 670, 671, 672, 673, 674, 675, 676, 677, 678, 679, 680, 681, 682] (by decide +kernel) (by decide +kernel)
set_option maxRecDepth 20000 in
theorem gL_law_X4_round : GoodIn wsL_law (wsV RL 125 RX4 yX4_round wsX4_round) := goodIn_app (goodIn_of _ (by decide +kernel)) ggL_law_X4_round
set_option maxRecDepth 20000 in
theorem ggL_law_L_cash : GoodIn wsL_law wsL_cash := goodIn_ca (goodIn_ca (goodIn_r _ [460, 147, 79, 461, 462, 463, 2, 464, 97, 98, 23, 465, 466, 467, 468, 469, 470, 152, 153, 471, 472, 473, 22, 474, 113, 652, 653, 654, 655, 656, 657, 658, 659, 660, 689, 690, 691, 692, 693] (by decide +kernel) (by decide +kernel)) (goodIn_sub (fun _ h => List.mem_append_left _ (List.mem_append_right _ h)) (by decide +kernel))) (goodIn_sub (fun _ h => List.mem_append_right _ h) (by decide +kernel))
set_option maxRecDepth 20000 in
theorem gL_law_L_cash : GoodIn wsL_law (va_wsS RL 126 yL_cash wsL_cash) := goodIn_app (goodIn_of _ (by decide +kernel)) ggL_law_L_cash
set_option maxRecDepth 20000 in
theorem ggL_law_X4_cash : GoodIn wsL_law wsX4_cash := goodIn_r _ [478, 68, 66, 479, 480, 481, 5, 482, 119, 123, 124, 125, 126, 127, 128, 129, 130, 661, 662, 663, 664, 665, 666, 667, 668, 669, 670, 671, 672, 673, 674, 675, 676, 677, 678, 679, 680, 681, 682] (by decide +kernel) (by decide +kernel)
set_option maxRecDepth 20000 in
theorem gL_law_X4_cash : GoodIn wsL_law (wsV RL 128 RX4 yX4_cash wsX4_cash) := goodIn_app (goodIn_of _ (by decide +kernel)) ggL_law_X4_cash
set_option maxRecDepth 20000 in
theorem ggL_law_X3_today : GoodIn wsL_law wsX3_today := goodIn_r _ [486, 165, 652, 653, 654, 655, 656, 657, 658, 659, 660] (by decide +kernel) (by decide +kernel)
set_option maxRecDepth 20000 in
theorem gL_law_X3_today : GoodIn wsL_law (wsV RL 129 RX3 yX3_today wsX3_today) := goodIn_app (goodIn_of _ (by decide +kernel)) ggL_law_X3_today
set_option maxRecDepth 20000 in
theorem ggL_law_X4_today : GoodIn wsL_law wsX4_today := goodIn_r _ [490, 130, 179, 661, 662, 663, 664, 665, 666, 667, 668, 669, 670, 671, 672, 673, 674, 675, 676, 677, 678, 679, 680, 681, 682] (by decide +kernel) (by decide +kernel)
set_option maxRecDepth 20000 in
theorem gL_law_X4_today : GoodIn wsL_law (wsV RL 132 RX4 yX4_today wsX4_today) := goodIn_app (goodIn_of _ (by decide +kernel)) ggL_law_X4_today
set_option maxRecDepth 20000 in
theorem ggL_law_X3_claims : GoodIn wsL_law wsX3_claims := goodIn_r _ [494, 19, 300, 652, 653, 654, 655, 656, 657, 658, 659, 660, 683, 684, 685, 686, 687, 688] (by decide +kernel) (by decide +kernel)
set_option maxRecDepth 20000 in
theorem gL_law_X3_claims : GoodIn wsL_law (wsV RL 133 RX3 yX3_claims wsX3_claims) := goodIn_app (goodIn_of _ (by decide +kernel)) ggL_law_X3_claims
set_option maxRecDepth 20000 in
theorem ggL_law_X4_claims : GoodIn wsL_law wsX4_claims := goodIn_r _ [498, 130, 180, 661, 662, 663, 664, 665, 666, 667, 668, 669, 670, 671, 672, 673, 674, 675, 676, 677, 678, 679, 680, 681, 682] (by decide +kernel) (by decide +kernel)
set_option maxRecDepth 20000 in
theorem gL_law_X4_claims : GoodIn wsL_law (wsV RL 136 RX4 yX4_claims wsX4_claims) := goodIn_app (goodIn_of _ (by decide +kernel)) ggL_law_X4_claims
set_option maxRecDepth 20000 in
theorem ggL_law_L_claimOf : GoodIn wsL_law wsL_claimOf := goodIn_ca (goodIn_r _ [501, 147, 502, 503, 504, 2, 505, 152, 153, 19, 188, 90, 91, 92, 652, 653, 654, 655, 656, 657, 658, 659, 660, 683, 684, 685, 686, 687, 688] (by decide +kernel) (by decide +kernel)) (goodIn_sub (fun _ h => List.mem_append_right _ h) (by decide +kernel))
set_option maxRecDepth 20000 in
theorem gL_law_L_claimOf : GoodIn wsL_law (va_wsS RL 137 yL_claimOf wsL_claimOf) := goodIn_app (goodIn_of _ (by decide +kernel)) ggL_law_L_claimOf
set_option maxRecDepth 20000 in
theorem ggL_law_X4_claimOf : GoodIn wsL_law wsX4_claimOf := goodIn_r _ [509, 123, 124, 5, 125, 126, 127, 128, 129, 130, 213, 214, 215, 216, 180, 60, 661, 662, 663, 664, 665, 666, 667, 668, 669, 670, 671, 672, 673, 674, 675, 676, 677, 678, 679, 680, 681, 682] (by decide +kernel) (by decide +kernel)
set_option maxRecDepth 20000 in
theorem gL_law_X4_claimOf : GoodIn wsL_law (wsV RL 139 RX4 yX4_claimOf wsX4_claimOf) := goodIn_app (goodIn_of _ (by decide +kernel)) ggL_law_X4_claimOf
set_option maxRecDepth 20000 in
theorem ggL_law_L_stateOf : GoodIn wsL_law wsL_stateOf := goodIn_ca (goodIn_r _ [512, 147, 513, 514, 515, 2, 516, 19, 224, 226, 227, 228, 229, 152, 153, 189, 190, 191, 18, 192, 170, 652, 653, 654, 655, 656, 657, 658, 659, 660, 683, 684, 685, 686, 687, 688] (by decide +kernel) (by decide +kernel)) (goodIn_sub (fun _ h => List.mem_append_right _ h) (by decide +kernel))
set_option maxRecDepth 20000 in
theorem gL_law_L_stateOf : GoodIn wsL_law (va_wsS RL 140 yL_stateOf wsL_stateOf) := goodIn_app (goodIn_of _ (by decide +kernel)) ggL_law_L_stateOf
set_option maxRecDepth 20000 in
theorem ggL_law_X4_stateOf : GoodIn wsL_law wsX4_stateOf := goodIn_r _ [520, 62, 521, 522, 523, 5, 524, 234, 235, 236, 237, 180, 123, 124, 125, 126, 127, 128, 129, 130, 661, 662, 663, 664, 665, 666, 667, 668, 669, 670, 671, 672, 673, 674, 675, 676, 677, 678, 679, 680, 681, 682] (by decide +kernel) (by decide +kernel)
set_option maxRecDepth 20000 in
theorem gL_law_X4_stateOf : GoodIn wsL_law (wsV RL 142 RX4 yX4_stateOf wsX4_stateOf) := goodIn_app (goodIn_of _ (by decide +kernel)) ggL_law_X4_stateOf
set_option maxRecDepth 20000 in
theorem ggL_law_L_gradeOf : GoodIn wsL_law wsL_gradeOf := goodIn_ca (goodIn_r _ [527, 147, 528, 529, 530, 2, 531, 19, 301, 226, 227, 228, 229, 152, 153, 189, 190, 191, 18, 192, 170, 652, 653, 654, 655, 656, 657, 658, 659, 660, 683, 684, 685, 686, 687, 688] (by decide +kernel) (by decide +kernel)) (goodIn_sub (fun _ h => List.mem_append_right _ h) (by decide +kernel))
set_option maxRecDepth 20000 in
theorem gL_law_L_gradeOf : GoodIn wsL_law (va_wsS RL 143 yL_gradeOf wsL_gradeOf) := goodIn_app (goodIn_of _ (by decide +kernel)) ggL_law_L_gradeOf
set_option maxRecDepth 20000 in
theorem ggL_law_X4_gradeOf : GoodIn wsL_law wsX4_gradeOf := goodIn_r _ [535, 61, 521, 522, 523, 5, 524, 234, 235, 236, 237, 180, 123, 124, 125, 126, 127, 128, 129, 130, 661, 662, 663, 664, 665, 666, 667, 668, 669, 670, 671, 672, 673, 674, 675, 676, 677, 678, 679, 680, 681, 682] (by decide +kernel) (by decide +kernel)
set_option maxRecDepth 20000 in
theorem gL_law_X4_gradeOf : GoodIn wsL_law (wsV RL 145 RX4 yX4_gradeOf wsX4_gradeOf) := goodIn_app (goodIn_of _ (by decide +kernel)) ggL_law_X4_gradeOf
set_option maxRecDepth 20000 in
theorem ggL_law_L_room : GoodIn wsL_law wsL_room := goodIn_ca (goodIn_r _ [538, 147, 539, 312, 313, 2, 314, 15, 19, 301, 23, 226, 227, 228, 229, 152, 153, 189, 190, 191, 18, 192, 170, 315, 316, 317, 318, 319, 320, 22, 321, 113, 42, 44, 43, 652, 653, 654, 655, 656, 657, 658, 659, 660, 683, 684, 685, 686, 687, 688, 689, 690, 691, 692, 693] (by decide +kernel) (by decide +kernel)) (goodIn_sub (fun _ h => List.mem_append_right _ h) (by decide +kernel))
set_option maxRecDepth 20000 in
theorem gL_law_L_room : GoodIn wsL_law (va_wsS RL 146 yL_room wsL_room) := goodIn_app (goodIn_of _ (by decide +kernel)) ggL_law_L_room
set_option maxRecDepth 20000 in
theorem ggL_law_X4_room : GoodIn wsL_law wsX4_room := goodIn_r _ [543, 521, 522, 523, 5, 524, 234, 235, 236, 237, 180, 123, 124, 125, 126, 127, 128, 129, 130, 418, 419, 420, 421, 59, 61, 422, 423, 424, 425, 119, 65, 68, 66, 661, 662, 663, 664, 665, 666, 667, 668, 669, 670, 671, 672, 673, 674, 675, 676, 677, 678, 679, 680, 681, 682] (by decide +kernel) (by decide +kernel)
set_option maxRecDepth 20000 in
theorem gL_law_X4_room : GoodIn wsL_law (wsV RL 148 RX4 yX4_room wsX4_room) := goodIn_app (goodIn_of _ (by decide +kernel)) ggL_law_X4_room
set_option maxRecDepth 20000 in
theorem ggL_law_L_paidTo : GoodIn wsL_law wsL_paidTo := goodIn_ca (goodIn_r _ [546, 147, 547, 548, 549, 2, 550, 23, 226, 227, 228, 229, 152, 153, 19, 189, 190, 191, 18, 192, 170, 318, 319, 320, 22, 321, 113, 42, 44, 43, 652, 653, 654, 655, 656, 657, 658, 659, 660, 683, 684, 685, 686, 687, 688, 689, 690, 691, 692, 693] (by decide +kernel) (by decide +kernel)) (goodIn_sub (fun _ h => List.mem_append_right _ h) (by decide +kernel))
set_option maxRecDepth 20000 in
theorem gL_law_L_paidTo : GoodIn wsL_law (va_wsS RL 149 yL_paidTo wsL_paidTo) := goodIn_app (goodIn_of _ (by decide +kernel)) ggL_law_L_paidTo
set_option maxRecDepth 20000 in
theorem ggL_law_X4_paidTo : GoodIn wsL_law wsX4_paidTo := goodIn_r _ [554, 521, 522, 523, 5, 524, 234, 235, 236, 237, 180, 123, 124, 125, 126, 127, 128, 129, 130, 422, 423, 424, 425, 119, 65, 68, 66, 661, 662, 663, 664, 665, 666, 667, 668, 669, 670, 671, 672, 673, 674, 675, 676, 677, 678, 679, 680, 681, 682] (by decide +kernel) (by decide +kernel)
set_option maxRecDepth 20000 in
theorem gL_law_X4_paidTo : GoodIn wsL_law (wsV RL 151 RX4 yX4_paidTo wsX4_paidTo) := goodIn_app (goodIn_of _ (by decide +kernel)) ggL_law_X4_paidTo
set_option maxRecDepth 20000 in
theorem ggL_law_L_count : GoodIn wsL_law wsL_count := goodIn_ca (goodIn_r _ [557, 78, 558, 559, 560, 2, 561, 84, 85, 19, 90, 91, 92, 257, 258, 259, 18, 260, 170, 35, 652, 653, 654, 655, 656, 657, 658, 659, 660, 683, 684, 685, 686, 687, 688] (by decide +kernel) (by decide +kernel)) (goodIn_sub (fun _ h => List.mem_append_left _ (List.mem_append_left _ (List.mem_append_right _ h))) (by decide +kernel))
set_option maxRecDepth 20000 in
theorem gL_law_L_count : GoodIn wsL_law (va_wsS RL 152 yL_count wsL_count) := goodIn_app (goodIn_of _ (by decide +kernel)) ggL_law_L_count
set_option maxRecDepth 20000 in
theorem ggL_law_X4_count : GoodIn wsL_law wsX4_count := goodIn_r _ [565, 123, 124, 5, 125, 126, 127, 128, 129, 130, 265, 266, 267, 268, 180, 62, 661, 662, 663, 664, 665, 666, 667, 668, 669, 670, 671, 672, 673, 674, 675, 676, 677, 678, 679, 680, 681, 682] (by decide +kernel) (by decide +kernel)
set_option maxRecDepth 20000 in
theorem gL_law_X4_count : GoodIn wsL_law (wsV RL 154 RX4 yX4_count wsX4_count) := goodIn_app (goodIn_of _ (by decide +kernel)) ggL_law_X4_count
set_option maxRecDepth 20000 in
theorem ggL_law_X3_moneyLeft : GoodIn wsL_law wsX3_moneyLeft := goodIn_r _ [103, 87, 89, 23, 104, 105, 106, 2, 107, 88, 108, 109, 110, 111, 22, 112, 113, 44, 43, 652, 653, 654, 655, 656, 657, 658, 659, 660, 689, 690, 691, 692, 693] (by decide +kernel) (by decide +kernel)
set_option maxRecDepth 20000 in
theorem gL_law_X3_moneyLeft : GoodIn wsL_law (wsV RL 155 RX3 yX3_moneyLeft wsX3_moneyLeft) := goodIn_app (goodIn_of _ (by decide +kernel)) ggL_law_X3_moneyLeft
set_option maxRecDepth 20000 in
theorem ggL_law_X4_moneyLeft : GoodIn wsL_law wsX4_moneyLeft := goodIn_r _ [570, 130, 131, 132, 133, 5, 134, 120, 122, 119, 68, 66, 135, 136, 137, 138, 121, 139, 661, 662, 663, 664, 665, 666, 667, 668, 669, 670, 671, 672, 673, 674, 675, 676, 677, 678, 679, 680, 681, 682] (by decide +kernel) (by decide +kernel)
set_option maxRecDepth 20000 in
theorem gL_law_X4_moneyLeft : GoodIn wsL_law (wsV RL 158 RX4 yX4_moneyLeft wsX4_moneyLeft) := goodIn_app (goodIn_of _ (by decide +kernel)) ggL_law_X4_moneyLeft
set_option maxRecDepth 20000 in
theorem ggL_law_X3_fee : GoodIn wsL_law wsX3_fee := goodIn_r _ [107, 87, 88, 108, 652, 653, 654, 655, 656, 657, 658, 659, 660] (by decide +kernel) (by decide +kernel)
set_option maxRecDepth 20000 in
theorem gL_law_X3_fee : GoodIn wsL_law (wsV RL 159 RX3 yX3_fee wsX3_fee) := goodIn_app (goodIn_of _ (by decide +kernel)) ggL_law_X3_fee
set_option maxRecDepth 20000 in
theorem ggL_law_X4_fee : GoodIn wsL_law wsX4_fee := goodIn_r _ [575, 130, 135, 136, 137, 5, 138, 120, 121, 139, 661, 662, 663, 664, 665, 666, 667, 668, 669, 670, 671, 672, 673, 674, 675, 676, 677, 678, 679, 680, 681, 682] (by decide +kernel) (by decide +kernel)
set_option maxRecDepth 20000 in
theorem gL_law_X4_fee : GoodIn wsL_law (wsV RL 162 RX4 yX4_fee wsX4_fee) := goodIn_app (goodIn_of _ (by decide +kernel)) ggL_law_X4_fee
set_option maxRecDepth 20000 in
theorem ggL_law_X3_payments : GoodIn wsL_law wsX3_payments := goodIn_r _ [579, 23, 99, 652, 653, 654, 655, 656, 657, 658, 659, 660, 689, 690, 691, 692, 693] (by decide +kernel) (by decide +kernel)
set_option maxRecDepth 20000 in
theorem gL_law_X3_payments : GoodIn wsL_law (wsV RL 163 RX3 yX3_payments wsX3_payments) := goodIn_app (goodIn_of _ (by decide +kernel)) ggL_law_X3_payments
set_option maxRecDepth 20000 in
theorem ggL_law_X4_payments : GoodIn wsL_law wsX4_payments := goodIn_r _ [583, 130, 119, 661, 662, 663, 664, 665, 666, 667, 668, 669, 670, 671, 672, 673, 674, 675, 676, 677, 678, 679, 680, 681, 682] (by decide +kernel) (by decide +kernel)
set_option maxRecDepth 20000 in
theorem gL_law_X4_payments : GoodIn wsL_law (wsV RL 166 RX4 yX4_payments wsX4_payments) := goodIn_app (goodIn_of _ (by decide +kernel)) ggL_law_X4_payments
set_option maxRecDepth 20000 in
theorem ggL_law_L_paymentTo : GoodIn wsL_law wsL_paymentTo := goodIn_ca (goodIn_r _ [586, 147, 587, 588, 589, 2, 590, 23, 591, 467, 468, 469, 470, 152, 153, 471, 472, 473, 22, 474, 113, 652, 653, 654, 655, 656, 657, 658, 659, 660, 689, 690, 691, 692, 693] (by decide +kernel) (by decide +kernel)) (goodIn_sub (fun _ h => List.mem_append_right _ h) (by decide +kernel))
set_option maxRecDepth 20000 in
theorem gL_law_L_paymentTo : GoodIn wsL_law (va_wsS RL 167 yL_paymentTo wsL_paymentTo) := goodIn_app (goodIn_of _ (by decide +kernel)) ggL_law_L_paymentTo
set_option maxRecDepth 20000 in
theorem ggL_law_X4_paymentTo : GoodIn wsL_law wsX4_paymentTo := goodIn_r _ [595, 65, 596, 597, 598, 5, 599, 479, 480, 481, 482, 119, 123, 124, 125, 126, 127, 128, 129, 130, 661, 662, 663, 664, 665, 666, 667, 668, 669, 670, 671, 672, 673, 674, 675, 676, 677, 678, 679, 680, 681, 682] (by decide +kernel) (by decide +kernel)
set_option maxRecDepth 20000 in
theorem gL_law_X4_paymentTo : GoodIn wsL_law (wsV RL 169 RX4 yX4_paymentTo wsX4_paymentTo) := goodIn_app (goodIn_of _ (by decide +kernel)) ggL_law_X4_paymentTo
set_option maxRecDepth 20000 in
theorem ggL_law_L_amountOf : GoodIn wsL_law wsL_amountOf := goodIn_ca (goodIn_r _ [602, 147, 603, 604, 605, 2, 606, 23, 466, 467, 468, 469, 470, 152, 153, 471, 472, 473, 22, 474, 113, 652, 653, 654, 655, 656, 657, 658, 659, 660, 689, 690, 691, 692, 693] (by decide +kernel) (by decide +kernel)) (goodIn_sub (fun _ h => List.mem_append_right _ h) (by decide +kernel))
set_option maxRecDepth 20000 in
theorem gL_law_L_amountOf : GoodIn wsL_law (va_wsS RL 170 yL_amountOf wsL_amountOf) := goodIn_app (goodIn_of _ (by decide +kernel)) ggL_law_L_amountOf
set_option maxRecDepth 20000 in
theorem ggL_law_X4_amountOf : GoodIn wsL_law wsX4_amountOf := goodIn_r _ [610, 66, 596, 597, 598, 5, 599, 479, 480, 481, 482, 119, 123, 124, 125, 126, 127, 128, 129, 130, 661, 662, 663, 664, 665, 666, 667, 668, 669, 670, 671, 672, 673, 674, 675, 676, 677, 678, 679, 680, 681, 682] (by decide +kernel) (by decide +kernel)
set_option maxRecDepth 20000 in
theorem gL_law_X4_amountOf : GoodIn wsL_law (wsV RL 172 RX4 yX4_amountOf wsX4_amountOf) := goodIn_app (goodIn_of _ (by decide +kernel)) ggL_law_X4_amountOf
set_option maxRecDepth 20000 in
theorem ggL_law_L_paymentState : GoodIn wsL_law wsL_paymentState := goodIn_ca (goodIn_r _ [613, 147, 614, 615, 616, 2, 617, 23, 465, 467, 468, 469, 470, 152, 153, 471, 472, 473, 22, 474, 113, 652, 653, 654, 655, 656, 657, 658, 659, 660, 689, 690, 691, 692, 693] (by decide +kernel) (by decide +kernel)) (goodIn_sub (fun _ h => List.mem_append_right _ h) (by decide +kernel))
set_option maxRecDepth 20000 in
theorem gL_law_L_paymentState : GoodIn wsL_law (va_wsS RL 173 yL_paymentState wsL_paymentState) := goodIn_app (goodIn_of _ (by decide +kernel)) ggL_law_L_paymentState
set_option maxRecDepth 20000 in
theorem ggL_law_X4_paymentState : GoodIn wsL_law wsX4_paymentState := goodIn_r _ [621, 68, 596, 597, 598, 5, 599, 479, 480, 481, 482, 119, 123, 124, 125, 126, 127, 128, 129, 130, 661, 662, 663, 664, 665, 666, 667, 668, 669, 670, 671, 672, 673, 674, 675, 676, 677, 678, 679, 680, 681, 682] (by decide +kernel) (by decide +kernel)
set_option maxRecDepth 20000 in
theorem gL_law_X4_paymentState : GoodIn wsL_law (wsV RL 175 RX4 yX4_paymentState wsX4_paymentState) := goodIn_app (goodIn_of _ (by decide +kernel)) ggL_law_X4_paymentState
set_option maxRecDepth 20000 in
theorem ggL_law_L_shareOf : GoodIn wsL_law wsL_shareOf := goodIn_ca (goodIn_ca (goodIn_r _ [624, 147, 78, 625, 626, 627, 2, 628, 629, 630, 631, 632, 27, 226, 227, 228, 229, 152, 153, 19, 189, 190, 191, 18, 192, 170, 287, 288, 289, 290, 84, 85, 291, 90, 91, 92, 296, 297, 298, 299, 300, 14, 301, 302, 303, 304, 26, 305, 306, 100, 101, 102, 103, 87, 89, 23, 104, 105, 106, 107, 88, 108, 109, 110, 111, 22, 112, 113, 44, 43, 307, 308, 309, 310, 224, 311, 312, 313, 314, 15, 315, 316, 317, 318, 319, 320, 321, 42, 322, 323, 324, 325, 326, 327, 328, 329, 49, 50, 51, 330, 331, 332, 333, 52, 334, 335, 336, 337, 338, 339, 340, 341, 342, 343, 344, 345, 346, 347, 348, 349, 350, 351, 352, 353, 354, 355, 53, 356, 357, 358, 359, 360, 361, 362, 363, 364, 365, 366, 367, 368, 369, 370, 371, 372, 373, 374, 375, 376, 377, 378, 379, 380, 381, 382, 383, 384, 385, 386, 387, 400, 401, 402, 403, 652, 653, 654, 655, 656, 657, 658, 659, 660, 683, 684, 685, 686, 687, 688, 694, 695, 696, 697, 698, 699, 700, 701, 689, 690, 691, 692, 693] (by decide +kernel) (by decide +kernel)) (goodIn_sub (fun _ h => List.mem_append_right _ h) (by decide +kernel))) (goodIn_sub (fun _ h => List.mem_append_left _ (List.mem_append_left _ (List.mem_append_right _ h))) (by decide +kernel))
set_option maxRecDepth 20000 in
theorem gL_law_L_shareOf : GoodIn wsL_law (va_wsS RL 176 yL_shareOf wsL_shareOf) := goodIn_app (goodIn_of _ (by decide +kernel)) ggL_law_L_shareOf
set_option maxRecDepth 20000 in
theorem ggL_law_X4_shareOf : GoodIn wsL_law wsX4_shareOf := goodIn_r _ [636, 637, 638, 639, 5, 640, 413, 69, 71, 234, 235, 236, 237, 180, 123, 124, 125, 126, 127, 128, 129, 130, 414, 415, 416, 417, 72, 62, 131, 132, 133, 134, 120, 122, 119, 68, 66, 135, 136, 137, 138, 121, 139, 418, 419, 420, 421, 59, 61, 422, 423, 424, 425, 65, 426, 427, 428, 429, 430, 431, 432, 433, 70, 434, 435, 436, 437, 58, 438, 439, 440, 441, 442, 443, 444, 445, 446, 447, 448, 449, 450, 451, 452, 453, 661, 662, 663, 664, 665, 666, 667, 668, 669, 670, 671, 672, 673, 674, 675, 676, 677, 678, 679, 680, 681, 682] (by decide +kernel) (by decide +kernel)
set_option maxRecDepth 20000 in
theorem gL_law_X4_shareOf : GoodIn wsL_law (wsV RL 179 RX4 yX4_shareOf wsX4_shareOf) := goodIn_app (goodIn_of _ (by decide +kernel)) ggL_law_X4_shareOf
set_option maxRecDepth 20000 in
theorem ggL_law_L_shareBySorting : GoodIn wsL_law wsL_shareBySorting := goodIn_ca (goodIn_ca (goodIn_r _ [643, 147, 78, 644, 645, 646, 2, 647, 629, 630, 631, 632, 27, 226, 227, 228, 229, 152, 153, 19, 189, 190, 191, 18, 192, 170, 287, 288, 289, 290, 84, 85, 291, 90, 91, 92, 296, 297, 298, 299, 300, 14, 301, 302, 303, 304, 26, 305, 306, 100, 101, 102, 103, 87, 89, 23, 104, 105, 106, 107, 88, 108, 109, 110, 111, 22, 112, 113, 44, 43, 307, 308, 309, 310, 224, 311, 312, 313, 314, 15, 315, 316, 317, 318, 319, 320, 321, 42, 322, 323, 324, 325, 326, 327, 328, 329, 49, 50, 51, 330, 331, 332, 333, 52, 334, 335, 336, 337, 338, 339, 340, 341, 342, 343, 344, 345, 346, 347, 348, 349, 350, 351, 352, 353, 354, 355, 53, 356, 357, 358, 359, 360, 361, 362, 363, 364, 365, 366, 367, 368, 369, 370, 371, 372, 373, 374, 375, 376, 377, 378, 379, 380, 381, 382, 383, 384, 385, 386, 387, 400, 401, 402, 403, 652, 653, 654, 655, 656, 657, 658, 659, 660, 683, 684, 685, 686, 687, 688, 694, 695, 696, 697, 698, 699, 700, 701, 689, 690, 691, 692, 693] (by decide +kernel) (by decide +kernel)) (goodIn_sub (fun _ h => List.mem_append_right _ h) (by decide +kernel))) (goodIn_sub (fun _ h => List.mem_append_left _ (List.mem_append_left _ (List.mem_append_right _ h))) (by decide +kernel))
set_option maxRecDepth 20000 in
theorem gL_law_L_shareBySorting : GoodIn wsL_law (va_wsS RL 180 yL_shareBySorting wsL_shareBySorting) := goodIn_app (goodIn_of _ (by decide +kernel)) ggL_law_L_shareBySorting
set_option maxRecDepth 20000 in
theorem ggL_law_X4_shareBySorting : GoodIn wsL_law wsX4_shareBySorting := goodIn_r _ [651, 637, 638, 639, 5, 640, 413, 69, 71, 234, 235, 236, 237, 180, 123, 124, 125, 126, 127, 128, 129, 130, 414, 415, 416, 417, 72, 62, 131, 132, 133, 134, 120, 122, 119, 68, 66, 135, 136, 137, 138, 121, 139, 418, 419, 420, 421, 59, 61, 422, 423, 424, 425, 65, 426, 427, 428, 429, 430, 431, 432, 433, 70, 434, 435, 436, 437, 58, 438, 439, 440, 441, 442, 443, 444, 445, 446, 447, 448, 449, 450, 451, 452, 453, 661, 662, 663, 664, 665, 666, 667, 668, 669, 670, 671, 672, 673, 674, 675, 676, 677, 678, 679, 680, 681, 682] (by decide +kernel) (by decide +kernel)
set_option maxRecDepth 20000 in
theorem gL_law_X4_shareBySorting : GoodIn wsL_law (wsV RL 182 RX4 yX4_shareBySorting wsX4_shareBySorting) := goodIn_app (goodIn_of _ (by decide +kernel)) ggL_law_X4_shareBySorting
