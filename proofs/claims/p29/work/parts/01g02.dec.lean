set_option maxRecDepth 20000 in
theorem ggL_law_X3_init : GoodIn wsL_law wsX3_init := goodIn_r _ [11, 12, 13, 14, 3, 15, 16, 17, 18, 19, 20, 21, 22, 23, 24, 25, 26, 27, 28, 29, 30, 31, 32, 33, 34, 35, 36, 37, 38, 39, 40, 41, 42, 43, 44, 45, 46, 47, 48, 49, 50, 51, 52, 53, 54, 415, 416, 417, 418, 419, 420, 421, 422, 423, 424, 425, 426, 427, 428, 429, 430, 431, 432, 433, 434, 435, 436, 437, 438, 439, 440, 441, 442] (by decide +kernel) (by decide +kernel)
set_option maxRecDepth 20000 in
theorem gL_law_X3_init : GoodIn wsL_law (wsX3_init) := ggL_law_X3_init
set_option maxRecDepth 20000 in
theorem gL_law_L_isRefused : GoodIn wsL_law (va_wsS RL 142 yL_isRefused wsL_isRefused) := goodIn_app (goodIn_of _ (by decide +kernel)) ggL_law_L_isRefused
set_option maxRecDepth 20000 in
theorem ggL_law_L_dice : GoodIn wsL_law wsL_dice := goodIn_r _ [391, 392, 393] (by decide +kernel) (by decide +kernel)
set_option maxRecDepth 20000 in
theorem gL_law_L_dice : GoodIn wsL_law (va_wsS RL 146 yL_dice wsL_dice) := goodIn_app (goodIn_of _ (by decide +kernel)) ggL_law_L_dice
set_option maxRecDepth 20000 in
theorem ggL_law_X3_claims : GoodIn wsL_law wsX3_claims := goodIn_r _ [65, 20, 66, 415, 416, 417, 418, 419, 420, 421, 422, 423, 424, 425, 426, 427, 428, 429] (by decide +kernel) (by decide +kernel)
set_option maxRecDepth 20000 in
theorem gL_law_X3_claims : GoodIn wsL_law (wsV RL 103 RX3 yX3_claims wsX3_claims) := goodIn_app (goodIn_of _ (by decide +kernel)) ggL_law_X3_claims
set_option maxRecDepth 20000 in
theorem ggL_law_X3_payments : GoodIn wsL_law wsX3_payments := goodIn_r _ [70, 24, 71, 415, 416, 417, 418, 419, 420, 421, 422, 423, 430, 431, 432, 433, 434] (by decide +kernel) (by decide +kernel)
set_option maxRecDepth 20000 in
theorem gL_law_X3_payments : GoodIn wsL_law (wsV RL 112 RX3 yX3_payments wsX3_payments) := goodIn_app (goodIn_of _ (by decide +kernel)) ggL_law_X3_payments
set_option maxRecDepth 20000 in
theorem gL_law_L_act : GoodIn wsL_law (va_wsS RL 128 yL_act wsL_act) := goodIn_app (goodIn_of _ (by decide +kernel)) ggL_law_L_act
set_option maxRecDepth 20000 in
theorem ggL_law_X3_fee : GoodIn wsL_law wsX3_fee := goodIn_r _ [95, 90, 96, 97, 415, 416, 417, 418, 419, 420, 421, 422, 423] (by decide +kernel) (by decide +kernel)
set_option maxRecDepth 20000 in
theorem gL_law_X3_fee : GoodIn wsL_law (wsV RL 100 RX3 yX3_fee wsX3_fee) := goodIn_app (goodIn_of _ (by decide +kernel)) ggL_law_X3_fee
set_option maxRecDepth 20000 in
theorem gL_law_L_setGrade : GoodIn wsL_law (va_wsS RL 133 yL_setGrade wsL_setGrade) := goodIn_app (goodIn_of _ (by decide +kernel)) ggL_law_L_setGrade
set_option maxRecDepth 20000 in
theorem ggL_law_X3_paymentState : GoodIn wsL_law wsX3_paymentState := goodIn_ca (goodIn_r _ [136, 24, 137, 138, 139, 140, 2, 141, 113, 114, 142, 143, 144, 23, 145, 102, 415, 416, 417, 418, 419, 420, 421, 422, 423, 430, 431, 432, 433, 434] (by decide +kernel) (by decide +kernel)) (goodIn_sub (fun _ h => List.mem_append_left _ (List.mem_append_left _ (List.mem_append_right _ h))) (by decide +kernel))
set_option maxRecDepth 20000 in
theorem gL_law_X3_paymentState : GoodIn wsL_law (wsV RL 76 RX3 yX3_paymentState wsX3_paymentState) := goodIn_app (goodIn_of _ (by decide +kernel)) ggL_law_X3_paymentState
set_option maxRecDepth 20000 in
theorem ggL_law_X3_amountOf : GoodIn wsL_law wsX3_amountOf := goodIn_ca (goodIn_r _ [154, 24, 155, 138, 139, 140, 2, 141, 113, 114, 142, 143, 144, 23, 145, 102, 415, 416, 417, 418, 419, 420, 421, 422, 423, 430, 431, 432, 433, 434] (by decide +kernel) (by decide +kernel)) (goodIn_sub (fun _ h => List.mem_append_left _ (List.mem_append_left _ (List.mem_append_right _ h))) (by decide +kernel))
set_option maxRecDepth 20000 in
theorem gL_law_X3_amountOf : GoodIn wsL_law (wsV RL 73 RX3 yX3_amountOf wsX3_amountOf) := goodIn_app (goodIn_of _ (by decide +kernel)) ggL_law_X3_amountOf
set_option maxRecDepth 20000 in
theorem gL_law_L_areMoney : GoodIn wsL_law (va_wsS RL 168 yL_areMoney wsL_areMoney) := goodIn_app (goodIn_of _ (by decide +kernel)) ggL_law_L_areMoney
set_option maxRecDepth 20000 in
theorem gL_law_L_areShares : GoodIn wsL_law (va_wsS RL 172 yL_areShares wsL_areShares) := goodIn_app (goodIn_of _ (by decide +kernel)) ggL_law_L_areShares
