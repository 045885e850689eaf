set_option maxRecDepth 20000 in
theorem ggX6_debtAfterPosting_X6_debt : GoodIn wsX6_debtAfterPosting wsX6_debt := goodIn_r _ [7, 8, 9, 10, 23, 24, 25, 26, 27, 28, 29, 30, 31, 32, 33, 34, 35, 36, 37, 38, 39] (by decide +kernel) (by decide +kernel)
set_option maxRecDepth 20000 in
theorem gX6_debtAfterPosting_X6_debt : GoodIn wsX6_debtAfterPosting (wsV RX6 69 RX6 yX6_debt wsX6_debt) := goodIn_app (goodIn_of _ (by decide +kernel)) ggX6_debtAfterPosting_X6_debt
set_option maxRecDepth 20000 in
theorem ggX6_debtAfterPosting_X9_toCents : GoodIn wsX6_debtAfterPosting wsX9_toCents := goodIn_r _ [14, 15, 16, 17, 18, 19, 20, 21, 22] (by decide +kernel) (by decide +kernel)
set_option maxRecDepth 20000 in
theorem gX6_debtAfterPosting_X9_toCents : GoodIn wsX6_debtAfterPosting (va_wsS RX6 73 yX9_toCents wsX9_toCents) := goodIn_app (goodIn_of _ (by decide +kernel)) ggX6_debtAfterPosting_X9_toCents
set_option maxRecDepth 20000 in
theorem ggX7_startFrom_J6_bitCount_0f7a4 : GoodIn wsX7_startFrom wsJ6_bitCount_0f7a4 := goodIn_r _ [18, 19, 20, 21] (by decide +kernel) (by decide +kernel)
set_option maxRecDepth 20000 in
theorem gX7_startFrom_J6_bitCount_0f7a4 : GoodIn wsX7_startFrom (va_wsS RX7 78 yJ6_bitCount_0f7a4 wsJ6_bitCount_0f7a4) := goodIn_app (goodIn_of _ (by decide +kernel)) ggX7_startFrom_J6_bitCount_0f7a4
set_option maxRecDepth 20000 in
theorem ggX10_explain_X10_isWithin : GoodIn wsX10_explain wsX10_isWithin := goodIn_r _ [13] (by decide +kernel) (by decide +kernel)
set_option maxRecDepth 20000 in
theorem gX10_explain_X10_isWithin : GoodIn wsX10_explain (va_wsS RX10 65 yX10_isWithin wsX10_isWithin) := goodIn_app (goodIn_of _ (by decide +kernel)) ggX10_explain_X10_isWithin
set_option maxRecDepth 20000 in
theorem ggX10_explain_X0_refusal : GoodIn wsX10_explain wsX0_refusal := goodIn_ca (goodIn_r _ [18, 19, 20, 21, 11, 12, 13, 22, 23, 17, 24, 25, 26, 27, 28, 29, 30, 31, 32, 33, 34, 35, 36, 37, 38, 39, 40, 41, 42, 43, 44, 45, 46, 47, 48, 49, 50, 51, 313, 314, 315, 316, 317, 318, 319, 320, 321, 322, 323, 324, 325, 326, 327, 328, 329, 330, 331, 332, 333, 334, 335, 336, 337] (by decide +kernel) (by decide +kernel)) (goodIn_sub (fun _ h => List.mem_cons_of_mem _ (List.mem_append_left _ (List.mem_append_left _ (List.mem_append_left _ (List.mem_append_right _ h))))) (by decide +kernel))
set_option maxRecDepth 20000 in
theorem gX10_explain_X0_refusal : GoodIn wsX10_explain (wsV RX10 121 RX0 yX0_refusal wsX0_refusal) := goodIn_app (goodIn_of _ (by decide +kernel)) ggX10_explain_X0_refusal
set_option maxRecDepth 20000 in
theorem ggX10_explain_X10_refuse : GoodIn wsX10_explain wsX10_refuse := goodIn_ca (goodIn_ca (goodIn_ca (goodIn_r _ [54, 1, 2, 55, 56, 57, 58] (by decide +kernel) (by decide +kernel)) (goodIn_sub (fun _ h => List.mem_cons_of_mem _ (List.mem_append_left _ (List.mem_append_left _ (List.mem_append_left _ (List.mem_append_left _ (List.mem_append_right _ h)))))) (by decide +kernel))) (goodIn_sub (fun _ h => List.mem_cons_of_mem _ (List.mem_append_left _ (List.mem_append_left _ (List.mem_append_right _ h)))) (by decide +kernel))) (goodIn_sub (fun _ h => List.mem_cons_of_mem _ (List.mem_append_left _ (List.mem_append_right _ h))) (by decide +kernel))
set_option maxRecDepth 20000 in
theorem gX10_explain_X10_refuse : GoodIn wsX10_explain (va_wsS RX10 124 yX10_refuse wsX10_refuse) := goodIn_app (goodIn_of _ (by decide +kernel)) ggX10_explain_X10_refuse
set_option maxRecDepth 20000 in
theorem ggX10_number_X6_debtAfterPosting : GoodIn wsX10_number wsX6_debtAfterPosting := goodIn_r _ [8, 9, 10, 11, 12, 13, 7, 14, 15, 16, 17, 18, 19, 20, 21, 22, 23, 24, 25, 26, 27, 28, 29, 69, 70, 71, 72, 73, 74, 75, 76, 77, 78, 79, 80, 81, 82, 83, 84, 85] (by decide +kernel) (by decide +kernel)
set_option maxRecDepth 20000 in
theorem gX10_number_X6_debtAfterPosting : GoodIn wsX10_number (wsV RX10 168 RX6 yX6_debtAfterPosting wsX6_debtAfterPosting) := goodIn_app (goodIn_of _ (by decide +kernel)) ggX10_number_X6_debtAfterPosting
set_option maxRecDepth 20000 in
theorem ggX10_number_X1_unpaidSum : GoodIn wsX10_number wsX1_unpaidSum := goodIn_ca (goodIn_r _ [34, 35, 36, 37, 38, 39, 40, 41, 86, 87, 88, 89, 90] (by decide +kernel) (by decide +kernel)) (goodIn_sub (fun _ h => List.mem_cons_of_mem _ (List.mem_append_right _ h)) (by decide +kernel))
set_option maxRecDepth 20000 in
theorem gX10_number_X1_unpaidSum : GoodIn wsX10_number (wsV RX10 144 RX1 yX1_unpaidSum wsX1_unpaidSum) := goodIn_app (goodIn_of _ (by decide +kernel)) ggX10_number_X1_unpaidSum
set_option maxRecDepth 20000 in
theorem ggX10_number_X1_unpaidCount : GoodIn wsX10_number wsX1_unpaidCount := goodIn_r _ [45, 40, 35, 86, 87, 88, 89, 90] (by decide +kernel) (by decide +kernel)
set_option maxRecDepth 20000 in
theorem gX10_number_X1_unpaidCount : GoodIn wsX10_number (wsV RX10 174 RX1 yX1_unpaidCount wsX1_unpaidCount) := goodIn_app (goodIn_of _ (by decide +kernel)) ggX10_number_X1_unpaidCount
set_option maxRecDepth 20000 in
theorem ggX10_installmentFor_X10_isWithin : GoodIn wsX10_installmentFor wsX10_isWithin := goodIn_r _ [10] (by decide +kernel) (by decide +kernel)
set_option maxRecDepth 20000 in
theorem gX10_installmentFor_X10_isWithin : GoodIn wsX10_installmentFor (va_wsS RX10 65 yX10_isWithin wsX10_isWithin) := goodIn_app (goodIn_of _ (by decide +kernel)) ggX10_installmentFor_X10_isWithin
set_option maxRecDepth 20000 in
theorem ggX10_ledger_X10_isWithin : GoodIn wsX10_ledger wsX10_isWithin := goodIn_r _ [7] (by decide +kernel) (by decide +kernel)
set_option maxRecDepth 20000 in
theorem gX10_ledger_X10_isWithin : GoodIn wsX10_ledger (va_wsS RX10 65 yX10_isWithin wsX10_isWithin) := goodIn_app (goodIn_of _ (by decide +kernel)) ggX10_ledger_X10_isWithin
