set_option maxRecDepth 20000 in
theorem ggX7_project_X9_toCents : GoodIn wsX7_project wsX9_toCents := goodIn_r _ [19, 20, 21, 22, 23, 24, 25, 26, 27] (by decide +kernel) (by decide +kernel)
set_option maxRecDepth 20000 in
theorem gX7_project_X9_toCents : GoodIn wsX7_project (va_wsS RX7 113 yX9_toCents wsX9_toCents) := goodIn_app (goodIn_of _ (by decide +kernel)) ggX7_project_X9_toCents
set_option maxRecDepth 20000 in
theorem ggX7_project_X9_ofCents : GoodIn wsX7_project wsX9_ofCents := goodIn_r _ [30, 21, 23] (by decide +kernel) (by decide +kernel)
set_option maxRecDepth 20000 in
theorem gX7_project_X9_ofCents : GoodIn wsX7_project (va_wsS RX7 119 yX9_ofCents wsX9_ofCents) := goodIn_app (goodIn_of _ (by decide +kernel)) ggX7_project_X9_ofCents
set_option maxRecDepth 20000 in
theorem ggX7_project_X7_keepPayment : GoodIn wsX7_project wsX7_keepPayment := goodIn_ca (goodIn_r _ [35, 4, 36, 37, 38, 39, 40, 41, 42, 43, 44, 45, 46, 47, 48, 49, 50, 51, 52, 53, 54] (by decide +kernel) (by decide +kernel)) (goodIn_sub (fun _ h => List.mem_cons_of_mem _ (List.mem_append_right _ h)) (by decide +kernel))
set_option maxRecDepth 20000 in
theorem gX7_project_X7_keepPayment : GoodIn wsX7_project (wsV RX7 125 RX7 yX7_keepPayment wsX7_keepPayment) := goodIn_app (goodIn_of _ (by decide +kernel)) ggX7_project_X7_keepPayment
set_option maxRecDepth 20000 in
theorem ggX7_lastAmount_X7_has : GoodIn wsX7_lastAmount wsX7_has := goodIn_r _ [7, 1, 8, 9, 10, 11, 12, 13, 14, 15, 16, 17, 18, 19, 20, 21, 22] (by decide +kernel) (by decide +kernel)
set_option maxRecDepth 20000 in
theorem gX7_lastAmount_X7_has : GoodIn wsX7_lastAmount (wsV RX7 129 RX7 yX7_has wsX7_has) := goodIn_app (goodIn_of _ (by decide +kernel)) ggX7_lastAmount_X7_has
set_option maxRecDepth 20000 in
theorem ggX7_leastInstallment_X7_project : GoodIn wsX7_leastInstallment wsX7_project := goodIn_ca (goodIn_r _ [12, 1, 2, 13, 14, 15, 16, 17, 18, 19, 20, 21, 22, 5, 23, 24, 25, 26, 27, 28, 29, 30, 31, 32, 33, 34, 35, 36, 37, 38, 39, 40, 41, 42, 11, 43, 44, 45, 46, 47, 59, 60, 61, 62, 63, 64, 65, 66, 67, 68, 69, 70, 71, 72, 73] (by decide +kernel) (by decide +kernel)) (goodIn_sub (fun _ h => List.mem_cons_of_mem _ (List.mem_append_left _ (List.mem_append_right _ h))) (by decide +kernel))
set_option maxRecDepth 20000 in
theorem gX7_leastInstallment_X7_project : GoodIn wsX7_leastInstallment (wsV RX7 133 RX7 yX7_project wsX7_project) := goodIn_app (goodIn_of _ (by decide +kernel)) ggX7_leastInstallment_X7_project
set_option maxRecDepth 20000 in
theorem ggX7_leastInstallment_X7_shareUpwards : GoodIn wsX7_leastInstallment wsX7_shareUpwards := goodIn_ca (goodIn_r _ [50] (by decide +kernel) (by decide +kernel)) (goodIn_sub (fun _ h => List.mem_cons_of_mem _ (List.mem_append_right _ h)) (by decide +kernel))
set_option maxRecDepth 20000 in
theorem gX7_leastInstallment_X7_shareUpwards : GoodIn wsX7_leastInstallment (va_wsS RX7 137 yX7_shareUpwards wsX7_shareUpwards) := goodIn_app (goodIn_of _ (by decide +kernel)) ggX7_leastInstallment_X7_shareUpwards
set_option maxRecDepth 20000 in
theorem ggX7_leastInstallment_X7_lastAmount : GoodIn wsX7_leastInstallment wsX7_lastAmount := goodIn_ca (goodIn_r _ [54, 14, 45, 55, 56, 57, 11, 58, 59, 60, 61, 62, 63, 64, 65, 66, 67, 68, 69, 70, 71, 72, 73] (by decide +kernel) (by decide +kernel)) (goodIn_sub (fun _ h => List.mem_cons_of_mem _ (List.mem_append_left _ (List.mem_append_right _ h))) (by decide +kernel))
set_option maxRecDepth 20000 in
theorem gX7_leastInstallment_X7_lastAmount : GoodIn wsX7_leastInstallment (wsV RX7 143 RX7 yX7_lastAmount wsX7_lastAmount) := goodIn_app (goodIn_of _ (by decide +kernel)) ggX7_leastInstallment_X7_lastAmount
