set_option maxRecDepth 20000 in
theorem ggX11_scheduleLength_X11_plansNow : GoodIn wsX11_scheduleLength wsX11_plansNow := goodIn_ca (goodIn_ca (goodIn_r _ [7, 2, 8, 9, 10, 11, 6, 12, 13, 14, 15, 16, 17, 18, 19, 20, 21, 22, 23, 24, 25, 26, 27, 28, 29, 30, 31, 32, 33, 34, 35, 36, 37, 38, 39, 40, 41, 42, 43, 44, 45, 46, 47, 48, 49, 50, 51, 52, 53, 54, 55, 56, 57, 58, 59, 60, 61, 62, 63, 64, 65, 66, 67, 68, 69, 70, 71, 72, 73, 74, 75, 76, 77, 78, 79, 80, 81, 82, 83, 84, 85] (by decide +kernel) (by decide +kernel)) (goodIn_sub (fun _ h => List.mem_cons_of_mem _ (List.mem_append_left _ (List.mem_append_right _ h))) (by decide +kernel))) (goodIn_sub (fun _ h => List.mem_cons_of_mem _ (List.mem_append_right _ h)) (by decide +kernel))
set_option maxRecDepth 20000 in
theorem gX11_scheduleLength_X11_plansNow : GoodIn wsX11_scheduleLength (wsV RX11 175 RX11 yX11_plansNow wsX11_plansNow) := goodIn_app (goodIn_of _ (by decide +kernel)) ggX11_scheduleLength_X11_plansNow
set_option maxRecDepth 20000 in
theorem ggX11_schedule_X11_plansNow : GoodIn wsX11_schedule wsX11_plansNow := goodIn_ca (goodIn_ca (goodIn_r _ [8, 1, 9, 10, 11, 12, 7, 13, 14, 15, 16, 17, 18, 19, 20, 21, 22, 23, 24, 25, 26, 27, 28, 29, 30, 31, 32, 33, 34, 35, 36, 37, 38, 39, 40, 41, 42, 43, 44, 45, 46, 47, 48, 49, 50, 51, 52, 53, 54, 3, 58, 59, 60, 61, 62, 63, 64, 65, 66, 67, 68, 69, 70, 71, 72, 73, 74, 75, 76, 77, 78, 79, 80, 81, 82, 83, 84, 85, 86, 87, 88] (by decide +kernel) (by decide +kernel)) (goodIn_sub (fun _ h => List.mem_cons_of_mem _ (List.mem_append_left _ (List.mem_append_right _ h))) (by decide +kernel))) (goodIn_sub (fun _ h => List.mem_cons_of_mem _ (List.mem_append_right _ h)) (by decide +kernel))
set_option maxRecDepth 20000 in
theorem gX11_schedule_X11_plansNow : GoodIn wsX11_schedule (wsV RX11 175 RX11 yX11_plansNow wsX11_plansNow) := goodIn_app (goodIn_of _ (by decide +kernel)) ggX11_schedule_X11_plansNow
set_option maxRecDepth 20000 in
theorem ggX11_schedule_X11_in : GoodIn wsX11_schedule wsX11_in := goodIn_r _ [57] (by decide +kernel) (by decide +kernel)
set_option maxRecDepth 20000 in
theorem gX11_schedule_X11_in : GoodIn wsX11_schedule (va_wsS RX11 95 yX11_in wsX11_in) := goodIn_app (goodIn_of _ (by decide +kernel)) ggX11_schedule_X11_in
set_option maxRecDepth 20000 in
theorem ggX11_installmentFor_X11_in : GoodIn wsX11_installmentFor wsX11_in := goodIn_r _ [6] (by decide +kernel) (by decide +kernel)
set_option maxRecDepth 20000 in
theorem gX11_installmentFor_X11_in : GoodIn wsX11_installmentFor (va_wsS RX11 95 yX11_in wsX11_in) := goodIn_app (goodIn_of _ (by decide +kernel)) ggX11_installmentFor_X11_in
set_option maxRecDepth 20000 in
theorem ggX11_explain_X11_against : GoodIn wsX11_explain wsX11_against := goodIn_ca (goodIn_ca (goodIn_r _ [11, 3, 12, 13, 14, 15, 6, 16, 17, 18, 19, 20, 21, 22, 23, 24, 25, 26, 109, 110, 111, 112, 113, 114, 115, 116, 117, 118, 119, 120, 121, 122, 123, 124, 125, 126, 127, 128, 129, 130, 131, 132, 133, 134, 135, 136, 137, 138, 139] (by decide +kernel) (by decide +kernel)) (goodIn_sub (fun _ h => List.mem_cons_of_mem _ (List.mem_append_left _ (List.mem_append_right _ h))) (by decide +kernel))) (goodIn_sub (fun _ h => List.mem_cons_of_mem _ (List.mem_append_right _ h)) (by decide +kernel))
set_option maxRecDepth 20000 in
theorem gX11_explain_X11_against : GoodIn wsX11_explain (wsV RX11 211 RX11 yX11_against wsX11_against) := goodIn_app (goodIn_of _ (by decide +kernel)) ggX11_explain_X11_against
set_option maxRecDepth 20000 in
theorem ggX11_number_X11_unpaid : GoodIn wsX11_number wsX11_unpaid := goodIn_ca (goodIn_r _ [41, 2, 50, 51, 52, 53, 54, 55, 56, 57, 58, 59, 60, 61, 62, 63, 64, 65, 66, 67, 68, 69, 70, 71, 72, 73, 74, 75, 76, 77, 78, 79, 80] (by decide +kernel) (by decide +kernel)) (goodIn_sub (fun _ h => List.mem_cons_of_mem _ (List.mem_append_left _ (List.mem_append_right _ h))) (by decide +kernel))
set_option maxRecDepth 20000 in
theorem gX11_number_X11_unpaid : GoodIn wsX11_number (wsV RX11 229 RX11 yX11_unpaid wsX11_unpaid) := goodIn_app (goodIn_of _ (by decide +kernel)) ggX11_number_X11_unpaid
set_option maxRecDepth 20000 in
theorem ggX11_number_X11_openBills : GoodIn wsX11_number wsX11_openBills := goodIn_ca (goodIn_r _ [45, 2, 50, 51, 52, 53, 54, 55, 56, 57, 58, 59, 60, 61, 62, 63, 64, 65, 66, 67, 68, 69, 70, 71, 72, 73, 74, 75, 76, 77, 78, 79, 80] (by decide +kernel) (by decide +kernel)) (goodIn_sub (fun _ h => List.mem_cons_of_mem _ (List.mem_append_left _ (List.mem_append_right _ h))) (by decide +kernel))
set_option maxRecDepth 20000 in
theorem gX11_number_X11_openBills : GoodIn wsX11_number (wsV RX11 232 RX11 yX11_openBills wsX11_openBills) := goodIn_app (goodIn_of _ (by decide +kernel)) ggX11_number_X11_openBills
set_option maxRecDepth 20000 in
theorem ggX11_number_X11_fails : GoodIn wsX11_number wsX11_fails := goodIn_r _ [49, 1, 50, 51, 52, 53, 54, 55, 56, 57, 58, 59, 60, 61, 62, 63, 64, 65, 66, 67, 68, 69, 70, 71, 72, 73, 74, 75, 76, 77, 78, 79, 80] (by decide +kernel) (by decide +kernel)
set_option maxRecDepth 20000 in
theorem gX11_number_X11_fails : GoodIn wsX11_number (wsV RX11 73 RX11 yX11_fails wsX11_fails) := goodIn_app (goodIn_of _ (by decide +kernel)) ggX11_number_X11_fails
set_option maxRecDepth 20000 in
theorem ggX11_total_X11_in : GoodIn wsX11_total wsX11_in := goodIn_r _ [6] (by decide +kernel) (by decide +kernel)
set_option maxRecDepth 20000 in
theorem gX11_total_X11_in : GoodIn wsX11_total (va_wsS RX11 95 yX11_in wsX11_in) := goodIn_app (goodIn_of _ (by decide +kernel)) ggX11_total_X11_in
set_option maxRecDepth 20000 in
theorem ggX11_append_X11_in : GoodIn wsX11_append wsX11_in := goodIn_r _ [7] (by decide +kernel) (by decide +kernel)
set_option maxRecDepth 20000 in
theorem gX11_append_X11_in : GoodIn wsX11_append (va_wsS RX11 95 yX11_in wsX11_in) := goodIn_app (goodIn_of _ (by decide +kernel)) ggX11_append_X11_in
set_option maxRecDepth 20000 in
theorem ggX11_commandHere_X11_here : GoodIn wsX11_commandHere wsX11_here := goodIn_ca (goodIn_r _ [8, 1, 9, 10, 14, 15, 16, 17, 18, 19, 20, 21, 22, 23, 24, 25, 26, 27, 28, 29, 30, 31, 32, 33, 34, 35, 36, 37, 38, 39, 40, 41, 42, 43, 44] (by decide +kernel) (by decide +kernel)) (goodIn_sub (fun _ h => List.mem_cons_of_mem _ (List.mem_append_right _ h)) (by decide +kernel))
set_option maxRecDepth 20000 in
theorem gX11_commandHere_X11_here : GoodIn wsX11_commandHere (wsV RX11 241 RX11 yX11_here wsX11_here) := goodIn_app (goodIn_of _ (by decide +kernel)) ggX11_commandHere_X11_here
set_option maxRecDepth 20000 in
theorem ggX11_isText_X11_commandHere : GoodIn wsX11_isText wsX11_commandHere := goodIn_ca (goodIn_r _ [8, 1, 9, 2, 10, 11, 12, 7, 13, 3, 14, 15, 16, 17, 18, 19, 20, 21, 22, 23, 24, 25, 26, 27, 28, 29, 30, 31, 32, 33, 34, 35, 36, 37, 38, 39, 40, 41, 42, 43, 44, 45, 46, 47, 48] (by decide +kernel) (by decide +kernel)) (goodIn_sub (fun _ h => List.mem_cons_of_mem _ (List.mem_append_right _ h)) (by decide +kernel))
set_option maxRecDepth 20000 in
theorem gX11_isText_X11_commandHere : GoodIn wsX11_isText (wsV RX11 247 RX11 yX11_commandHere wsX11_commandHere) := goodIn_app (goodIn_of _ (by decide +kernel)) ggX11_isText_X11_commandHere
set_option maxRecDepth 20000 in
theorem ggX11_execute_X11_isText : GoodIn wsX11_execute wsX11_isText := goodIn_ca (goodIn_r _ [14, 3, 6, 2, 15, 16, 17, 13, 18, 7, 19, 20, 21, 22, 23, 24, 25, 26, 185, 186, 187, 188, 189, 190, 191, 192, 193, 194, 195, 196, 197, 198, 199, 200, 201, 202, 203, 204, 205, 206, 207, 208, 209, 210, 211, 212, 213, 214, 215] (by decide +kernel) (by decide +kernel)) (goodIn_sub (fun _ h => List.mem_cons_of_mem _ (List.mem_append_left _ (List.mem_append_right _ h))) (by decide +kernel))
set_option maxRecDepth 20000 in
theorem gX11_execute_X11_isText : GoodIn wsX11_execute (wsV RX11 251 RX11 yX11_isText wsX11_isText) := goodIn_app (goodIn_of _ (by decide +kernel)) ggX11_execute_X11_isText
set_option maxRecDepth 20000 in
theorem ggX11_execute_X11_fails : GoodIn wsX11_execute wsX11_fails := goodIn_r _ [30, 1, 185, 186, 187, 188, 189, 190, 191, 192, 193, 194, 195, 196, 197, 198, 199, 200, 201, 202, 203, 204, 205, 206, 207, 208, 209, 210, 211, 212, 213, 214, 215] (by decide +kernel) (by decide +kernel)
set_option maxRecDepth 20000 in
theorem gX11_execute_X11_fails : GoodIn wsX11_execute (wsV RX11 73 RX11 yX11_fails wsX11_fails) := goodIn_app (goodIn_of _ (by decide +kernel)) ggX11_execute_X11_fails
set_option maxRecDepth 20000 in
theorem ggX11_ledger_X11_in : GoodIn wsX11_ledger wsX11_in := goodIn_r _ [6] (by decide +kernel) (by decide +kernel)
set_option maxRecDepth 20000 in
theorem gX11_ledger_X11_in : GoodIn wsX11_ledger (va_wsS RX11 95 yX11_in wsX11_in) := goodIn_app (goodIn_of _ (by decide +kernel)) ggX11_ledger_X11_in
