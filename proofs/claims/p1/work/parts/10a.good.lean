set_option maxRecDepth 20000 in
theorem ggX0_startLoan_X6_start : GoodIn wsX0_startLoan wsX6_start := goodIn_ca (goodIn_r _ [15, 16, 17, 18, 19, 20, 21, 22, 23, 24, 25, 26, 27, 28, 29, 30, 31, 32, 33, 34, 35, 36, 37, 38, 39, 40, 41, 42, 43, 44, 45, 46, 150, 151, 152, 153, 154, 155, 156, 157, 158, 159, 160, 161, 162, 163, 164, 165, 166] (by decide +kernel) (by decide +kernel)) (goodIn_sub (fun _ h => List.mem_cons_of_mem _ (List.mem_append_left _ (List.mem_append_right _ h))) (by decide +kernel))
set_option maxRecDepth 20000 in
theorem gX0_startLoan_X6_start : GoodIn wsX0_startLoan (wsV RX0 43 RX6 yX6_start wsX6_start) := goodIn_app (goodIn_of _ (by decide +kernel)) ggX0_startLoan_X6_start
set_option maxRecDepth 20000 in
theorem ggX0_startLoan_X1_clear : GoodIn wsX0_startLoan wsX1_clear := goodIn_r _ [51, 52, 53, 54, 167, 168, 169, 170, 171] (by decide +kernel) (by decide +kernel)
set_option maxRecDepth 20000 in
theorem gX0_startLoan_X1_clear : GoodIn wsX0_startLoan (wsV RX0 47 RX1 yX1_clear wsX1_clear) := goodIn_app (goodIn_of _ (by decide +kernel)) ggX0_startLoan_X1_clear
set_option maxRecDepth 20000 in
theorem ggX0_startLoan_X5_clear : GoodIn wsX0_startLoan wsX5_clear := goodIn_r _ [59, 60, 61, 172, 173, 174, 175, 176] (by decide +kernel) (by decide +kernel)
set_option maxRecDepth 20000 in
theorem gX0_startLoan_X5_clear : GoodIn wsX0_startLoan (wsV RX0 50 RX5 yX5_clear wsX5_clear) := goodIn_app (goodIn_of _ (by decide +kernel)) ggX0_startLoan_X5_clear
set_option maxRecDepth 20000 in
theorem ggX0_startLoan_X7_startFrom : GoodIn wsX0_startLoan wsX7_startFrom := goodIn_ca (goodIn_r _ [66, 67, 68, 69, 70, 71, 72, 73, 74, 37, 38, 39, 75, 76, 77, 78, 79, 80, 81, 82, 83, 84, 85, 33, 34, 35, 36, 40, 41, 42, 43, 44, 45, 46, 86, 87, 88, 89, 90, 91, 142, 143, 144, 145, 146, 147, 148, 149, 150, 151, 152, 153, 154, 155, 156, 157, 158, 159, 160, 161, 162, 163, 164, 165, 166, 177, 178, 179, 180, 181, 182, 183, 184, 185, 186, 187, 188, 189, 190, 191] (by decide +kernel) (by decide +kernel)) (goodIn_sub (fun _ h => List.mem_cons_of_mem _ (List.mem_append_left _ (List.mem_append_right _ h))) (by decide +kernel))
set_option maxRecDepth 20000 in
theorem gX0_startLoan_X7_startFrom : GoodIn wsX0_startLoan (wsV RX0 57 RX7 yX7_startFrom wsX7_startFrom) := goodIn_app (goodIn_of _ (by decide +kernel)) ggX0_startLoan_X7_startFrom
set_option maxRecDepth 20000 in
theorem ggX0_startLoan_X7_leastInstallment : GoodIn wsX0_startLoan wsX7_leastInstallment := goodIn_ca (goodIn_ca (goodIn_r _ [95, 67, 68, 96, 97, 38, 98, 99, 100, 101, 102, 65, 103, 69, 104, 75, 70, 77, 71, 72, 73, 105, 106, 107, 76, 108, 109, 110, 111, 112, 113, 114, 115, 116, 117, 118, 119, 120, 121, 122, 123, 124, 125, 126, 127, 128, 129, 130, 131, 132, 133, 134, 135, 136, 137, 138, 139, 140, 141, 177, 178, 179, 180, 181, 182, 183, 184, 185, 186, 187, 188, 189, 190, 191] (by decide +kernel) (by decide +kernel)) (goodIn_sub (fun _ h => List.mem_cons_of_mem _ (List.mem_append_left _ (List.mem_append_right _ h))) (by decide +kernel))) (goodIn_sub (fun _ h => List.mem_cons_of_mem _ (List.mem_append_right _ h)) (by decide +kernel))
set_option maxRecDepth 20000 in
theorem gX0_startLoan_X7_leastInstallment : GoodIn wsX0_startLoan (wsV RX0 63 RX7 yX7_leastInstallment wsX7_leastInstallment) := goodIn_app (goodIn_of _ (by decide +kernel)) ggX0_startLoan_X7_leastInstallment
set_option maxRecDepth 20000 in
theorem ggX6_start_X2_monthsAfter : GoodIn wsX6_start wsX2_monthsAfter := goodIn_ca (goodIn_r _ [20, 21, 22, 23, 24, 25, 26, 19, 27, 28, 29, 30, 31] (by decide +kernel) (by decide +kernel)) (goodIn_sub (fun _ h => List.mem_cons_of_mem _ (List.mem_append_right _ h)) (by decide +kernel))
set_option maxRecDepth 20000 in
theorem gX6_start_X2_monthsAfter : GoodIn wsX6_start (va_wsS RX6 57 yX2_monthsAfter wsX2_monthsAfter) := goodIn_app (goodIn_of _ (by decide +kernel)) ggX6_start_X2_monthsAfter
set_option maxRecDepth 20000 in
theorem ggX7_startFrom_X2_monthsAfter : GoodIn wsX7_startFrom wsX2_monthsAfter := goodIn_ca (goodIn_r _ [25, 26, 9, 10, 11, 27, 28, 24, 29, 30, 31, 32, 33] (by decide +kernel) (by decide +kernel)) (goodIn_sub (fun _ h => List.mem_cons_of_mem _ (List.mem_append_right _ h)) (by decide +kernel))
set_option maxRecDepth 20000 in
theorem gX7_startFrom_X2_monthsAfter : GoodIn wsX7_startFrom (va_wsS RX7 102 yX2_monthsAfter wsX2_monthsAfter) := goodIn_app (goodIn_of _ (by decide +kernel)) ggX7_startFrom_X2_monthsAfter
set_option maxRecDepth 20000 in
theorem ggX7_startFrom_X2_counted : GoodIn wsX7_startFrom wsX2_counted := goodIn_ca (goodIn_r _ [36, 37, 38, 24, 39, 26, 9, 10, 11, 27, 28, 29, 30, 31, 32, 33] (by decide +kernel) (by decide +kernel)) (goodIn_sub (fun _ h => List.mem_cons_of_mem _ (List.mem_append_right _ h)) (by decide +kernel))
set_option maxRecDepth 20000 in
theorem gX7_startFrom_X2_counted : GoodIn wsX7_startFrom (va_wsS RX7 107 yX2_counted wsX2_counted) := goodIn_app (goodIn_of _ (by decide +kernel)) ggX7_startFrom_X2_counted
set_option maxRecDepth 20000 in
theorem ggX10_begin_X10_isWithin : GoodIn wsX10_begin wsX10_isWithin := goodIn_r _ [9] (by decide +kernel) (by decide +kernel)
set_option maxRecDepth 20000 in
theorem gX10_begin_X10_isWithin : GoodIn wsX10_begin (va_wsS RX10 65 yX10_isWithin wsX10_isWithin) := goodIn_app (goodIn_of _ (by decide +kernel)) ggX10_begin_X10_isWithin
set_option maxRecDepth 20000 in
theorem ggX10_begin_X10_remember : GoodIn wsX10_begin wsX10_remember := goodIn_r _ [13, 14, 15, 4, 16, 17, 18, 19, 20, 21, 22, 23, 24, 25, 26, 27, 28, 29, 30, 31, 32, 33, 34, 35, 36, 37, 38, 39, 40, 41, 42, 43, 44, 45, 46, 47, 48, 49, 50, 51, 52, 53, 54, 55, 56, 57, 58, 59, 60, 61, 62, 63, 64, 65, 66, 67, 68, 69, 70, 71, 72, 73, 74, 75, 76, 77, 78, 79, 80, 81, 82, 83, 84, 85, 86, 194, 195, 196, 197, 198, 199, 200, 201, 202, 203, 204, 205, 206, 207, 208, 209, 210, 211, 212, 213, 214, 215, 216, 217, 218, 219, 220, 221, 222, 223, 224, 225, 226, 227, 228, 229, 230, 231, 232, 233, 234, 235, 236, 237, 238, 239, 240, 241, 242, 243] (by decide +kernel) (by decide +kernel)
set_option maxRecDepth 20000 in
theorem gX10_begin_X10_remember : GoodIn wsX10_begin (wsV RX10 72 RX10 yX10_remember wsX10_remember) := goodIn_app (goodIn_of _ (by decide +kernel)) ggX10_begin_X10_remember
set_option maxRecDepth 20000 in
theorem ggX10_begin_X0_startLoan : GoodIn wsX10_begin wsX0_startLoan := goodIn_ca (goodIn_ca (goodIn_r _ [90, 39, 30, 40, 41, 33, 38, 34, 35, 36, 37, 91, 92, 93, 45, 94, 47, 48, 49, 50, 51, 52, 53, 54, 55, 56, 57, 59, 60, 61, 62, 63, 95, 96, 97, 98, 99, 18, 19, 20, 100, 101, 102, 103, 104, 105, 106, 107, 108, 109, 68, 110, 70, 71, 72, 111, 112, 113, 79, 114, 81, 82, 115, 116, 117, 118, 119, 120, 121, 122, 123, 124, 125, 126, 127, 128, 129, 130, 131, 132, 133, 134, 135, 136, 137, 138, 139, 140, 141, 142, 143, 144, 145, 146, 147, 148, 149, 150, 151, 152, 153, 154, 155, 156, 157, 158, 159, 160, 161, 162, 163, 164, 165, 166, 167, 168, 169, 170, 23, 171, 172, 173, 174, 175, 176, 177, 178, 179, 180, 181, 182, 183, 184, 185, 186, 187, 188, 189, 190, 191, 192, 193, 209, 210, 211, 212, 213, 214, 215, 216, 217, 218, 219, 220, 221, 222, 223, 224, 225, 226, 227, 228, 229, 230, 231, 232, 233, 234, 235, 236, 237, 238, 239, 240, 241, 242, 243, 244, 245, 246, 247, 248, 249, 250, 251, 252, 253, 254, 255, 256, 257, 258] (by decide +kernel) (by decide +kernel)) (goodIn_sub (fun _ h => List.mem_cons_of_mem _ (List.mem_append_left _ (List.mem_append_right _ h))) (by decide +kernel))) (goodIn_sub (fun _ h => List.mem_cons_of_mem _ (List.mem_append_right _ h)) (by decide +kernel))
set_option maxRecDepth 20000 in
theorem gX10_begin_X0_startLoan : GoodIn wsX10_begin (wsV RX10 75 RX0 yX0_startLoan wsX0_startLoan) := goodIn_app (goodIn_of _ (by decide +kernel)) ggX10_begin_X0_startLoan
set_option maxRecDepth 20000 in
theorem ggX11_dueDay_X11_monthsAfter : GoodIn wsX11_dueDay wsX11_monthsAfter := goodIn_r _ [5, 6, 7, 4, 8, 9, 10, 11, 12, 13, 14, 15, 16, 17] (by decide +kernel) (by decide +kernel)
set_option maxRecDepth 20000 in
theorem gX11_dueDay_X11_monthsAfter : GoodIn wsX11_dueDay (va_wsS RX11 122 yX11_monthsAfter wsX11_monthsAfter) := goodIn_app (goodIn_of _ (by decide +kernel)) ggX11_dueDay_X11_monthsAfter
set_option maxRecDepth 20000 in
theorem ggX11_plans_X11_dueDay : GoodIn wsX11_plans wsX11_dueDay := goodIn_ca (goodIn_r _ [12, 1, 13, 14, 11, 15, 16, 17, 18, 19, 20, 21, 22, 23, 24, 25, 26, 27, 46, 47, 48, 49, 50, 51, 52, 53, 54, 55, 56, 57, 58, 59, 60, 61, 62, 63, 64, 65, 66, 67, 68, 69, 70, 71, 72, 73, 74, 75, 76] (by decide +kernel) (by decide +kernel)) (goodIn_sub (fun _ h => List.mem_cons_of_mem _ (List.mem_append_left _ (List.mem_append_right _ h))) (by decide +kernel))
set_option maxRecDepth 20000 in
theorem gX11_plans_X11_dueDay : GoodIn wsX11_plans (wsV RX11 139 RX11 yX11_dueDay wsX11_dueDay) := goodIn_app (goodIn_of _ (by decide +kernel)) ggX11_plans_X11_dueDay
set_option maxRecDepth 20000 in
theorem ggX11_plans_X11_counted : GoodIn wsX11_plans wsX11_counted := goodIn_r _ [30, 16, 17, 11, 18, 19, 20, 21, 22, 23, 24, 25, 26, 27] (by decide +kernel) (by decide +kernel)
set_option maxRecDepth 20000 in
theorem gX11_plans_X11_counted : GoodIn wsX11_plans (va_wsS RX11 103 yX11_counted wsX11_counted) := goodIn_app (goodIn_of _ (by decide +kernel)) ggX11_plans_X11_counted
set_option maxRecDepth 20000 in
theorem ggX11_plans_X11_cents : GoodIn wsX11_plans wsX11_cents := goodIn_ca (goodIn_ca (goodIn_r _ [34, 35, 36, 37, 38, 11, 39, 40, 1, 46, 47, 48, 49, 50, 51, 52, 53, 54, 55, 56, 57, 58, 59, 60, 61, 62, 63, 64, 65, 66, 67, 68, 69, 70, 71, 72, 73, 74, 75, 76] (by decide +kernel) (by decide +kernel)) (goodIn_sub (fun _ h => List.mem_cons_of_mem _ (List.mem_append_right _ h)) (by decide +kernel))) (goodIn_sub (fun _ h => List.mem_cons_of_mem _ (List.mem_append_left _ (List.mem_append_right _ h))) (by decide +kernel))
set_option maxRecDepth 20000 in
theorem gX11_plans_X11_cents : GoodIn wsX11_plans (wsV RX11 114 RX11 yX11_cents wsX11_cents) := goodIn_app (goodIn_of _ (by decide +kernel)) ggX11_plans_X11_cents
set_option maxRecDepth 20000 in
theorem ggX11_plans_X11_cent : GoodIn wsX11_plans wsX11_cent := goodIn_ca (goodIn_r _ [39, 40, 1, 46, 47, 48, 49, 50, 51, 52, 53, 54, 55, 56, 57, 58, 59, 60, 61, 62, 63, 64, 65, 66, 67, 68, 69, 70, 71, 72, 73, 74, 75, 76] (by decide +kernel) (by decide +kernel)) (goodIn_sub (fun _ h => List.mem_cons_of_mem _ (List.mem_append_left _ (List.mem_append_right _ h))) (by decide +kernel))
set_option maxRecDepth 20000 in
theorem gX11_plans_X11_cent : GoodIn wsX11_plans (wsV RX11 110 RX11 yX11_cent wsX11_cent) := goodIn_app (goodIn_of _ (by decide +kernel)) ggX11_plans_X11_cent
set_option maxRecDepth 20000 in
theorem ggX11_plans_X11_pays : GoodIn wsX11_plans wsX11_pays := goodIn_ca (goodIn_r _ [44, 3, 2, 45, 7, 46, 47, 48, 49, 50, 51, 52, 53, 54, 55, 56, 57, 58, 59, 60, 61, 62, 63, 64, 65, 66, 67, 68, 69, 70, 71, 72, 73, 74, 75, 76] (by decide +kernel) (by decide +kernel)) (goodIn_sub (fun _ h => List.mem_cons_of_mem _ (List.mem_append_left _ (List.mem_append_right _ h))) (by decide +kernel))
set_option maxRecDepth 20000 in
theorem gX11_plans_X11_pays : GoodIn wsX11_plans (wsV RX11 166 RX11 yX11_pays wsX11_pays) := goodIn_app (goodIn_of _ (by decide +kernel)) ggX11_plans_X11_pays
set_option maxRecDepth 20000 in
theorem ggX11_least_X11_plans : GoodIn wsX11_least wsX11_plans := goodIn_ca (goodIn_ca (goodIn_r _ [5, 6, 7, 8, 9, 10, 11, 12, 13, 14, 15, 4, 16, 17, 18, 19, 20, 21, 22, 23, 24, 25, 26, 27, 28, 29, 30, 31, 32, 33, 34, 35, 36, 37, 38, 39, 40, 41, 42, 43, 44, 45, 46, 47, 48, 49, 50, 51, 52, 53, 54, 55, 56, 57, 58, 59, 60, 61, 62, 63, 64, 65, 66, 67, 68, 69, 70, 71, 72, 73, 74, 75, 76, 77, 78, 79, 80] (by decide +kernel) (by decide +kernel)) (goodIn_sub (fun _ h => List.mem_cons_of_mem _ (List.mem_append_left _ (List.mem_append_right _ h))) (by decide +kernel))) (goodIn_sub (fun _ h => List.mem_cons_of_mem _ (List.mem_append_right _ h)) (by decide +kernel))
set_option maxRecDepth 20000 in
theorem gX11_least_X11_plans : GoodIn wsX11_least (wsV RX11 169 RX11 yX11_plans wsX11_plans) := goodIn_app (goodIn_of _ (by decide +kernel)) ggX11_least_X11_plans
set_option maxRecDepth 20000 in
theorem ggX11_begin_X11_in : GoodIn wsX11_begin wsX11_in := goodIn_r _ [8] (by decide +kernel) (by decide +kernel)
set_option maxRecDepth 20000 in
theorem gX11_begin_X11_in : GoodIn wsX11_begin (va_wsS RX11 95 yX11_in wsX11_in) := goodIn_app (goodIn_of _ (by decide +kernel)) ggX11_begin_X11_in
set_option maxRecDepth 20000 in
theorem ggX11_begin_X11_begins : GoodIn wsX11_begin wsX11_begins := goodIn_ca (goodIn_r _ [12, 13, 14, 15, 16, 3, 4, 67, 68, 69, 70, 71, 72, 73, 74, 75, 76, 77, 78, 79, 80, 81, 82, 83, 84, 85, 86, 87, 88, 89, 90, 91, 92, 93, 94, 95, 96, 97] (by decide +kernel) (by decide +kernel)) (goodIn_sub (fun _ h => List.mem_cons_of_mem _ (List.mem_append_left _ (List.mem_append_right _ h))) (by decide +kernel))
set_option maxRecDepth 20000 in
theorem gX11_begin_X11_begins : GoodIn wsX11_begin (wsV RX11 145 RX11 yX11_begins wsX11_begins) := goodIn_app (goodIn_of _ (by decide +kernel)) ggX11_begin_X11_begins
set_option maxRecDepth 20000 in
theorem ggX11_begin_X11_least : GoodIn wsX11_begin wsX11_least := goodIn_ca (goodIn_ca (goodIn_r _ [20, 21, 22, 23, 7, 24, 3, 25, 26, 4, 27, 28, 29, 30, 31, 32, 33, 34, 35, 36, 37, 38, 39, 40, 41, 42, 43, 44, 45, 46, 47, 48, 49, 50, 51, 52, 53, 54, 55, 56, 57, 58, 59, 60, 61, 62, 63, 64, 65, 66, 67, 68, 69, 70, 71, 72, 73, 74, 75, 76, 77, 78, 79, 80, 81, 82, 83, 84, 85, 86, 87, 88, 89, 90, 91, 92, 93, 94, 95, 96, 97] (by decide +kernel) (by decide +kernel)) (goodIn_sub (fun _ h => List.mem_cons_of_mem _ (List.mem_append_left _ (List.mem_append_right _ h))) (by decide +kernel))) (goodIn_sub (fun _ h => List.mem_cons_of_mem _ (List.mem_append_right _ h)) (by decide +kernel))
set_option maxRecDepth 20000 in
theorem gX11_begin_X11_least : GoodIn wsX11_begin (wsV RX11 172 RX11 yX11_least wsX11_least) := goodIn_app (goodIn_of _ (by decide +kernel)) ggX11_begin_X11_least
