set_option maxRecDepth 20000 in
theorem ggX11_date_X11_in : GoodIn wsX11_date wsX11_in := goodIn_r _ [6] (by decide +kernel) (by decide +kernel)
set_option maxRecDepth 20000 in
theorem gX11_date_X11_in : GoodIn wsX11_date (va_wsS RX11 95 yX11_in wsX11_in) := goodIn_app (goodIn_of _ (by decide +kernel)) ggX11_date_X11_in
set_option maxRecDepth 20000 in
theorem ggX11_date_X11_partOf : GoodIn wsX11_date wsX11_partOf := goodIn_r _ [9, 10, 11, 5, 12, 13, 14, 15, 16, 17, 18, 19, 20, 21] (by decide +kernel) (by decide +kernel)
set_option maxRecDepth 20000 in
theorem gX11_date_X11_partOf : GoodIn wsX11_date (va_wsS RX11 99 yX11_partOf wsX11_partOf) := goodIn_app (goodIn_of _ (by decide +kernel)) ggX11_date_X11_partOf
set_option maxRecDepth 20000 in
theorem ggX11_countedDays_X11_in : GoodIn wsX11_countedDays wsX11_in := goodIn_r _ [5] (by decide +kernel) (by decide +kernel)
set_option maxRecDepth 20000 in
theorem gX11_countedDays_X11_in : GoodIn wsX11_countedDays (va_wsS RX11 95 yX11_in wsX11_in) := goodIn_app (goodIn_of _ (by decide +kernel)) ggX11_countedDays_X11_in
set_option maxRecDepth 20000 in
theorem ggX11_countedDays_X11_counted : GoodIn wsX11_countedDays wsX11_counted := goodIn_r _ [8, 9, 10, 4, 11, 12, 13, 14, 15, 16, 17, 18, 19, 20] (by decide +kernel) (by decide +kernel)
set_option maxRecDepth 20000 in
theorem gX11_countedDays_X11_counted : GoodIn wsX11_countedDays (va_wsS RX11 103 yX11_counted wsX11_counted) := goodIn_app (goodIn_of _ (by decide +kernel)) ggX11_countedDays_X11_counted
set_option maxRecDepth 20000 in
theorem ggX11_pass_X11_in : GoodIn wsX11_pass wsX11_in := goodIn_r _ [6] (by decide +kernel) (by decide +kernel)
set_option maxRecDepth 20000 in
theorem gX11_pass_X11_in : GoodIn wsX11_pass (va_wsS RX11 95 yX11_in wsX11_in) := goodIn_app (goodIn_of _ (by decide +kernel)) ggX11_pass_X11_in
set_option maxRecDepth 20000 in
theorem ggX11_pass_X11_begins : GoodIn wsX11_pass wsX11_begins := goodIn_ca (goodIn_r _ [10, 11, 12, 13, 14, 1, 15, 76, 77, 78, 79, 80, 81, 82, 83, 84, 85, 86, 87, 88, 89, 90, 91, 92, 93, 94, 95, 96, 97, 98, 99, 100, 101, 102, 103, 104, 105, 106] (by decide +kernel) (by decide +kernel)) (goodIn_sub (fun _ h => List.mem_cons_of_mem _ (List.mem_append_left _ (List.mem_append_right _ h))) (by decide +kernel))
set_option maxRecDepth 20000 in
theorem gX11_pass_X11_begins : GoodIn wsX11_pass (wsV RX11 145 RX11 yX11_begins wsX11_begins) := goodIn_app (goodIn_of _ (by decide +kernel)) ggX11_pass_X11_begins
set_option maxRecDepth 20000 in
theorem ggX11_pass_X11_passes : GoodIn wsX11_pass wsX11_passes := goodIn_ca (goodIn_ca (goodIn_r _ [19, 1, 15, 20, 21, 5, 22, 23, 24, 25, 26, 27, 28, 29, 30, 31, 32, 33, 34, 35, 36, 37, 38, 39, 40, 41, 42, 43, 44, 45, 46, 47, 48, 49, 50, 51, 52, 53, 54, 55, 56, 57, 58, 59, 60, 61, 62, 63, 64, 65, 66, 67, 68, 69, 70, 71, 72, 73, 74, 75, 76, 77, 78, 79, 80, 81, 82, 83, 84, 85, 86, 87, 88, 89, 90, 91, 92, 93, 94, 95, 96, 97, 98, 99, 100, 101, 102, 103, 104, 105, 106] (by decide +kernel) (by decide +kernel)) (goodIn_sub (fun _ h => List.mem_cons_of_mem _ (List.mem_append_left _ (List.mem_append_right _ h))) (by decide +kernel))) (goodIn_sub (fun _ h => List.mem_cons_of_mem _ (List.mem_append_right _ h)) (by decide +kernel))
set_option maxRecDepth 20000 in
theorem gX11_pass_X11_passes : GoodIn wsX11_pass (wsV RX11 148 RX11 yX11_passes wsX11_passes) := goodIn_app (goodIn_of _ (by decide +kernel)) ggX11_pass_X11_passes
set_option maxRecDepth 20000 in
theorem ggX11_set_X11_in : GoodIn wsX11_set wsX11_in := goodIn_r _ [6] (by decide +kernel) (by decide +kernel)
set_option maxRecDepth 20000 in
theorem gX11_set_X11_in : GoodIn wsX11_set (va_wsS RX11 95 yX11_in wsX11_in) := goodIn_app (goodIn_of _ (by decide +kernel)) ggX11_set_X11_in
set_option maxRecDepth 20000 in
theorem ggX11_set_X11_bound : GoodIn wsX11_set wsX11_bound := goodIn_r _ [9, 10] (by decide +kernel) (by decide +kernel)
set_option maxRecDepth 20000 in
theorem gX11_set_X11_bound : GoodIn wsX11_set (va_wsS RX11 180 yX11_bound wsX11_bound) := goodIn_app (goodIn_of _ (by decide +kernel)) ggX11_set_X11_bound
set_option maxRecDepth 20000 in
theorem ggX11_set_X11_begins : GoodIn wsX11_set wsX11_begins := goodIn_ca (goodIn_r _ [14, 15, 16, 17, 18, 2, 19, 20, 21, 22, 23, 24, 25, 26, 27, 28, 29, 30, 31, 32, 33, 34, 35, 36, 37, 38, 39, 40, 41, 42, 43, 44, 45, 46, 47, 48, 49, 50] (by decide +kernel) (by decide +kernel)) (goodIn_sub (fun _ h => List.mem_cons_of_mem _ (List.mem_append_right _ h)) (by decide +kernel))
set_option maxRecDepth 20000 in
theorem gX11_set_X11_begins : GoodIn wsX11_set (wsV RX11 145 RX11 yX11_begins wsX11_begins) := goodIn_app (goodIn_of _ (by decide +kernel)) ggX11_set_X11_begins
