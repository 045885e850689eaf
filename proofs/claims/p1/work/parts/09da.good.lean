set_option maxRecDepth 20000 in
theorem ggX11_undo_X11_fails : GoodIn wsX11_undo wsX11_fails := goodIn_r _ [11, 1, 12, 13, 14, 15, 16, 17, 18, 19, 20, 21, 22, 23, 24, 25, 26, 27, 28, 29, 30, 31, 32, 33, 34, 35, 36, 37, 38, 39, 40, 41, 42] (by decide +kernel) (by decide +kernel)
set_option maxRecDepth 20000 in
theorem gX11_undo_X11_fails : GoodIn wsX11_undo (wsV RX11 73 RX11 yX11_fails wsX11_fails) := goodIn_app (goodIn_of _ (by decide +kernel)) ggX11_undo_X11_fails
set_option maxRecDepth 20000 in
theorem ggX11_restore_X11_fails : GoodIn wsX11_restore wsX11_fails := goodIn_r _ [12, 1, 13, 14, 15, 16, 17, 18, 19, 20, 21, 22, 23, 24, 25, 26, 27, 28, 29, 30, 31, 32, 33, 34, 35, 36, 37, 38, 39, 40, 41, 42, 43] (by decide +kernel) (by decide +kernel)
set_option maxRecDepth 20000 in
theorem gX11_restore_X11_fails : GoodIn wsX11_restore (wsV RX11 73 RX11 yX11_fails wsX11_fails) := goodIn_app (goodIn_of _ (by decide +kernel)) ggX11_restore_X11_fails
set_option maxRecDepth 20000 in
theorem ggX11_isRow_X11_in : GoodIn wsX11_isRow wsX11_in := goodIn_r _ [4] (by decide +kernel) (by decide +kernel)
set_option maxRecDepth 20000 in
theorem gX11_isRow_X11_in : GoodIn wsX11_isRow (va_wsS RX11 95 yX11_in wsX11_in) := goodIn_app (goodIn_of _ (by decide +kernel)) ggX11_isRow_X11_in
set_option maxRecDepth 20000 in
theorem ggX11_storeSchedule_X11_isRow : GoodIn wsX11_storeSchedule wsX11_isRow := goodIn_r _ [11, 12, 13, 10, 14] (by decide +kernel) (by decide +kernel)
set_option maxRecDepth 20000 in
theorem gX11_storeSchedule_X11_isRow : GoodIn wsX11_storeSchedule (va_wsS RX11 263 yX11_isRow wsX11_isRow) := goodIn_app (goodIn_of _ (by decide +kernel)) ggX11_storeSchedule_X11_isRow
set_option maxRecDepth 20000 in
theorem ggX11_storeSchedule_X11_plansNow : GoodIn wsX11_storeSchedule wsX11_plansNow := goodIn_ca (goodIn_ca (goodIn_r _ [18, 3, 19, 20, 21, 22, 10, 23, 24, 25, 26, 27, 28, 29, 30, 31, 32, 33, 34, 35, 36, 37, 38, 39, 40, 41, 42, 43, 44, 45, 46, 47, 48, 49, 50, 51, 52, 53, 54, 55, 56, 57, 58, 59, 60, 61, 62, 63, 64, 5, 65, 66, 67, 68, 69, 70, 71, 72, 73, 74, 75, 76, 77, 78, 79, 80, 81, 82, 83, 84, 85, 86, 87, 88, 89, 90, 91, 92, 93, 94, 95] (by decide +kernel) (by decide +kernel)) (goodIn_sub (fun _ h => List.mem_cons_of_mem _ (List.mem_append_left _ (List.mem_append_right _ h))) (by decide +kernel))) (goodIn_sub (fun _ h => List.mem_cons_of_mem _ (List.mem_append_right _ h)) (by decide +kernel))
set_option maxRecDepth 20000 in
theorem gX11_storeSchedule_X11_plansNow : GoodIn wsX11_storeSchedule (wsV RX11 175 RX11 yX11_plansNow wsX11_plansNow) := goodIn_app (goodIn_of _ (by decide +kernel)) ggX11_storeSchedule_X11_plansNow
set_option maxRecDepth 20000 in
theorem ggX11_copyRow_X11_isRow : GoodIn wsX11_copyRow wsX11_isRow := goodIn_r _ [8, 9, 10, 7, 11] (by decide +kernel) (by decide +kernel)
set_option maxRecDepth 20000 in
theorem gX11_copyRow_X11_isRow : GoodIn wsX11_copyRow (va_wsS RX11 263 yX11_isRow wsX11_isRow) := goodIn_app (goodIn_of _ (by decide +kernel)) ggX11_copyRow_X11_isRow
set_option maxRecDepth 20000 in
theorem ggX11_stored_X11_isRow : GoodIn wsX11_stored wsX11_isRow := goodIn_r _ [7, 8, 9, 6, 10] (by decide +kernel) (by decide +kernel)
set_option maxRecDepth 20000 in
theorem gX11_stored_X11_isRow : GoodIn wsX11_stored (va_wsS RX11 263 yX11_isRow wsX11_isRow) := goodIn_app (goodIn_of _ (by decide +kernel)) ggX11_stored_X11_isRow
set_option maxRecDepth 20000 in
theorem ggX11_stored_X11_in : GoodIn wsX11_stored wsX11_in := goodIn_r _ [10] (by decide +kernel) (by decide +kernel)
set_option maxRecDepth 20000 in
theorem gX11_stored_X11_in : GoodIn wsX11_stored (va_wsS RX11 95 yX11_in wsX11_in) := goodIn_app (goodIn_of _ (by decide +kernel)) ggX11_stored_X11_in
