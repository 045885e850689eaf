set_option maxRecDepth 20000 in
theorem ggX10_scheduleLength_X10_projectNow : GoodIn wsX10_scheduleLength wsX10_projectNow := goodIn_ca (goodIn_r _ [6, 1, 7, 8, 9, 10, 11, 12, 13, 14, 15, 16, 17, 18, 19, 20, 21, 22, 23, 24, 25, 26, 27, 28, 29, 30, 31, 32, 33, 34, 35, 36, 37, 38, 39, 40, 41, 42, 43, 44, 45, 46, 47, 48, 49, 50, 51, 52, 53, 54, 55, 56, 57, 58, 59, 60, 61, 62, 63, 64, 65, 66, 67, 68, 69, 70, 71, 72, 73, 74, 75, 76, 77, 78, 79, 80, 81, 82, 83, 84, 85, 86, 87, 88, 89, 90, 91, 92, 93, 94, 95, 96, 97, 113, 114, 115, 116, 117, 118, 119, 120, 121, 122, 123, 124, 125, 126, 127, 128, 129, 130, 131, 132, 133, 134, 135, 136, 137, 98, 99, 100, 101, 102, 103, 104, 105, 106, 107, 108, 109, 110, 111, 112] (by decide +kernel) (by decide +kernel)) (goodIn_sub (fun _ h => List.mem_cons_of_mem _ (List.mem_append_right _ h)) (by decide +kernel))
set_option maxRecDepth 20000 in
theorem gX10_scheduleLength_X10_projectNow : GoodIn wsX10_scheduleLength (wsV RX10 204 RX10 yX10_projectNow wsX10_projectNow) := goodIn_app (goodIn_of _ (by decide +kernel)) ggX10_scheduleLength_X10_projectNow
set_option maxRecDepth 20000 in
theorem ggX10_schedule_X10_projectNow : GoodIn wsX10_schedule wsX10_projectNow := goodIn_ca (goodIn_r _ [10, 5, 11, 12, 13, 14, 15, 16, 17, 18, 19, 20, 21, 22, 23, 24, 25, 26, 27, 28, 29, 30, 31, 32, 33, 34, 35, 36, 37, 38, 39, 40, 41, 42, 43, 44, 45, 46, 47, 48, 49, 50, 51, 52, 53, 54, 55, 56, 57, 58, 59, 60, 61, 62, 63, 64, 65, 66, 67, 68, 69, 70, 71, 72, 73, 74, 75, 76, 77, 78, 79, 80, 81, 82, 83, 84, 85, 86, 99, 100, 101, 102, 103, 104, 105, 106, 107, 108, 109, 110, 111, 112, 113, 114, 115, 116, 117, 118, 119, 120, 121, 122, 123, 124, 125, 126, 127, 128, 129, 130, 131, 132, 133, 134, 135, 136, 137, 138, 139, 140, 141, 142, 143, 144, 145, 146, 147, 148, 149, 150, 151, 152, 153] (by decide +kernel) (by decide +kernel)) (goodIn_sub (fun _ h => List.mem_cons_of_mem _ (List.mem_append_right _ h)) (by decide +kernel))
set_option maxRecDepth 20000 in
theorem gX10_schedule_X10_projectNow : GoodIn wsX10_schedule (wsV RX10 204 RX10 yX10_projectNow wsX10_projectNow) := goodIn_app (goodIn_of _ (by decide +kernel)) ggX10_schedule_X10_projectNow
set_option maxRecDepth 20000 in
theorem ggX10_schedule_X7_has : GoodIn wsX10_schedule wsX7_has := goodIn_r _ [90, 60, 139, 140, 141, 142, 143, 144, 145, 146, 147, 148, 149, 150, 151, 152, 153] (by decide +kernel) (by decide +kernel)
set_option maxRecDepth 20000 in
theorem gX10_schedule_X7_has : GoodIn wsX10_schedule (wsV RX10 210 RX7 yX7_has wsX7_has) := goodIn_app (goodIn_of _ (by decide +kernel)) ggX10_schedule_X7_has
set_option maxRecDepth 20000 in
theorem ggX10_append_X10_isWithin : GoodIn wsX10_append wsX10_isWithin := goodIn_r _ [9] (by decide +kernel) (by decide +kernel)
set_option maxRecDepth 20000 in
theorem gX10_append_X10_isWithin : GoodIn wsX10_append (va_wsS RX10 65 yX10_isWithin wsX10_isWithin) := goodIn_app (goodIn_of _ (by decide +kernel)) ggX10_append_X10_isWithin
set_option maxRecDepth 20000 in
theorem ggX10_append_X4_hasRoom : GoodIn wsX10_append wsX4_hasRoom := goodIn_r _ [14, 15, 36, 37, 38, 39, 40] (by decide +kernel) (by decide +kernel)
set_option maxRecDepth 20000 in
theorem gX10_append_X4_hasRoom : GoodIn wsX10_append (wsV RX10 226 RX4 yX4_hasRoom wsX4_hasRoom) := goodIn_app (goodIn_of _ (by decide +kernel)) ggX10_append_X4_hasRoom
set_option maxRecDepth 20000 in
theorem ggX10_append_X4_put : GoodIn wsX10_append wsX4_put := goodIn_ca (goodIn_r _ [19, 15, 20, 36, 37, 38, 39, 40] (by decide +kernel) (by decide +kernel)) (goodIn_sub (fun _ h => List.mem_cons_of_mem _ (List.mem_append_right _ h)) (by decide +kernel))
set_option maxRecDepth 20000 in
theorem gX10_append_X4_put : GoodIn wsX10_append (wsV RX10 229 RX4 yX4_put wsX4_put) := goodIn_app (goodIn_of _ (by decide +kernel)) ggX10_append_X4_put
set_option maxRecDepth 20000 in
theorem ggX10_execute_X4_read : GoodIn wsX10_execute wsX4_read := goodIn_ca (goodIn_r _ [17, 18, 19, 20, 21, 22, 16, 23, 24, 25, 26, 27, 28, 29, 30, 31, 32, 358, 359, 360, 361, 362] (by decide +kernel) (by decide +kernel)) (goodIn_sub (fun _ h => List.mem_cons_of_mem _ (List.mem_append_left _ (List.mem_append_right _ h))) (by decide +kernel))
set_option maxRecDepth 20000 in
theorem gX10_execute_X4_read : GoodIn wsX10_execute (wsV RX10 236 RX4 yX4_read wsX4_read) := goodIn_app (goodIn_of _ (by decide +kernel)) ggX10_execute_X4_read
set_option maxRecDepth 20000 in
theorem ggX10_execute_X4_empty : GoodIn wsX10_execute wsX4_empty := goodIn_r _ [36, 19, 358, 359, 360, 361, 362] (by decide +kernel) (by decide +kernel)
set_option maxRecDepth 20000 in
theorem gX10_execute_X4_empty : GoodIn wsX10_execute (wsV RX10 239 RX4 yX4_empty wsX4_empty) := goodIn_app (goodIn_of _ (by decide +kernel)) ggX10_execute_X4_empty
set_option maxRecDepth 20000 in
theorem ggX10_storeSchedule_X10_projectNow : GoodIn wsX10_storeSchedule wsX10_projectNow := goodIn_ca (goodIn_r _ [9, 4, 10, 11, 12, 13, 14, 15, 16, 17, 18, 19, 20, 21, 22, 23, 24, 25, 26, 27, 28, 29, 30, 31, 32, 33, 34, 35, 36, 37, 38, 39, 40, 41, 42, 43, 44, 45, 46, 47, 48, 49, 50, 51, 52, 53, 54, 55, 56, 57, 58, 59, 60, 61, 62, 63, 64, 65, 66, 67, 68, 69, 70, 71, 72, 73, 74, 75, 76, 77, 78, 79, 80, 81, 82, 83, 84, 85, 105, 106, 107, 108, 109, 110, 111, 112, 113, 114, 115, 116, 117, 118, 119, 135, 136, 137, 138, 139, 140, 141, 142, 143, 144, 145, 146, 147, 148, 149, 150, 151, 152, 153, 154, 155, 156, 157, 158, 159, 120, 121, 122, 123, 124, 125, 126, 127, 128, 129, 130, 131, 132, 133, 134] (by decide +kernel) (by decide +kernel)) (goodIn_sub (fun _ h => List.mem_cons_of_mem _ (List.mem_append_right _ h)) (by decide +kernel))
set_option maxRecDepth 20000 in
theorem gX10_storeSchedule_X10_projectNow : GoodIn wsX10_storeSchedule (wsV RX10 204 RX10 yX10_projectNow wsX10_projectNow) := goodIn_app (goodIn_of _ (by decide +kernel)) ggX10_storeSchedule_X10_projectNow
set_option maxRecDepth 20000 in
theorem ggX10_storeSchedule_X8_fill : GoodIn wsX10_storeSchedule wsX8_fill := goodIn_ca (goodIn_r _ [90, 91, 92, 93, 94, 95, 96, 97, 98, 99, 14, 100, 82, 83, 84, 85, 101, 102, 103, 104, 59, 160, 161, 162, 163, 164, 120, 121, 122, 123, 124, 125, 126, 127, 128, 129, 130, 131, 132, 133, 134] (by decide +kernel) (by decide +kernel)) (goodIn_sub (fun _ h => List.mem_cons_of_mem _ (List.mem_append_right _ h)) (by decide +kernel))
set_option maxRecDepth 20000 in
theorem gX10_storeSchedule_X8_fill : GoodIn wsX10_storeSchedule (wsV RX10 315 RX8 yX8_fill wsX8_fill) := goodIn_app (goodIn_of _ (by decide +kernel)) ggX10_storeSchedule_X8_fill
set_option maxRecDepth 20000 in
theorem ggX10_copyRow_X10_isWithin : GoodIn wsX10_copyRow wsX10_isWithin := goodIn_r _ [17] (by decide +kernel) (by decide +kernel)
set_option maxRecDepth 20000 in
theorem gX10_copyRow_X10_isWithin : GoodIn wsX10_copyRow (va_wsS RX10 65 yX10_isWithin wsX10_isWithin) := goodIn_app (goodIn_of _ (by decide +kernel)) ggX10_copyRow_X10_isWithin
set_option maxRecDepth 20000 in
theorem ggX10_snapshot_X0_takeFrom : GoodIn wsX10_snapshot wsX0_takeFrom := goodIn_r _ [10, 11, 12, 13, 14, 15, 16, 17, 18, 19, 20, 21, 22, 23, 24, 25, 26, 27, 28, 29, 30, 31, 32, 33, 34, 35, 36, 37, 38, 39, 40, 41, 42, 43, 44, 45, 46, 47, 48, 49, 50, 51, 52, 53, 54, 55, 56, 57, 58, 59, 60, 61, 62, 63, 64, 65, 66, 67, 91, 92, 93, 94, 95, 96, 97, 98, 99, 100, 101, 102, 103, 104, 105, 106, 107, 108, 109, 110, 111, 112, 113, 114, 115, 116, 117, 118, 119, 120, 121, 122, 123, 124, 125] (by decide +kernel) (by decide +kernel)
set_option maxRecDepth 20000 in
theorem gX10_snapshot_X0_takeFrom : GoodIn wsX10_snapshot (wsV RX10 128 RX0 yX0_takeFrom wsX0_takeFrom) := goodIn_app (goodIn_of _ (by decide +kernel)) ggX10_snapshot_X0_takeFrom
set_option maxRecDepth 20000 in
theorem ggX10_snapshot_X3_takeFrom : GoodIn wsX10_snapshot wsX3_takeFrom := goodIn_r _ [72, 73, 74, 16, 17, 18, 75, 126, 127] (by decide +kernel) (by decide +kernel)
set_option maxRecDepth 20000 in
theorem gX10_snapshot_X3_takeFrom : GoodIn wsX10_snapshot (wsV RX10 338 RX3 yX3_takeFrom wsX3_takeFrom) := goodIn_app (goodIn_of _ (by decide +kernel)) ggX10_snapshot_X3_takeFrom
set_option maxRecDepth 20000 in
theorem ggX10_projectNow_X7_startFrom : GoodIn wsX10_projectNow wsX7_startFrom := goodIn_ca (goodIn_r _ [7, 8, 9, 10, 11, 12, 13, 14, 15, 16, 17, 18, 19, 20, 21, 22, 23, 24, 25, 26, 27, 28, 29, 30, 31, 32, 33, 34, 35, 36, 37, 38, 39, 40, 41, 42, 43, 44, 45, 46, 93, 94, 95, 96, 97, 98, 99, 100, 101, 102, 103, 104, 105, 106, 107, 108, 109, 110, 111, 112, 113, 114, 115, 116, 117, 118, 119, 120, 121, 122, 123, 124, 125, 126, 127, 128, 129, 130, 131, 132] (by decide +kernel) (by decide +kernel)) (goodIn_sub (fun _ h => List.mem_cons_of_mem _ (List.mem_append_right _ h)) (by decide +kernel))
set_option maxRecDepth 20000 in
theorem gX10_projectNow_X7_startFrom : GoodIn wsX10_projectNow (wsV RX10 218 RX7 yX7_startFrom wsX7_startFrom) := goodIn_app (goodIn_of _ (by decide +kernel)) ggX10_projectNow_X7_startFrom
set_option maxRecDepth 20000 in
theorem ggX10_projectNow_X7_project : GoodIn wsX10_projectNow wsX7_project := goodIn_ca (goodIn_r _ [50, 8, 9, 10, 51, 19, 11, 21, 12, 13, 14, 52, 53, 17, 54, 20, 55, 56, 57, 58, 59, 60, 61, 62, 63, 64, 65, 66, 67, 68, 69, 70, 71, 72, 6, 73, 74, 75, 76, 77, 118, 119, 120, 121, 122, 123, 124, 125, 126, 127, 128, 129, 130, 131, 132] (by decide +kernel) (by decide +kernel)) (goodIn_sub (fun _ h => List.mem_cons_of_mem _ (List.mem_append_right _ h)) (by decide +kernel))
set_option maxRecDepth 20000 in
theorem gX10_projectNow_X7_project : GoodIn wsX10_projectNow (wsV RX10 344 RX7 yX7_project wsX7_project) := goodIn_app (goodIn_of _ (by decide +kernel)) ggX10_projectNow_X7_project
