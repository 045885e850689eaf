set_option maxRecDepth 20000 in
theorem ggX2_numberOf_X2_monthOf : GoodIn wsX2_numberOf wsX2_monthOf := goodIn_ca (goodIn_r _ [4, 5] (by decide +kernel) (by decide +kernel)) (goodIn_sub (fun _ h => List.mem_cons_of_mem _ (List.mem_append_right _ h)) (by decide +kernel))
set_option maxRecDepth 20000 in
theorem gX2_numberOf_X2_monthOf : GoodIn wsX2_numberOf (va_wsS RX2 13 yX2_monthOf wsX2_monthOf) := goodIn_app (goodIn_of _ (by decide +kernel)) ggX2_numberOf_X2_monthOf
set_option maxRecDepth 20000 in
theorem ggX2_numberOf_X2_monthStart : GoodIn wsX2_numberOf wsX2_monthStart := goodIn_ca (goodIn_r _ [8, 5] (by decide +kernel) (by decide +kernel)) (goodIn_sub (fun _ h => List.mem_cons_of_mem _ (List.mem_append_right _ h)) (by decide +kernel))
set_option maxRecDepth 20000 in
theorem gX2_numberOf_X2_monthStart : GoodIn wsX2_numberOf (va_wsS RX2 17 yX2_monthStart wsX2_monthStart) := goodIn_app (goodIn_of _ (by decide +kernel)) ggX2_numberOf_X2_monthStart
set_option maxRecDepth 20000 in
theorem ggX2_monthsAfter_X2_monthOf : GoodIn wsX2_monthsAfter wsX2_monthOf := goodIn_ca (goodIn_r _ [8, 9] (by decide +kernel) (by decide +kernel)) (goodIn_sub (fun _ h => List.mem_cons_of_mem _ (List.mem_append_right _ h)) (by decide +kernel))
set_option maxRecDepth 20000 in
theorem gX2_monthsAfter_X2_monthOf : GoodIn wsX2_monthsAfter (va_wsS RX2 13 yX2_monthOf wsX2_monthOf) := goodIn_app (goodIn_of _ (by decide +kernel)) ggX2_monthsAfter_X2_monthOf
set_option maxRecDepth 20000 in
theorem ggX2_monthsAfter_X2_monthStart : GoodIn wsX2_monthsAfter wsX2_monthStart := goodIn_ca (goodIn_r _ [12, 9] (by decide +kernel) (by decide +kernel)) (goodIn_sub (fun _ h => List.mem_cons_of_mem _ (List.mem_append_right _ h)) (by decide +kernel))
set_option maxRecDepth 20000 in
theorem gX2_monthsAfter_X2_monthStart : GoodIn wsX2_monthsAfter (va_wsS RX2 17 yX2_monthStart wsX2_monthStart) := goodIn_app (goodIn_of _ (by decide +kernel)) ggX2_monthsAfter_X2_monthStart
set_option maxRecDepth 20000 in
theorem ggX2_counted_X2_in360 : GoodIn wsX2_counted wsX2_in360 := goodIn_ca (goodIn_r _ [4, 5, 6, 7, 8, 9, 10, 3, 11, 12, 13, 14, 15] (by decide +kernel) (by decide +kernel)) (goodIn_sub (fun _ h => List.mem_cons_of_mem _ (List.mem_append_right _ h)) (by decide +kernel))
set_option maxRecDepth 20000 in
theorem gX2_counted_X2_in360 : GoodIn wsX2_counted (va_wsS RX2 26 yX2_in360 wsX2_in360) := goodIn_app (goodIn_of _ (by decide +kernel)) ggX2_counted_X2_in360
set_option maxRecDepth 20000 in
theorem ggX2_in360_X2_monthOf : GoodIn wsX2_in360 wsX2_monthOf := goodIn_ca (goodIn_r _ [8, 9] (by decide +kernel) (by decide +kernel)) (goodIn_sub (fun _ h => List.mem_cons_of_mem _ (List.mem_append_right _ h)) (by decide +kernel))
set_option maxRecDepth 20000 in
theorem gX2_in360_X2_monthOf : GoodIn wsX2_in360 (va_wsS RX2 13 yX2_monthOf wsX2_monthOf) := goodIn_app (goodIn_of _ (by decide +kernel)) ggX2_in360_X2_monthOf
set_option maxRecDepth 20000 in
theorem ggX2_in360_X2_monthStart : GoodIn wsX2_in360 wsX2_monthStart := goodIn_ca (goodIn_r _ [12, 9] (by decide +kernel) (by decide +kernel)) (goodIn_sub (fun _ h => List.mem_cons_of_mem _ (List.mem_append_right _ h)) (by decide +kernel))
set_option maxRecDepth 20000 in
theorem gX2_in360_X2_monthStart : GoodIn wsX2_in360 (va_wsS RX2 17 yX2_monthStart wsX2_monthStart) := goodIn_app (goodIn_of _ (by decide +kernel)) ggX2_in360_X2_monthStart
set_option maxRecDepth 20000 in
theorem ggX9_toCents_J9_floorDiv_f86c9 : GoodIn wsX9_toCents wsJ9_floorDiv_f86c9 := goodIn_r _ [8] (by decide +kernel) (by decide +kernel)
set_option maxRecDepth 20000 in
theorem gX9_toCents_J9_floorDiv_f86c9 : GoodIn wsX9_toCents (va_wsS RX9 13 yJ9_floorDiv_f86c9 wsJ9_floorDiv_f86c9) := goodIn_app (goodIn_of _ (by decide +kernel)) ggX9_toCents_J9_floorDiv_f86c9
set_option maxRecDepth 20000 in
theorem ggX11_monthStart_X11_monthLength : GoodIn wsX11_monthStart wsX11_monthLength := goodIn_r _ [4] (by decide +kernel) (by decide +kernel)
set_option maxRecDepth 20000 in
theorem gX11_monthStart_X11_monthLength : GoodIn wsX11_monthStart (va_wsS RX11 83 yX11_monthLength wsX11_monthLength) := goodIn_app (goodIn_of _ (by decide +kernel)) ggX11_monthStart_X11_monthLength
set_option maxRecDepth 20000 in
theorem ggX11_monthOf_X11_monthStart : GoodIn wsX11_monthOf wsX11_monthStart := goodIn_r _ [4, 5, 6, 3, 7] (by decide +kernel) (by decide +kernel)
set_option maxRecDepth 20000 in
theorem gX11_monthOf_X11_monthStart : GoodIn wsX11_monthOf (va_wsS RX11 86 yX11_monthStart wsX11_monthStart) := goodIn_app (goodIn_of _ (by decide +kernel)) ggX11_monthOf_X11_monthStart
set_option maxRecDepth 20000 in
theorem ggX11_numberOf_X11_monthOf : GoodIn wsX11_numberOf wsX11_monthOf := goodIn_r _ [4, 5, 6, 3, 7, 8, 9, 10] (by decide +kernel) (by decide +kernel)
set_option maxRecDepth 20000 in
theorem gX11_numberOf_X11_monthOf : GoodIn wsX11_numberOf (va_wsS RX11 89 yX11_monthOf wsX11_monthOf) := goodIn_app (goodIn_of _ (by decide +kernel)) ggX11_numberOf_X11_monthOf
set_option maxRecDepth 20000 in
theorem ggX11_numberOf_X11_monthStart : GoodIn wsX11_numberOf wsX11_monthStart := goodIn_r _ [7, 8, 9, 3, 10] (by decide +kernel) (by decide +kernel)
set_option maxRecDepth 20000 in
theorem gX11_numberOf_X11_monthStart : GoodIn wsX11_numberOf (va_wsS RX11 86 yX11_monthStart wsX11_monthStart) := goodIn_app (goodIn_of _ (by decide +kernel)) ggX11_numberOf_X11_monthStart
set_option maxRecDepth 20000 in
theorem ggX11_monthsAfter_X11_monthOf : GoodIn wsX11_monthsAfter wsX11_monthOf := goodIn_r _ [4, 5, 6, 3, 7, 8, 9, 10] (by decide +kernel) (by decide +kernel)
set_option maxRecDepth 20000 in
theorem gX11_monthsAfter_X11_monthOf : GoodIn wsX11_monthsAfter (va_wsS RX11 89 yX11_monthOf wsX11_monthOf) := goodIn_app (goodIn_of _ (by decide +kernel)) ggX11_monthsAfter_X11_monthOf
set_option maxRecDepth 20000 in
theorem ggX11_monthsAfter_X11_numberOf : GoodIn wsX11_monthsAfter wsX11_numberOf := goodIn_r _ [13, 1, 2, 3, 4, 5, 6, 7, 8, 9, 10] (by decide +kernel) (by decide +kernel)
set_option maxRecDepth 20000 in
theorem gX11_monthsAfter_X11_numberOf : GoodIn wsX11_monthsAfter (va_wsS RX11 92 yX11_numberOf wsX11_numberOf) := goodIn_app (goodIn_of _ (by decide +kernel)) ggX11_monthsAfter_X11_numberOf
set_option maxRecDepth 20000 in
theorem ggX11_monthsAfter_X11_monthLength : GoodIn wsX11_monthsAfter wsX11_monthLength := goodIn_r _ [10] (by decide +kernel) (by decide +kernel)
set_option maxRecDepth 20000 in
theorem gX11_monthsAfter_X11_monthLength : GoodIn wsX11_monthsAfter (va_wsS RX11 83 yX11_monthLength wsX11_monthLength) := goodIn_app (goodIn_of _ (by decide +kernel)) ggX11_monthsAfter_X11_monthLength
set_option maxRecDepth 20000 in
theorem ggX11_monthsAfter_X11_monthStart : GoodIn wsX11_monthsAfter wsX11_monthStart := goodIn_r _ [7, 8, 9, 3, 10] (by decide +kernel) (by decide +kernel)
set_option maxRecDepth 20000 in
theorem gX11_monthsAfter_X11_monthStart : GoodIn wsX11_monthsAfter (va_wsS RX11 86 yX11_monthStart wsX11_monthStart) := goodIn_app (goodIn_of _ (by decide +kernel)) ggX11_monthsAfter_X11_monthStart
set_option maxRecDepth 20000 in
theorem ggX11_counted_X11_monthOf : GoodIn wsX11_counted wsX11_monthOf := goodIn_r _ [4, 5, 6, 3, 7, 8, 9, 10] (by decide +kernel) (by decide +kernel)
set_option maxRecDepth 20000 in
theorem gX11_counted_X11_monthOf : GoodIn wsX11_counted (va_wsS RX11 89 yX11_monthOf wsX11_monthOf) := goodIn_app (goodIn_of _ (by decide +kernel)) ggX11_counted_X11_monthOf
set_option maxRecDepth 20000 in
theorem ggX11_counted_X11_numberOf : GoodIn wsX11_counted wsX11_numberOf := goodIn_r _ [13, 1, 2, 3, 4, 5, 6, 7, 8, 9, 10] (by decide +kernel) (by decide +kernel)
set_option maxRecDepth 20000 in
theorem gX11_counted_X11_numberOf : GoodIn wsX11_counted (va_wsS RX11 92 yX11_numberOf wsX11_numberOf) := goodIn_app (goodIn_of _ (by decide +kernel)) ggX11_counted_X11_numberOf
set_option maxRecDepth 20000 in
theorem ggX11_partOf_X11_monthOf : GoodIn wsX11_partOf wsX11_monthOf := goodIn_r _ [4, 5, 6, 3, 7, 8, 9, 10] (by decide +kernel) (by decide +kernel)
set_option maxRecDepth 20000 in
theorem gX11_partOf_X11_monthOf : GoodIn wsX11_partOf (va_wsS RX11 89 yX11_monthOf wsX11_monthOf) := goodIn_app (goodIn_of _ (by decide +kernel)) ggX11_partOf_X11_monthOf
set_option maxRecDepth 20000 in
theorem ggX11_partOf_X11_numberOf : GoodIn wsX11_partOf wsX11_numberOf := goodIn_r _ [13, 1, 2, 3, 4, 5, 6, 7, 8, 9, 10] (by decide +kernel) (by decide +kernel)
set_option maxRecDepth 20000 in
theorem gX11_partOf_X11_numberOf : GoodIn wsX11_partOf (va_wsS RX11 92 yX11_numberOf wsX11_numberOf) := goodIn_app (goodIn_of _ (by decide +kernel)) ggX11_partOf_X11_numberOf
set_option maxRecDepth 20000 in
theorem ggX11_cents_X11_cent : GoodIn wsX11_cents wsX11_cent := goodIn_ca (goodIn_r _ [6, 7, 8, 9, 10, 11, 12, 13, 14, 15, 16, 17, 18, 19, 20, 21, 22, 23, 24, 25, 26, 27, 28, 29, 30, 31, 32, 33, 34, 35, 36, 37, 38, 39] (by decide +kernel) (by decide +kernel)) (goodIn_sub (fun _ h => List.mem_cons_of_mem _ (List.mem_append_right _ h)) (by decide +kernel))
set_option maxRecDepth 20000 in
theorem gX11_cents_X11_cent : GoodIn wsX11_cents (wsV RX11 110 RX11 yX11_cent wsX11_cent) := goodIn_app (goodIn_of _ (by decide +kernel)) ggX11_cents_X11_cent
