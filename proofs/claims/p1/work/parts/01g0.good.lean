set_option maxRecDepth 20000 in
theorem ggX0_init_X6_init : GoodIn wsX0_init wsX6_init := goodIn_r _ [20, 21, 2, 3, 22, 23, 43, 44, 45, 46, 47, 48, 49, 50, 51, 52, 53, 54, 55, 56, 57, 58, 59] (by decide +kernel) (by decide +kernel)
set_option maxRecDepth 20000 in
theorem gX0_init_X6_init_n20 : GoodIn wsX0_init (wsX6_init) := ggX0_init_X6_init
set_option maxRecDepth 20000 in
theorem ggX0_init_X1_init : GoodIn wsX0_init wsX1_init := goodIn_r _ [25, 26, 2, 3, 22, 27, 4, 28, 60, 61, 62, 63, 64] (by decide +kernel) (by decide +kernel)
set_option maxRecDepth 20000 in
theorem gX0_init_X1_init_n27 : GoodIn wsX0_init (wsX1_init) := ggX0_init_X1_init
set_option maxRecDepth 20000 in
theorem ggX0_init_X5_init : GoodIn wsX0_init wsX5_init := goodIn_r _ [30, 31, 2, 3, 4, 32, 33, 22, 34, 65, 66, 67, 68, 69] (by decide +kernel) (by decide +kernel)
set_option maxRecDepth 20000 in
theorem gX0_init_X5_init_n34 : GoodIn wsX0_init (wsX5_init) := ggX0_init_X5_init
set_option maxRecDepth 20000 in
theorem ggX0_startLoan_X6_start : GoodIn wsX0_startLoan wsX6_start := goodIn_ca (goodIn_r _ [15, 16, 17, 18, 19, 20, 21, 22, 23, 24, 25, 26, 27, 28, 29, 30, 31, 32, 33, 34, 35, 36, 37, 38, 39, 40, 41, 42, 43, 44, 45, 46, 150, 151, 152, 153, 154, 155, 156, 157, 158, 159, 160, 161, 162, 163, 164, 165, 166] (by decide +kernel) (by decide +kernel)) (goodIn_sub (fun _ h => List.mem_cons_of_mem _ (List.mem_append_left _ (List.mem_append_right _ h))) (by decide +kernel))
set_option maxRecDepth 20000 in
theorem gX0_startLoan_X6_start : GoodIn wsX0_startLoan (wsV RX0 43 RX6 yX6_start wsX6_start) := goodIn_app (goodIn_of _ (by decide +kernel)) ggX0_startLoan_X6_start
set_option maxRecDepth 20000 in
theorem ggX0_startLoan_X1_clear : GoodIn wsX0_startLoan wsX1_clear := goodIn_r _ [51, 52, 53, 54, 167, 168, 169, 170, 171] (by decide +kernel) (by decide +kernel)
set_option maxRecDepth 20000 in
theorem gX0_startLoan_X1_clear : GoodIn wsX0_startLoan (wsV RX0 47 RX1 yX1_clear wsX1_clear) := goodIn_app (goodIn_of _ (by decide +kernel)) ggX0_startLoan_X1_clear
set_option maxRecDepth 20000 in
theorem ggX0_startLoan_X5_clear : GoodIn wsX0_startLoan wsX5_clear := goodIn_r _ [59, 60, 61, 172, 173, 174, 175, 176] (by decide +kernel) (by decide +kernel)
set_option maxRecDepth 20000 in
theorem gX0_startLoan_X5_clear : GoodIn wsX0_startLoan (wsV RX0 50 RX5 yX5_clear wsX5_clear) := goodIn_app (goodIn_of _ (by decide +kernel)) ggX0_startLoan_X5_clear
set_option maxRecDepth 20000 in
theorem ggX0_startLoan_X7_startFrom : GoodIn wsX0_startLoan wsX7_startFrom := goodIn_ca (goodIn_r _ [66, 67, 68, 69, 70, 71, 72, 73, 74, 37, 38, 39, 75, 76, 77, 78, 79, 80, 81, 82, 83, 84, 85, 33, 34, 35, 36, 40, 41, 42, 43, 44, 45, 46, 86, 87, 88, 89, 90, 91, 142, 143, 144, 145, 146, 147, 148, 149, 150, 151, 152, 153, 154, 155, 156, 157, 158, 159, 160, 161, 162, 163, 164, 165, 166, 177, 178, 179, 180, 181, 182, 183, 184, 185, 186, 187, 188, 189, 190, 191] (by decide +kernel) (by decide +kernel)) (goodIn_sub (fun _ h => List.mem_cons_of_mem _ (List.mem_append_left _ (List.mem_append_right _ h))) (by decide +kernel))
set_option maxRecDepth 20000 in
theorem gX0_startLoan_X7_startFrom : GoodIn wsX0_startLoan (wsV RX0 57 RX7 yX7_startFrom wsX7_startFrom) := goodIn_app (goodIn_of _ (by decide +kernel)) ggX0_startLoan_X7_startFrom
set_option maxRecDepth 20000 in
theorem ggX0_startLoan_X7_leastInstallment : GoodIn wsX0_startLoan wsX7_leastInstallment := goodIn_ca (goodIn_ca (goodIn_r _ [95, 67, 68, 96, 97, 38, 98, 99, 100, 101, 102, 65, 103, 69, 104, 75, 70, 77, 71, 72, 73, 105, 106, 107, 76, 108, 109, 110, 111, 112, 113, 114, 115, 116, 117, 118, 119, 120, 121, 122, 123, 124, 125, 126, 127, 128, 129, 130, 131, 132, 133, 134, 135, 136, 137, 138, 139, 140, 141, 177, 178, 179, 180, 181, 182, 183, 184, 185, 186, 187, 188, 189, 190, 191] (by decide +kernel) (by decide +kernel)) (goodIn_sub (fun _ h => List.mem_cons_of_mem _ (List.mem_append_left _ (List.mem_append_right _ h))) (by decide +kernel))) (goodIn_sub (fun _ h => List.mem_cons_of_mem _ (List.mem_append_right _ h)) (by decide +kernel))
set_option maxRecDepth 20000 in
theorem gX0_startLoan_X7_leastInstallment : GoodIn wsX0_startLoan (wsV RX0 63 RX7 yX7_leastInstallment wsX7_leastInstallment) := goodIn_app (goodIn_of _ (by decide +kernel)) ggX0_startLoan_X7_leastInstallment
set_option maxRecDepth 20000 in
theorem ggX0_takeFrom_X6_takeFrom : GoodIn wsX0_takeFrom wsX6_takeFrom := goodIn_r _ [17, 18, 19, 20, 21, 22, 23, 24, 25, 26, 27, 28, 29, 30, 31, 32, 33, 34, 35, 6, 7, 8, 66, 67, 68, 69, 70, 71, 72, 73, 74, 75, 76, 77, 78, 79, 80, 81, 82] (by decide +kernel) (by decide +kernel)
set_option maxRecDepth 20000 in
theorem gX0_takeFrom_X6_takeFrom : GoodIn wsX0_takeFrom (wsV RX0 77 RX6 yX6_takeFrom wsX6_takeFrom) := goodIn_app (goodIn_of _ (by decide +kernel)) ggX0_takeFrom_X6_takeFrom
set_option maxRecDepth 20000 in
theorem ggX0_takeFrom_X1_takeFrom : GoodIn wsX0_takeFrom wsX1_takeFrom := goodIn_r _ [40, 41, 42, 43, 44, 45, 6, 7, 8, 46, 83, 84, 85, 86, 87] (by decide +kernel) (by decide +kernel)
set_option maxRecDepth 20000 in
theorem gX0_takeFrom_X1_takeFrom : GoodIn wsX0_takeFrom (wsV RX0 81 RX1 yX1_takeFrom wsX1_takeFrom) := goodIn_app (goodIn_of _ (by decide +kernel)) ggX0_takeFrom_X1_takeFrom
set_option maxRecDepth 20000 in
theorem ggX0_takeFrom_X5_takeFrom : GoodIn wsX0_takeFrom wsX5_takeFrom := goodIn_r _ [51, 52, 53, 54, 55, 6, 7, 8, 56, 57, 88, 89, 90, 91, 92] (by decide +kernel) (by decide +kernel)
set_option maxRecDepth 20000 in
theorem gX0_takeFrom_X5_takeFrom : GoodIn wsX0_takeFrom (wsV RX0 84 RX5 yX5_takeFrom wsX5_takeFrom) := goodIn_app (goodIn_of _ (by decide +kernel)) ggX0_takeFrom_X5_takeFrom
set_option maxRecDepth 20000 in
theorem ggX0_refusal_X10_isWithin : GoodIn wsX0_refusal wsX10_isWithin := goodIn_r _ [6] (by decide +kernel) (by decide +kernel)
set_option maxRecDepth 20000 in
theorem gX0_refusal_X10_isWithin_n97 : GoodIn wsX0_refusal (wsX10_isWithin) := ggX0_refusal_X10_isWithin
set_option maxRecDepth 20000 in
theorem ggX0_refusal_X0_refusalIf : GoodIn wsX0_refusal wsX0_refusalIf := goodIn_r _ [10] (by decide +kernel) (by decide +kernel)
set_option maxRecDepth 20000 in
theorem gX0_refusal_X0_refusalIf : GoodIn wsX0_refusal (va_wsS RX0 101 yX0_refusalIf wsX0_refusalIf) := goodIn_app (goodIn_of _ (by decide +kernel)) ggX0_refusal_X0_refusalIf
set_option maxRecDepth 20000 in
theorem ggX0_refusal_X6_debt : GoodIn wsX0_refusal wsX6_debt := goodIn_r _ [15, 16, 17, 18, 46, 47, 48, 49, 50, 51, 52, 53, 54, 55, 56, 57, 58, 59, 60, 61, 62] (by decide +kernel) (by decide +kernel)
set_option maxRecDepth 20000 in
theorem gX0_refusal_X6_debt : GoodIn wsX0_refusal (wsV RX0 105 RX6 yX6_debt wsX6_debt) := goodIn_app (goodIn_of _ (by decide +kernel)) ggX0_refusal_X6_debt
set_option maxRecDepth 20000 in
theorem ggX0_refusal_X6_debtAfterPosting : GoodIn wsX0_refusal wsX6_debtAfterPosting := goodIn_r _ [22, 23, 24, 25, 12, 13, 14, 15, 16, 17, 18, 26, 27, 28, 29, 30, 31, 32, 33, 34, 35, 36, 37, 46, 47, 48, 49, 50, 51, 52, 53, 54, 55, 56, 57, 58, 59, 60, 61, 62] (by decide +kernel) (by decide +kernel)
set_option maxRecDepth 20000 in
theorem gX0_refusal_X6_debtAfterPosting : GoodIn wsX0_refusal (wsV RX0 112 RX6 yX6_debtAfterPosting wsX6_debtAfterPosting) := goodIn_app (goodIn_of _ (by decide +kernel)) ggX0_refusal_X6_debtAfterPosting
set_option maxRecDepth 20000 in
theorem ggX0_carryOut_X0_passDays : GoodIn wsX0_carryOut wsX0_passDays := goodIn_ca (goodIn_r _ [6, 7, 1, 8, 9, 10, 5, 11, 12, 13, 14, 15, 16, 17, 18, 19, 20, 21, 22, 23, 24, 25, 26, 27, 28, 29, 30, 31, 32, 33, 34, 35, 36, 37, 38, 39, 40, 41, 42, 43, 44, 45, 46, 47, 48, 49, 50, 51, 52, 53, 54, 55, 56, 57, 58, 59, 60, 61, 62, 63, 64, 65, 66, 67, 68, 69, 70, 71, 72, 73, 74, 75, 76, 77, 78, 79, 80, 81, 82, 83, 84, 85, 86, 87, 88, 89, 90, 91, 92, 93, 94, 95, 96, 97, 98, 99, 100, 101, 102, 103, 104, 105, 106, 107, 108, 109, 110, 111, 231, 232, 233, 234, 235, 236, 237, 238, 239, 240, 241, 242, 243, 244, 245, 246, 247, 248, 249, 250, 251, 252, 253, 254, 255, 256, 257, 258, 259, 260, 261, 262, 263, 264, 265] (by decide +kernel) (by decide +kernel)) (goodIn_sub (fun _ h => List.mem_cons_of_mem _ (List.mem_append_left _ (List.mem_append_right _ h))) (by decide +kernel))
set_option maxRecDepth 20000 in
theorem gX0_carryOut_X0_passDays : GoodIn wsX0_carryOut (wsV RX0 121 RX0 yX0_passDays wsX0_passDays) := goodIn_app (goodIn_of _ (by decide +kernel)) ggX0_carryOut_X0_passDays
set_option maxRecDepth 20000 in
theorem ggX0_carryOut_X0_adjust : GoodIn wsX0_carryOut wsX0_adjust := goodIn_ca (goodIn_ca (goodIn_r _ [115, 1, 13, 116, 117, 118, 119, 120, 121, 122, 123, 124, 125, 126, 127, 128, 59, 24, 60, 129, 130, 131, 132, 133, 134, 135, 136, 137, 138, 139, 101, 53, 102, 58, 61, 62, 63, 64, 65, 66, 67, 140, 52, 54, 55, 56, 57, 141, 142, 143, 144, 145, 146, 147, 148, 149, 150, 151, 152, 153, 154, 155, 156, 157, 79, 80, 81, 82, 83, 84, 85, 86, 87, 40, 88, 158, 90, 91, 159, 160, 161, 162, 163, 164, 165, 166, 167, 168, 169, 170, 171, 172, 173, 174, 175, 176, 177, 178, 231, 232, 233, 234, 235, 236, 237, 238, 239, 240, 241, 242, 243, 244, 245, 246, 247, 248, 249, 250, 251, 252, 253, 254, 255, 266, 267, 268, 269, 270, 271, 272, 273, 274, 275, 276, 277, 278, 279, 280] (by decide +kernel) (by decide +kernel)) (goodIn_sub (fun _ h => List.mem_cons_of_mem _ (List.mem_append_left _ (List.mem_append_right _ h))) (by decide +kernel))) (goodIn_sub (fun _ h => List.mem_cons_of_mem _ (List.mem_append_right _ h)) (by decide +kernel))
set_option maxRecDepth 20000 in
theorem gX0_carryOut_X0_adjust : GoodIn wsX0_carryOut (wsV RX0 128 RX0 yX0_adjust wsX0_adjust) := goodIn_app (goodIn_of _ (by decide +kernel)) ggX0_carryOut_X0_adjust
set_option maxRecDepth 20000 in
theorem ggX0_carryOut_X6_isHoliday : GoodIn wsX0_carryOut wsX6_isHoliday := goodIn_r _ [182, 96, 239, 240, 241, 242, 243, 244, 245, 246, 247, 248, 249, 250, 251, 252, 253, 254, 255] (by decide +kernel) (by decide +kernel)
set_option maxRecDepth 20000 in
theorem gX0_carryOut_X6_isHoliday : GoodIn wsX0_carryOut (wsV RX0 132 RX6 yX6_isHoliday wsX6_isHoliday) := goodIn_app (goodIn_of _ (by decide +kernel)) ggX0_carryOut_X6_isHoliday
set_option maxRecDepth 20000 in
theorem ggX0_carryOut_X0_takePayment : GoodIn wsX0_carryOut wsX0_takePayment := goodIn_ca (goodIn_r _ [186, 14, 7, 1, 13, 187, 12, 72, 73, 74, 45, 75, 47, 50, 76, 77, 78, 79, 80, 81, 82, 83, 84, 85, 86, 87, 40, 88, 89, 90, 91, 28, 29, 30, 31, 32, 33, 34, 35, 36, 37, 38, 39, 41, 188, 189, 190, 191, 192, 193, 155, 24, 156, 194, 195, 196, 197, 198, 199, 200, 201, 48, 202, 203, 204, 18, 205, 20, 22, 23, 25, 26, 111, 206, 207, 208, 209, 210, 211, 212, 213, 5, 214, 215, 216, 217, 218, 219, 220, 221, 222, 231, 232, 233, 234, 235, 236, 237, 238, 239, 240, 241, 242, 243, 244, 245, 246, 247, 248, 249, 250, 251, 252, 253, 254, 255, 261, 262, 263, 264, 265, 256, 257, 258, 259, 260] (by decide +kernel) (by decide +kernel)) (goodIn_sub (fun _ h => List.mem_cons_of_mem _ (List.mem_append_left _ (List.mem_append_right _ h))) (by decide +kernel))
set_option maxRecDepth 20000 in
theorem gX0_carryOut_X0_takePayment : GoodIn wsX0_carryOut (wsV RX0 139 RX0 yX0_takePayment wsX0_takePayment) := goodIn_app (goodIn_of _ (by decide +kernel)) ggX0_carryOut_X0_takePayment
set_option maxRecDepth 20000 in
theorem ggX0_carryOut_X6_debt : GoodIn wsX0_carryOut wsX6_debt := goodIn_r _ [218, 48, 76, 192, 239, 240, 241, 242, 243, 244, 245, 246, 247, 248, 249, 250, 251, 252, 253, 254, 255] (by decide +kernel) (by decide +kernel)
set_option maxRecDepth 20000 in
theorem gX0_carryOut_X6_debt : GoodIn wsX0_carryOut (wsV RX0 105 RX6 yX6_debt wsX6_debt) := goodIn_app (goodIn_of _ (by decide +kernel)) ggX0_carryOut_X6_debt
set_option maxRecDepth 20000 in
theorem ggX0_carryOut_X0_takeWaiver : GoodIn wsX0_carryOut wsX0_takeWaiver := goodIn_ca (goodIn_r _ [226, 1, 14, 7, 28, 29, 30, 31, 32, 33, 34, 35, 36, 37, 38, 39, 40, 41, 211, 212, 213, 5, 214, 12, 215, 216, 217, 45, 218, 48, 76, 192, 219, 220, 221, 18, 222, 26, 20, 231, 232, 233, 234, 235, 236, 237, 238, 239, 240, 241, 242, 243, 244, 245, 246, 247, 248, 249, 250, 251, 252, 253, 254, 255, 261, 262, 263, 264, 265, 256, 257, 258, 259, 260] (by decide +kernel) (by decide +kernel)) (goodIn_sub (fun _ h => List.mem_cons_of_mem _ (List.mem_append_left _ (List.mem_append_right _ h))) (by decide +kernel))
set_option maxRecDepth 20000 in
theorem gX0_carryOut_X0_takeWaiver : GoodIn wsX0_carryOut (wsV RX0 143 RX0 yX0_takeWaiver wsX0_takeWaiver) := goodIn_app (goodIn_of _ (by decide +kernel)) ggX0_carryOut_X0_takeWaiver
set_option maxRecDepth 20000 in
theorem ggX0_carryOut_X0_changeRule : GoodIn wsX0_carryOut wsX0_changeRule := goodIn_ca (goodIn_r _ [230, 13, 231, 232, 233, 234, 235, 236, 237, 238] (by decide +kernel) (by decide +kernel)) (goodIn_sub (fun _ h => List.mem_cons_of_mem _ (List.mem_append_left _ (List.mem_append_right _ h))) (by decide +kernel))
set_option maxRecDepth 20000 in
theorem gX0_carryOut_X0_changeRule : GoodIn wsX0_carryOut (wsV RX0 147 RX0 yX0_changeRule wsX0_changeRule) := goodIn_app (goodIn_of _ (by decide +kernel)) ggX0_carryOut_X0_changeRule
set_option maxRecDepth 20000 in
theorem ggX0_passDays_X0_chargeLateBills : GoodIn wsX0_passDays wsX0_chargeLateBills := goodIn_ca (goodIn_r _ [7, 8, 1, 9, 2, 10, 11, 12, 13, 14, 15, 16, 17, 18, 19, 20, 21, 22, 23, 24, 25, 26, 27, 28, 29, 30, 31, 32, 33, 34, 35, 36, 37, 108, 109, 110, 111, 112, 113, 114, 115, 116, 117, 118, 119, 120, 121, 122, 123, 124, 125, 126, 127, 128, 129, 130, 131, 132, 133, 134, 135, 136, 137, 138, 139, 140, 141, 142] (by decide +kernel) (by decide +kernel)) (goodIn_sub (fun _ h => List.mem_cons_of_mem _ (List.mem_append_right _ h)) (by decide +kernel))
set_option maxRecDepth 20000 in
theorem gX0_passDays_X0_chargeLateBills : GoodIn wsX0_passDays (wsV RX0 151 RX0 yX0_chargeLateBills wsX0_chargeLateBills) := goodIn_app (goodIn_of _ (by decide +kernel)) ggX0_passDays_X0_chargeLateBills
set_option maxRecDepth 20000 in
theorem ggX0_passDays_X6_accrue : GoodIn wsX0_passDays wsX6_accrue := goodIn_ca (goodIn_r _ [42, 43, 44, 45, 46, 47, 48, 49, 50, 51, 52, 53, 54, 55, 20, 56, 57, 58, 59, 60, 61, 62, 63, 116, 117, 118, 119, 120, 121, 122, 123, 124, 125, 126, 127, 128, 129, 130, 131, 132] (by decide +kernel) (by decide +kernel)) (goodIn_sub (fun _ h => List.mem_cons_of_mem _ (List.mem_append_right _ h)) (by decide +kernel))
set_option maxRecDepth 20000 in
theorem gX0_passDays_X6_accrue : GoodIn wsX0_passDays (wsV RX0 158 RX6 yX6_accrue wsX6_accrue) := goodIn_app (goodIn_of _ (by decide +kernel)) ggX0_passDays_X6_accrue
set_option maxRecDepth 20000 in
theorem ggX0_passDays_X0_takeDueDay : GoodIn wsX0_passDays wsX0_takeDueDay := goodIn_ca (goodIn_r _ [67, 10, 1, 2, 9, 8, 68, 69, 70, 41, 71, 43, 46, 72, 73, 74, 75, 76, 77, 78, 79, 80, 81, 82, 83, 36, 84, 85, 86, 87, 24, 25, 26, 27, 28, 29, 30, 31, 32, 33, 34, 35, 37, 88, 89, 90, 91, 92, 93, 94, 95, 96, 97, 49, 98, 54, 55, 20, 56, 57, 58, 59, 60, 61, 62, 63, 99, 100, 101, 102, 44, 103, 104, 105, 14, 106, 22, 107, 23, 108, 109, 110, 111, 112, 113, 114, 115, 116, 117, 118, 119, 120, 121, 122, 123, 124, 125, 126, 127, 128, 129, 130, 131, 132, 138, 139, 140, 141, 142, 133, 134, 135, 136, 137] (by decide +kernel) (by decide +kernel)) (goodIn_sub (fun _ h => List.mem_cons_of_mem _ (List.mem_append_right _ h)) (by decide +kernel))
set_option maxRecDepth 20000 in
theorem gX0_passDays_X0_takeDueDay : GoodIn wsX0_passDays (wsV RX0 162 RX0 yX0_takeDueDay wsX0_takeDueDay) := goodIn_app (goodIn_of _ (by decide +kernel)) ggX0_passDays_X0_takeDueDay
set_option maxRecDepth 20000 in
theorem ggX0_chargeLateBills_X1_becomeLate : GoodIn wsX0_chargeLateBills wsX1_becomeLate := goodIn_ca (goodIn_r _ [10, 11, 12, 13, 14, 15, 16, 17, 18, 58, 59, 60, 61, 62] (by decide +kernel) (by decide +kernel)) (goodIn_sub (fun _ h => List.mem_cons_of_mem _ (List.mem_append_right _ h)) (by decide +kernel))
set_option maxRecDepth 20000 in
theorem gX0_chargeLateBills_X1_becomeLate : GoodIn wsX0_chargeLateBills (wsV RX0 165 RX1 yX1_becomeLate wsX1_becomeLate) := goodIn_app (goodIn_of _ (by decide +kernel)) ggX0_chargeLateBills_X1_becomeLate
set_option maxRecDepth 20000 in
theorem ggX0_chargeLateBills_X5_note : GoodIn wsX0_chargeLateBills wsX5_note := goodIn_ca (goodIn_r _ [23, 24, 25, 26, 27, 28, 29, 30, 31, 32, 63, 64, 65, 66, 67] (by decide +kernel) (by decide +kernel)) (goodIn_sub (fun _ h => List.mem_cons_of_mem _ (List.mem_append_right _ h)) (by decide +kernel))
set_option maxRecDepth 20000 in
theorem gX0_chargeLateBills_X5_note : GoodIn wsX0_chargeLateBills (wsV RX0 172 RX5 yX5_note wsX5_note) := goodIn_app (goodIn_of _ (by decide +kernel)) ggX0_chargeLateBills_X5_note
set_option maxRecDepth 20000 in
theorem ggX2_numberOf_X2_monthOf : GoodIn wsX2_numberOf wsX2_monthOf := goodIn_ca (goodIn_r _ [4, 5] (by decide +kernel) (by decide +kernel)) (goodIn_sub (fun _ h => List.mem_cons_of_mem _ (List.mem_append_right _ h)) (by decide +kernel))
set_option maxRecDepth 20000 in
theorem gX2_numberOf_X2_monthOf : GoodIn wsX2_numberOf (va_wsS RX2 13 yX2_monthOf wsX2_monthOf) := goodIn_app (goodIn_of _ (by decide +kernel)) ggX2_numberOf_X2_monthOf
set_option maxRecDepth 20000 in
theorem ggX2_numberOf_X2_monthStart : GoodIn wsX2_numberOf wsX2_monthStart := goodIn_ca (goodIn_r _ [8, 5] (by decide +kernel) (by decide +kernel)) (goodIn_sub (fun _ h => List.mem_cons_of_mem _ (List.mem_append_right _ h)) (by decide +kernel))
set_option maxRecDepth 20000 in
theorem gX2_numberOf_X2_monthStart : GoodIn wsX2_numberOf (va_wsS RX2 17 yX2_monthStart wsX2_monthStart) := goodIn_app (goodIn_of _ (by decide +kernel)) ggX2_numberOf_X2_monthStart
set_option maxRecDepth 20000 in
theorem ggX2_monthsAfter_X2_monthOf : GoodIn wsX2_monthsAfter wsX2_monthOf := goodIn_ca (goodIn_r _ [8, 9] (by decide +kernel) (by decide +kernel)) (goodIn_sub (fun _ h => List.mem_cons_of_mem _ (List.mem_append_right _ h)) (by decide +kernel))
set_option maxRecDepth 20000 in
theorem gX2_monthsAfter_X2_monthOf : GoodIn wsX2_monthsAfter (va_wsS RX2 13 yX2_monthOf wsX2_monthOf) := goodIn_app (goodIn_of _ (by decide +kernel)) ggX2_monthsAfter_X2_monthOf
set_option maxRecDepth 20000 in
theorem ggX2_monthsAfter_X2_monthStart : GoodIn wsX2_monthsAfter wsX2_monthStart := goodIn_ca (goodIn_r _ [12, 9] (by decide +kernel) (by decide +kernel)) (goodIn_sub (fun _ h => List.mem_cons_of_mem _ (List.mem_append_right _ h)) (by decide +kernel))
set_option maxRecDepth 20000 in
theorem gX2_monthsAfter_X2_monthStart : GoodIn wsX2_monthsAfter (va_wsS RX2 17 yX2_monthStart wsX2_monthStart) := goodIn_app (goodIn_of _ (by decide +kernel)) ggX2_monthsAfter_X2_monthStart
set_option maxRecDepth 20000 in
theorem ggX2_counted_X2_in360 : GoodIn wsX2_counted wsX2_in360 := goodIn_ca (goodIn_r _ [4, 5, 6, 7, 8, 9, 10, 3, 11, 12, 13, 14, 15] (by decide +kernel) (by decide +kernel)) (goodIn_sub (fun _ h => List.mem_cons_of_mem _ (List.mem_append_right _ h)) (by decide +kernel))
set_option maxRecDepth 20000 in
theorem gX2_counted_X2_in360 : GoodIn wsX2_counted (va_wsS RX2 26 yX2_in360 wsX2_in360) := goodIn_app (goodIn_of _ (by decide +kernel)) ggX2_counted_X2_in360
set_option maxRecDepth 20000 in
theorem ggX2_in360_X2_monthOf : GoodIn wsX2_in360 wsX2_monthOf := goodIn_ca (goodIn_r _ [8, 9] (by decide +kernel) (by decide +kernel)) (goodIn_sub (fun _ h => List.mem_cons_of_mem _ (List.mem_append_right _ h)) (by decide +kernel))
set_option maxRecDepth 20000 in
theorem gX2_in360_X2_monthOf : GoodIn wsX2_in360 (va_wsS RX2 13 yX2_monthOf wsX2_monthOf) := goodIn_app (goodIn_of _ (by decide +kernel)) ggX2_in360_X2_monthOf
set_option maxRecDepth 20000 in
theorem ggX2_in360_X2_monthStart : GoodIn wsX2_in360 wsX2_monthStart := goodIn_ca (goodIn_r _ [12, 9] (by decide +kernel) (by decide +kernel)) (goodIn_sub (fun _ h => List.mem_cons_of_mem _ (List.mem_append_right _ h)) (by decide +kernel))
set_option maxRecDepth 20000 in
theorem gX2_in360_X2_monthStart : GoodIn wsX2_in360 (va_wsS RX2 17 yX2_monthStart wsX2_monthStart) := goodIn_app (goodIn_of _ (by decide +kernel)) ggX2_in360_X2_monthStart
set_option maxRecDepth 20000 in
theorem ggX4_read_X4_kindOfLetter : GoodIn wsX4_read wsX4_kindOfLetter := goodIn_r _ [7] (by decide +kernel) (by decide +kernel)
set_option maxRecDepth 20000 in
theorem gX4_read_X4_kindOfLetter : GoodIn wsX4_read (va_wsS RX4 29 yX4_kindOfLetter wsX4_kindOfLetter) := goodIn_app (goodIn_of _ (by decide +kernel)) ggX4_read_X4_kindOfLetter
set_option maxRecDepth 20000 in
theorem ggX4_read_X4_keepCommand : GoodIn wsX4_read wsX4_keepCommand := goodIn_ca (goodIn_r _ [11, 1, 12, 13, 17, 18, 19, 20, 21] (by decide +kernel) (by decide +kernel)) (goodIn_sub (fun _ h => List.mem_cons_of_mem _ (List.mem_append_right _ h)) (by decide +kernel))
set_option maxRecDepth 20000 in
theorem gX4_read_X4_keepCommand : GoodIn wsX4_read (wsV RX4 33 RX4 yX4_keepCommand wsX4_keepCommand) := goodIn_app (goodIn_of _ (by decide +kernel)) ggX4_read_X4_keepCommand
set_option maxRecDepth 20000 in
theorem ggX4_read_X4_hasRoomForDigit : GoodIn wsX4_read wsX4_hasRoomForDigit := goodIn_r _ [16] (by decide +kernel) (by decide +kernel)
set_option maxRecDepth 20000 in
theorem gX4_read_X4_hasRoomForDigit : GoodIn wsX4_read (va_wsS RX4 37 yX4_hasRoomForDigit wsX4_hasRoomForDigit) := goodIn_app (goodIn_of _ (by decide +kernel)) ggX4_read_X4_hasRoomForDigit
set_option maxRecDepth 20000 in
theorem ggX6_start_X2_monthsAfter : GoodIn wsX6_start wsX2_monthsAfter := goodIn_ca (goodIn_r _ [20, 21, 22, 23, 24, 25, 26, 19, 27, 28, 29, 30, 31] (by decide +kernel) (by decide +kernel)) (goodIn_sub (fun _ h => List.mem_cons_of_mem _ (List.mem_append_right _ h)) (by decide +kernel))
set_option maxRecDepth 20000 in
theorem gX6_start_X2_monthsAfter : GoodIn wsX6_start (va_wsS RX6 57 yX2_monthsAfter wsX2_monthsAfter) := goodIn_app (goodIn_of _ (by decide +kernel)) ggX6_start_X2_monthsAfter
set_option maxRecDepth 20000 in
theorem ggX6_debtAfterPosting_X6_debt : GoodIn wsX6_debtAfterPosting wsX6_debt := goodIn_r _ [7, 8, 9, 10, 23, 24, 25, 26, 27, 28, 29, 30, 31, 32, 33, 34, 35, 36, 37, 38, 39] (by decide +kernel) (by decide +kernel)
set_option maxRecDepth 20000 in
theorem gX6_debtAfterPosting_X6_debt : GoodIn wsX6_debtAfterPosting (wsV RX6 69 RX6 yX6_debt wsX6_debt) := goodIn_app (goodIn_of _ (by decide +kernel)) ggX6_debtAfterPosting_X6_debt
set_option maxRecDepth 20000 in
theorem ggX6_debtAfterPosting_X9_toCents : GoodIn wsX6_debtAfterPosting wsX9_toCents := goodIn_r _ [14, 15, 16, 17, 18, 19, 20, 21, 22] (by decide +kernel) (by decide +kernel)
set_option maxRecDepth 20000 in
theorem gX6_debtAfterPosting_X9_toCents : GoodIn wsX6_debtAfterPosting (va_wsS RX6 73 yX9_toCents wsX9_toCents) := goodIn_app (goodIn_of _ (by decide +kernel)) ggX6_debtAfterPosting_X9_toCents
set_option maxRecDepth 20000 in
theorem ggX6_accrue_X2_counted : GoodIn wsX6_accrue wsX2_counted := goodIn_ca (goodIn_r _ [8, 9, 10, 7, 11, 12, 13, 14, 15, 16, 17, 18, 19, 20, 21, 22] (by decide +kernel) (by decide +kernel)) (goodIn_sub (fun _ h => List.mem_cons_of_mem _ (List.mem_append_right _ h)) (by decide +kernel))
set_option maxRecDepth 20000 in
theorem gX6_accrue_X2_counted : GoodIn wsX6_accrue (va_wsS RX6 79 yX2_counted wsX2_counted) := goodIn_app (goodIn_of _ (by decide +kernel)) ggX6_accrue_X2_counted
set_option maxRecDepth 20000 in
theorem ggX7_startFrom_J6_bitCount_0f7a4 : GoodIn wsX7_startFrom wsJ6_bitCount_0f7a4 := goodIn_r _ [18, 19, 20, 21] (by decide +kernel) (by decide +kernel)
set_option maxRecDepth 20000 in
theorem gX7_startFrom_J6_bitCount_0f7a4 : GoodIn wsX7_startFrom (va_wsS RX7 78 yJ6_bitCount_0f7a4 wsJ6_bitCount_0f7a4) := goodIn_app (goodIn_of _ (by decide +kernel)) ggX7_startFrom_J6_bitCount_0f7a4
set_option maxRecDepth 20000 in
theorem ggX7_startFrom_X2_monthsAfter : GoodIn wsX7_startFrom wsX2_monthsAfter := goodIn_ca (goodIn_r _ [25, 26, 9, 10, 11, 27, 28, 24, 29, 30, 31, 32, 33] (by decide +kernel) (by decide +kernel)) (goodIn_sub (fun _ h => List.mem_cons_of_mem _ (List.mem_append_right _ h)) (by decide +kernel))
set_option maxRecDepth 20000 in
theorem gX7_startFrom_X2_monthsAfter : GoodIn wsX7_startFrom (va_wsS RX7 102 yX2_monthsAfter wsX2_monthsAfter) := goodIn_app (goodIn_of _ (by decide +kernel)) ggX7_startFrom_X2_monthsAfter
set_option maxRecDepth 20000 in
theorem ggX7_startFrom_X2_counted : GoodIn wsX7_startFrom wsX2_counted := goodIn_ca (goodIn_r _ [36, 37, 38, 24, 39, 26, 9, 10, 11, 27, 28, 29, 30, 31, 32, 33] (by decide +kernel) (by decide +kernel)) (goodIn_sub (fun _ h => List.mem_cons_of_mem _ (List.mem_append_right _ h)) (by decide +kernel))
set_option maxRecDepth 20000 in
theorem gX7_startFrom_X2_counted : GoodIn wsX7_startFrom (va_wsS RX7 107 yX2_counted wsX2_counted) := goodIn_app (goodIn_of _ (by decide +kernel)) ggX7_startFrom_X2_counted
set_option maxRecDepth 20000 in
theorem ggX7_project_X9_toCents : GoodIn wsX7_project wsX9_toCents := goodIn_r _ [19, 20, 21, 22, 23, 24, 25, 26, 27] (by decide +kernel) (by decide +kernel)
set_option maxRecDepth 20000 in
theorem gX7_project_X9_toCents : GoodIn wsX7_project (va_wsS RX7 113 yX9_toCents wsX9_toCents) := goodIn_app (goodIn_of _ (by decide +kernel)) ggX7_project_X9_toCents
set_option maxRecDepth 20000 in
theorem ggX7_project_X9_ofCents : GoodIn wsX7_project wsX9_ofCents := goodIn_r _ [30, 21, 23] (by decide +kernel) (by decide +kernel)
set_option maxRecDepth 20000 in
theorem gX7_project_X9_ofCents : GoodIn wsX7_project (va_wsS RX7 119 yX9_ofCents wsX9_ofCents) := goodIn_app (goodIn_of _ (by decide +kernel)) ggX7_project_X9_ofCents
set_option maxRecDepth 20000 in
theorem ggX7_project_X7_keepPayment : GoodIn wsX7_project wsX7_keepPayment := goodIn_ca (goodIn_r _ [35, 4, 36, 37, 38, 39, 40, 41, 42, 43, 44, 45, 46, 47, 48, 49, 50, 51, 52, 53, 54] (by decide +kernel) (by decide +kernel)) (goodIn_sub (fun _ h => List.mem_cons_of_mem _ (List.mem_append_right _ h)) (by decide +kernel))
set_option maxRecDepth 20000 in
theorem gX7_project_X7_keepPayment : GoodIn wsX7_project (wsV RX7 125 RX7 yX7_keepPayment wsX7_keepPayment) := goodIn_app (goodIn_of _ (by decide +kernel)) ggX7_project_X7_keepPayment
set_option maxRecDepth 20000 in
theorem ggX7_lastAmount_X7_has : GoodIn wsX7_lastAmount wsX7_has := goodIn_r _ [7, 1, 8, 9, 10, 11, 12, 13, 14, 15, 16, 17, 18, 19, 20, 21, 22] (by decide +kernel) (by decide +kernel)
set_option maxRecDepth 20000 in
theorem gX7_lastAmount_X7_has : GoodIn wsX7_lastAmount (wsV RX7 129 RX7 yX7_has wsX7_has) := goodIn_app (goodIn_of _ (by decide +kernel)) ggX7_lastAmount_X7_has
set_option maxRecDepth 20000 in
theorem ggX7_leastInstallment_X7_project : GoodIn wsX7_leastInstallment wsX7_project := goodIn_ca (goodIn_r _ [12, 1, 2, 13, 14, 15, 16, 17, 18, 19, 20, 21, 22, 5, 23, 24, 25, 26, 27, 28, 29, 30, 31, 32, 33, 34, 35, 36, 37, 38, 39, 40, 41, 42, 11, 43, 44, 45, 46, 47, 59, 60, 61, 62, 63, 64, 65, 66, 67, 68, 69, 70, 71, 72, 73] (by decide +kernel) (by decide +kernel)) (goodIn_sub (fun _ h => List.mem_cons_of_mem _ (List.mem_append_left _ (List.mem_append_right _ h))) (by decide +kernel))
set_option maxRecDepth 20000 in
theorem gX7_leastInstallment_X7_project : GoodIn wsX7_leastInstallment (wsV RX7 133 RX7 yX7_project wsX7_project) := goodIn_app (goodIn_of _ (by decide +kernel)) ggX7_leastInstallment_X7_project
set_option maxRecDepth 20000 in
theorem ggX7_leastInstallment_X7_shareUpwards : GoodIn wsX7_leastInstallment wsX7_shareUpwards := goodIn_ca (goodIn_r _ [50] (by decide +kernel) (by decide +kernel)) (goodIn_sub (fun _ h => List.mem_cons_of_mem _ (List.mem_append_right _ h)) (by decide +kernel))
set_option maxRecDepth 20000 in
theorem gX7_leastInstallment_X7_shareUpwards : GoodIn wsX7_leastInstallment (va_wsS RX7 137 yX7_shareUpwards wsX7_shareUpwards) := goodIn_app (goodIn_of _ (by decide +kernel)) ggX7_leastInstallment_X7_shareUpwards
set_option maxRecDepth 20000 in
theorem ggX7_leastInstallment_X7_lastAmount : GoodIn wsX7_leastInstallment wsX7_lastAmount := goodIn_ca (goodIn_r _ [54, 14, 45, 55, 56, 57, 11, 58, 59, 60, 61, 62, 63, 64, 65, 66, 67, 68, 69, 70, 71, 72, 73] (by decide +kernel) (by decide +kernel)) (goodIn_sub (fun _ h => List.mem_cons_of_mem _ (List.mem_append_left _ (List.mem_append_right _ h))) (by decide +kernel))
set_option maxRecDepth 20000 in
theorem gX7_leastInstallment_X7_lastAmount : GoodIn wsX7_leastInstallment (wsV RX7 143 RX7 yX7_lastAmount wsX7_lastAmount) := goodIn_app (goodIn_of _ (by decide +kernel)) ggX7_leastInstallment_X7_lastAmount
set_option maxRecDepth 20000 in
theorem ggX7_paymentPart_X7_has : GoodIn wsX7_paymentPart wsX7_has := goodIn_r _ [9, 10, 11, 12, 13, 14, 15, 16, 17, 18, 19, 20, 21, 22, 23, 24, 25] (by decide +kernel) (by decide +kernel)
set_option maxRecDepth 20000 in
theorem gX7_paymentPart_X7_has : GoodIn wsX7_paymentPart (wsV RX7 129 RX7 yX7_has wsX7_has) := goodIn_app (goodIn_of _ (by decide +kernel)) ggX7_paymentPart_X7_has
set_option maxRecDepth 20000 in
theorem ggX8_fill_X7_paymentPart : GoodIn wsX8_fill wsX7_paymentPart := goodIn_ca (goodIn_r _ [11, 12, 13, 14, 15, 16, 17, 18, 10, 19, 20, 26, 27, 28, 29, 30, 31, 32, 33, 34, 35, 36, 37, 38, 39, 40] (by decide +kernel) (by decide +kernel)) (goodIn_sub (fun _ h => List.mem_cons_of_mem _ (List.mem_append_right _ h)) (by decide +kernel))
set_option maxRecDepth 20000 in
theorem gX8_fill_X7_paymentPart : GoodIn wsX8_fill (wsV RX8 35 RX7 yX7_paymentPart wsX7_paymentPart) := goodIn_app (goodIn_of _ (by decide +kernel)) ggX8_fill_X7_paymentPart
set_option maxRecDepth 20000 in
theorem ggX9_toCents_J9_floorDiv_f86c9 : GoodIn wsX9_toCents wsJ9_floorDiv_f86c9 := goodIn_r _ [8] (by decide +kernel) (by decide +kernel)
set_option maxRecDepth 20000 in
theorem gX9_toCents_J9_floorDiv_f86c9 : GoodIn wsX9_toCents (va_wsS RX9 13 yJ9_floorDiv_f86c9 wsJ9_floorDiv_f86c9) := goodIn_app (goodIn_of _ (by decide +kernel)) ggX9_toCents_J9_floorDiv_f86c9
set_option maxRecDepth 20000 in
theorem ggX10_init_X0_init : GoodIn wsX10_init wsX0_init := goodIn_ca (goodIn_r _ [31, 32, 2, 3, 33, 34, 35, 36, 37, 38, 39, 40, 41, 42, 43, 44, 45, 46, 47, 48, 49, 50, 51, 52, 53, 54, 55, 56, 57, 58, 59, 60, 61, 62, 63, 92, 93, 94, 95, 96, 97, 98, 99, 142, 143, 144, 145, 146, 147, 148, 149, 150, 151, 152, 153, 154, 155, 156, 157, 158, 159, 160, 161, 162, 163, 164, 165, 166, 167, 168] (by decide +kernel) (by decide +kernel)) (goodIn_sub (fun _ h => List.mem_cons_of_mem _ (List.mem_append_right _ h)) (by decide +kernel))
set_option maxRecDepth 20000 in
theorem gX10_init_X0_init_n9 : GoodIn wsX10_init (wsX0_init) := ggX10_init_X0_init
set_option maxRecDepth 20000 in
theorem ggX10_init_X3_init : GoodIn wsX10_init wsX3_init := goodIn_r _ [65, 66, 2, 3, 33, 67, 68, 115, 116] (by decide +kernel) (by decide +kernel)
set_option maxRecDepth 20000 in
theorem gX10_init_X3_init_n28 : GoodIn wsX10_init (wsX3_init) := ggX10_init_X3_init
set_option maxRecDepth 20000 in
theorem ggX10_init_X7_init : GoodIn wsX10_init wsX7_init := goodIn_r _ [70, 71, 2, 3, 33, 72, 73, 74, 51, 75, 76, 77, 117, 118, 119, 120, 121, 122, 123, 124, 125, 126, 127, 128, 129, 130, 131] (by decide +kernel) (by decide +kernel)
set_option maxRecDepth 20000 in
theorem gX10_init_X7_init_n38 : GoodIn wsX10_init (wsX7_init) := ggX10_init_X7_init
set_option maxRecDepth 20000 in
theorem ggX10_init_X4_init : GoodIn wsX10_init wsX4_init := goodIn_r _ [79, 80, 2, 3, 81, 82, 33, 83, 84, 132, 133, 134, 135, 136] (by decide +kernel) (by decide +kernel)
set_option maxRecDepth 20000 in
theorem gX10_init_X4_init_n45 : GoodIn wsX10_init (wsX4_init) := ggX10_init_X4_init
set_option maxRecDepth 20000 in
theorem ggX10_init_X8_init : GoodIn wsX10_init wsX8_init := goodIn_r _ [86, 87, 2, 3, 88, 89, 90, 91, 137, 138, 139, 140, 141] (by decide +kernel) (by decide +kernel)
set_option maxRecDepth 20000 in
theorem gX10_init_X8_init_n63 : GoodIn wsX10_init (wsX8_init) := ggX10_init_X8_init
set_option maxRecDepth 20000 in
theorem ggX10_begin_X10_isWithin : GoodIn wsX10_begin wsX10_isWithin := goodIn_r _ [9] (by decide +kernel) (by decide +kernel)
set_option maxRecDepth 20000 in
theorem gX10_begin_X10_isWithin : GoodIn wsX10_begin (va_wsS RX10 65 yX10_isWithin wsX10_isWithin) := goodIn_app (goodIn_of _ (by decide +kernel)) ggX10_begin_X10_isWithin
set_option maxRecDepth 20000 in
theorem ggX10_begin_X10_remember : GoodIn wsX10_begin wsX10_remember := goodIn_r _ [13, 14, 15, 4, 16, 17, 18, 19, 20, 21, 22, 23, 24, 25, 26, 27, 28, 29, 30, 31, 32, 33, 34, 35, 36, 37, 38, 39, 40, 41, 42, 43, 44, 45, 46, 47, 48, 49, 50, 51, 52, 53, 54, 55, 56, 57, 58, 59, 60, 61, 62, 63, 64, 65, 66, 67, 68, 69, 70, 71, 72, 73, 74, 75, 76, 77, 78, 79, 80, 81, 82, 83, 84, 85, 86, 194, 195, 196, 197, 198, 199, 200, 201, 202, 203, 204, 205, 206, 207, 208, 209, 210, 211, 212, 213, 214, 215, 216, 217, 218, 219, 220, 221, 222, 223, 224, 225, 226, 227, 228, 229, 230, 231, 232, 233, 234, 235, 236, 237, 238, 239, 240, 241, 242, 243] (by decide +kernel) (by decide +kernel)
set_option maxRecDepth 20000 in
theorem gX10_begin_X10_remember : GoodIn wsX10_begin (wsV RX10 72 RX10 yX10_remember wsX10_remember) := goodIn_app (goodIn_of _ (by decide +kernel)) ggX10_begin_X10_remember
set_option maxRecDepth 20000 in
theorem ggX10_begin_X0_startLoan : GoodIn wsX10_begin wsX0_startLoan := goodIn_ca (goodIn_ca (goodIn_r _ [90, 39, 30, 40, 41, 33, 38, 34, 35, 36, 37, 91, 92, 93, 45, 94, 47, 48, 49, 50, 51, 52, 53, 54, 55, 56, 57, 59, 60, 61, 62, 63, 95, 96, 97, 98, 99, 18, 19, 20, 100, 101, 102, 103, 104, 105, 106, 107, 108, 109, 68, 110, 70, 71, 72, 111, 112, 113, 79, 114, 81, 82, 115, 116, 117, 118, 119, 120, 121, 122, 123, 124, 125, 126, 127, 128, 129, 130, 131, 132, 133, 134, 135, 136, 137, 138, 139, 140, 141, 142, 143, 144, 145, 146, 147, 148, 149, 150, 151, 152, 153, 154, 155, 156, 157, 158, 159, 160, 161, 162, 163, 164, 165, 166, 167, 168, 169, 170, 23, 171, 172, 173, 174, 175, 176, 177, 178, 179, 180, 181, 182, 183, 184, 185, 186, 187, 188, 189, 190, 191, 192, 193, 209, 210, 211, 212, 213, 214, 215, 216, 217, 218, 219, 220, 221, 222, 223, 224, 225, 226, 227, 228, 229, 230, 231, 232, 233, 234, 235, 236, 237, 238, 239, 240, 241, 242, 243, 244, 245, 246, 247, 248, 249, 250, 251, 252, 253, 254, 255, 256, 257, 258] (by decide +kernel) (by decide +kernel)) (goodIn_sub (fun _ h => List.mem_cons_of_mem _ (List.mem_append_left _ (List.mem_append_right _ h))) (by decide +kernel))) (goodIn_sub (fun _ h => List.mem_cons_of_mem _ (List.mem_append_right _ h)) (by decide +kernel))
set_option maxRecDepth 20000 in
theorem gX10_begin_X0_startLoan : GoodIn wsX10_begin (wsV RX10 75 RX0 yX0_startLoan wsX0_startLoan) := goodIn_app (goodIn_of _ (by decide +kernel)) ggX10_begin_X0_startLoan
set_option maxRecDepth 20000 in
theorem ggX10_pass_X10_command : GoodIn wsX10_pass wsX10_command := goodIn_ca (goodIn_ca (goodIn_ca (goodIn_ca (goodIn_ca (goodIn_r _ [5, 6, 7, 8, 9, 10, 11, 12, 13, 14, 15, 16, 17, 4, 18, 19, 20, 21, 22, 23, 24, 25, 26, 27, 28, 29, 30, 31, 32, 33, 34, 35, 36, 37, 38, 39, 40, 41, 42, 43, 44, 45, 46, 47, 48, 49, 50, 51, 52, 53, 54, 55, 56, 57, 58, 59, 60, 61, 62, 63, 64, 65, 66, 67, 68, 69, 70, 71, 72, 73, 74, 75, 76, 77, 78, 79, 80, 81, 82, 83, 84, 85, 86, 87, 88, 89, 90, 91, 92, 93, 94, 95, 96, 97, 98, 99, 100, 101, 102, 103, 104, 105, 106, 107, 108, 109, 110, 111, 112, 113, 114, 115, 116, 117, 118, 119, 120, 121, 122, 123, 124, 125, 126, 127, 128, 129, 130, 131, 132, 133, 134, 135, 136, 137, 138, 139, 140, 141, 142, 143, 144, 145, 146, 147, 148, 149, 150, 151, 152, 153, 154, 155, 156, 157, 158, 159, 160, 161, 162, 163, 164, 165, 166, 167, 168, 169, 170, 171, 172, 173, 174, 175, 176, 177, 178, 179, 180, 181, 182, 183, 184, 185, 186, 187, 188, 189, 190, 191, 192, 193, 194, 195, 196, 197, 198, 199, 200, 201, 202, 203, 204, 205, 206, 207, 208, 209, 210, 211, 212, 213, 214, 215, 216, 217, 218, 219, 220, 221, 222, 223, 224, 225, 226, 227, 228, 229, 230, 231, 232, 233, 234, 235, 236, 237, 238, 239, 240, 241, 242, 243, 244, 245, 246, 247, 248, 249, 250, 251, 252, 253, 254, 255, 256, 257, 258, 259, 260, 261, 262, 263, 264, 265, 266, 267, 268, 269, 270, 271, 272, 273, 274, 275, 276, 277, 278, 279, 280, 281, 282, 283, 284, 285, 286, 287, 288, 289, 290, 291, 292, 293, 294, 295, 296, 297, 298, 299, 300, 301, 302, 303, 304, 305, 306, 307, 308, 309, 310, 311, 312, 313, 314, 315, 316, 317, 318, 319, 320, 321, 322, 323, 324, 325, 326, 327, 328, 329, 330, 331, 332, 333, 334, 335, 336, 337, 338, 339, 340, 341, 342, 343, 344, 345, 346, 347, 348, 349, 350, 351, 352, 353, 354, 355, 356, 357, 358, 359, 360, 361, 362, 363, 364, 365, 366, 367, 368, 369, 370, 371, 372, 373, 374, 375, 376, 377, 378, 379, 380, 381] (by decide +kernel) (by decide +kernel)) (goodIn_sub (fun _ h => List.mem_cons_of_mem _ (List.mem_append_left _ (List.mem_append_left _ (List.mem_append_left _ (List.mem_append_left _ (List.mem_append_right _ h)))))) (by decide +kernel))) (goodIn_sub (fun _ h => List.mem_cons_of_mem _ (List.mem_append_left _ (List.mem_append_left _ (List.mem_append_left _ (List.mem_append_right _ h))))) (by decide +kernel))) (goodIn_sub (fun _ h => List.mem_cons_of_mem _ (List.mem_append_left _ (List.mem_append_left _ (List.mem_append_right _ h)))) (by decide +kernel))) (goodIn_sub (fun _ h => List.mem_cons_of_mem _ (List.mem_append_left _ (List.mem_append_right _ h))) (by decide +kernel))) (goodIn_sub (fun _ h => List.mem_cons_of_mem _ (List.mem_append_right _ h)) (by decide +kernel))
set_option maxRecDepth 20000 in
theorem gX10_pass_X10_command : GoodIn wsX10_pass (wsV RX10 95 RX10 yX10_command wsX10_command) := goodIn_app (goodIn_of _ (by decide +kernel)) ggX10_pass_X10_command
set_option maxRecDepth 20000 in
theorem ggX10_date_X2_yearOf : GoodIn wsX10_date wsX2_yearOf := goodIn_r _ [7] (by decide +kernel) (by decide +kernel)
set_option maxRecDepth 20000 in
theorem gX10_date_X2_yearOf : GoodIn wsX10_date (va_wsS RX10 102 yX2_yearOf wsX2_yearOf) := goodIn_app (goodIn_of _ (by decide +kernel)) ggX10_date_X2_yearOf
set_option maxRecDepth 20000 in
theorem ggX10_date_X2_monthOf : GoodIn wsX10_date wsX2_monthOf := goodIn_ca (goodIn_r _ [10, 11] (by decide +kernel) (by decide +kernel)) (goodIn_sub (fun _ h => List.mem_cons_of_mem _ (List.mem_append_right _ h)) (by decide +kernel))
set_option maxRecDepth 20000 in
theorem gX10_date_X2_monthOf : GoodIn wsX10_date (va_wsS RX10 108 yX2_monthOf wsX2_monthOf) := goodIn_app (goodIn_of _ (by decide +kernel)) ggX10_date_X2_monthOf
set_option maxRecDepth 20000 in
theorem ggX10_date_X2_numberOf : GoodIn wsX10_date wsX2_numberOf := goodIn_ca (goodIn_r _ [14, 15, 9, 6, 10, 11, 16, 17, 18] (by decide +kernel) (by decide +kernel)) (goodIn_sub (fun _ h => List.mem_cons_of_mem _ (List.mem_append_right _ h)) (by decide +kernel))
set_option maxRecDepth 20000 in
theorem gX10_date_X2_numberOf : GoodIn wsX10_date (va_wsS RX10 111 yX2_numberOf wsX2_numberOf) := goodIn_app (goodIn_of _ (by decide +kernel)) ggX10_date_X2_numberOf
set_option maxRecDepth 20000 in
theorem ggX10_countedDays_X10_isWithin : GoodIn wsX10_countedDays wsX10_isWithin := goodIn_r _ [6] (by decide +kernel) (by decide +kernel)
set_option maxRecDepth 20000 in
theorem gX10_countedDays_X10_isWithin : GoodIn wsX10_countedDays (va_wsS RX10 65 yX10_isWithin wsX10_isWithin) := goodIn_app (goodIn_of _ (by decide +kernel)) ggX10_countedDays_X10_isWithin
set_option maxRecDepth 20000 in
theorem ggX10_countedDays_X2_counted : GoodIn wsX10_countedDays wsX2_counted := goodIn_ca (goodIn_r _ [10, 11, 12, 9, 13, 14, 15, 16, 17, 18, 19, 20, 21, 22, 23, 24] (by decide +kernel) (by decide +kernel)) (goodIn_sub (fun _ h => List.mem_cons_of_mem _ (List.mem_append_right _ h)) (by decide +kernel))
set_option maxRecDepth 20000 in
theorem gX10_countedDays_X2_counted : GoodIn wsX10_countedDays (va_wsS RX10 114 yX2_counted wsX2_counted) := goodIn_app (goodIn_of _ (by decide +kernel)) ggX10_countedDays_X2_counted
set_option maxRecDepth 20000 in
theorem ggX10_set_X10_isWithin : GoodIn wsX10_set wsX10_isWithin := goodIn_r _ [6] (by decide +kernel) (by decide +kernel)
set_option maxRecDepth 20000 in
theorem gX10_set_X10_isWithin : GoodIn wsX10_set (va_wsS RX10 65 yX10_isWithin wsX10_isWithin) := goodIn_app (goodIn_of _ (by decide +kernel)) ggX10_set_X10_isWithin
set_option maxRecDepth 20000 in
theorem ggX10_set_X10_command : GoodIn wsX10_set wsX10_command := goodIn_ca (goodIn_ca (goodIn_ca (goodIn_ca (goodIn_ca (goodIn_r _ [10, 11, 12, 13, 14, 15, 16, 17, 18, 19, 20, 21, 4, 5, 6, 22, 23, 24, 25, 26, 27, 28, 29, 30, 31, 32, 33, 34, 35, 36, 37, 38, 39, 40, 41, 42, 43, 44, 45, 46, 47, 48, 49, 50, 51, 52, 53, 54, 55, 56, 57, 58, 59, 60, 61, 62, 63, 64, 65, 66, 67, 68, 69, 70, 71, 72, 73, 74, 75, 76, 77, 78, 79, 80, 81, 82, 83, 84, 85, 86, 87, 88, 89, 90, 91, 92, 93, 94, 95, 96, 97, 98, 99, 100, 101, 102, 103, 104, 105, 106, 107, 108, 109, 110, 111, 112, 113, 114, 115, 116, 117, 118, 119, 120, 121, 122, 123, 124, 125, 126, 127, 128, 129, 130, 131, 132, 133, 134, 135, 136, 137, 138, 139, 140, 141, 142, 143, 144, 145, 146, 147, 148, 149, 150, 151, 152, 153, 154, 155, 156, 157, 158, 159, 160, 161, 162, 163, 164, 165, 166, 167, 168, 169, 170, 171, 172, 173, 174, 175, 176, 177, 178, 179, 180, 181, 182, 183, 184, 185, 186, 187, 188, 189, 190, 191, 192, 193, 194, 195, 196, 197, 198, 199, 200, 201, 202, 203, 204, 205, 206, 207, 208, 209, 210, 211, 212, 213, 214, 215, 216, 217, 218, 219, 220, 221, 222, 223, 224, 225, 226, 227, 228, 229, 230, 231, 232, 233, 234, 235, 236, 237, 238, 239, 240, 241, 242, 243, 244, 245, 246, 247, 248, 249, 250, 251, 252, 253, 254, 255, 256, 257, 258, 259, 260, 261, 262, 263, 264, 265, 266, 267, 268, 269, 270, 271, 272, 273, 274, 275, 276, 277, 278, 279, 280, 281, 282, 283, 284, 285, 286, 287, 288, 289, 290, 291, 292, 293, 294, 295, 296, 297, 298, 299, 300, 301, 302, 303, 304, 305, 306, 307, 308, 309, 310, 311, 312, 313, 314, 315, 316, 317, 318, 319, 320, 321, 322, 323, 324, 325, 326, 327, 328, 329, 330, 331, 332, 333, 334, 335, 336, 337, 338, 339, 340, 341, 342, 343, 344, 345, 346, 347, 348, 349, 350, 351, 352, 353, 354, 355, 356, 357, 358, 359, 360, 361, 362, 363, 364, 365, 366, 367, 368, 369, 370, 371, 372, 373, 374, 375, 376, 377, 378, 379, 380, 381, 382, 383, 384] (by decide +kernel) (by decide +kernel)) (goodIn_sub (fun _ h => List.mem_cons_of_mem _ (List.mem_append_left _ (List.mem_append_left _ (List.mem_append_left _ (List.mem_append_left _ (List.mem_append_right _ h)))))) (by decide +kernel))) (goodIn_sub (fun _ h => List.mem_cons_of_mem _ (List.mem_append_left _ (List.mem_append_left _ (List.mem_append_left _ (List.mem_append_right _ h))))) (by decide +kernel))) (goodIn_sub (fun _ h => List.mem_cons_of_mem _ (List.mem_append_left _ (List.mem_append_left _ (List.mem_append_right _ h)))) (by decide +kernel))) (goodIn_sub (fun _ h => List.mem_cons_of_mem _ (List.mem_append_left _ (List.mem_append_right _ h))) (by decide +kernel))) (goodIn_sub (fun _ h => List.mem_cons_of_mem _ (List.mem_append_right _ h)) (by decide +kernel))
set_option maxRecDepth 20000 in
theorem gX10_set_X10_command : GoodIn wsX10_set (wsV RX10 95 RX10 yX10_command wsX10_command) := goodIn_app (goodIn_of _ (by decide +kernel)) ggX10_set_X10_command
set_option maxRecDepth 20000 in
theorem ggX10_setRate_X10_command : GoodIn wsX10_setRate wsX10_command := goodIn_ca (goodIn_ca (goodIn_ca (goodIn_ca (goodIn_ca (goodIn_r _ [5, 6, 7, 8, 9, 10, 11, 12, 13, 14, 15, 16, 17, 4, 18, 19, 20, 21, 22, 23, 24, 25, 26, 27, 28, 29, 30, 31, 32, 33, 34, 35, 36, 37, 38, 39, 40, 41, 42, 43, 44, 45, 46, 47, 48, 49, 50, 51, 52, 53, 54, 55, 56, 57, 58, 59, 60, 61, 62, 63, 64, 65, 66, 67, 68, 69, 70, 71, 72, 73, 74, 75, 76, 77, 78, 79, 80, 81, 82, 83, 84, 85, 86, 87, 88, 89, 90, 91, 92, 93, 94, 95, 96, 97, 98, 99, 100, 101, 102, 103, 104, 105, 106, 107, 108, 109, 110, 111, 112, 113, 114, 115, 116, 117, 118, 119, 120, 121, 122, 123, 124, 125, 126, 127, 128, 129, 130, 131, 132, 133, 134, 135, 136, 137, 138, 139, 140, 141, 142, 143, 144, 145, 146, 147, 148, 149, 150, 151, 152, 153, 154, 155, 156, 157, 158, 159, 160, 161, 162, 163, 164, 165, 166, 167, 168, 169, 170, 171, 172, 173, 174, 175, 176, 177, 178, 179, 180, 181, 182, 183, 184, 185, 186, 187, 188, 189, 190, 191, 192, 193, 194, 195, 196, 197, 198, 199, 200, 201, 202, 203, 204, 205, 206, 207, 208, 209, 210, 211, 212, 213, 214, 215, 216, 217, 218, 219, 220, 221, 222, 223, 224, 225, 226, 227, 228, 229, 230, 231, 232, 233, 234, 235, 236, 237, 238, 239, 240, 241, 242, 243, 244, 245, 246, 247, 248, 249, 250, 251, 252, 253, 254, 255, 256, 257, 258, 259, 260, 261, 262, 263, 264, 265, 266, 267, 268, 269, 270, 271, 272, 273, 274, 275, 276, 277, 278, 279, 280, 281, 282, 283, 284, 285, 286, 287, 288, 289, 290, 291, 292, 293, 294, 295, 296, 297, 298, 299, 300, 301, 302, 303, 304, 305, 306, 307, 308, 309, 310, 311, 312, 313, 314, 315, 316, 317, 318, 319, 320, 321, 322, 323, 324, 325, 326, 327, 328, 329, 330, 331, 332, 333, 334, 335, 336, 337, 338, 339, 340, 341, 342, 343, 344, 345, 346, 347, 348, 349, 350, 351, 352, 353, 354, 355, 356, 357, 358, 359, 360, 361, 362, 363, 364, 365, 366, 367, 368, 369, 370, 371, 372, 373, 374, 375, 376, 377, 378, 379, 380, 381] (by decide +kernel) (by decide +kernel)) (goodIn_sub (fun _ h => List.mem_cons_of_mem _ (List.mem_append_left _ (List.mem_append_left _ (List.mem_append_left _ (List.mem_append_left _ (List.mem_append_right _ h)))))) (by decide +kernel))) (goodIn_sub (fun _ h => List.mem_cons_of_mem _ (List.mem_append_left _ (List.mem_append_left _ (List.mem_append_left _ (List.mem_append_right _ h))))) (by decide +kernel))) (goodIn_sub (fun _ h => List.mem_cons_of_mem _ (List.mem_append_left _ (List.mem_append_left _ (List.mem_append_right _ h)))) (by decide +kernel))) (goodIn_sub (fun _ h => List.mem_cons_of_mem _ (List.mem_append_left _ (List.mem_append_right _ h))) (by decide +kernel))) (goodIn_sub (fun _ h => List.mem_cons_of_mem _ (List.mem_append_right _ h)) (by decide +kernel))
set_option maxRecDepth 20000 in
theorem gX10_setRate_X10_command : GoodIn wsX10_setRate (wsV RX10 95 RX10 yX10_command wsX10_command) := goodIn_app (goodIn_of _ (by decide +kernel)) ggX10_setRate_X10_command
set_option maxRecDepth 20000 in
theorem ggX10_setHoliday_X10_command : GoodIn wsX10_setHoliday wsX10_command := goodIn_ca (goodIn_ca (goodIn_ca (goodIn_ca (goodIn_ca (goodIn_r _ [5, 6, 7, 8, 9, 10, 11, 12, 13, 14, 15, 16, 17, 4, 18, 19, 20, 21, 22, 23, 24, 25, 26, 27, 28, 29, 30, 31, 32, 33, 34, 35, 36, 37, 38, 39, 40, 41, 42, 43, 44, 45, 46, 47, 48, 49, 50, 51, 52, 53, 54, 55, 56, 57, 58, 59, 60, 61, 62, 63, 64, 65, 66, 67, 68, 69, 70, 71, 72, 73, 74, 75, 76, 77, 78, 79, 80, 81, 82, 83, 84, 85, 86, 87, 88, 89, 90, 91, 92, 93, 94, 95, 96, 97, 98, 99, 100, 101, 102, 103, 104, 105, 106, 107, 108, 109, 110, 111, 112, 113, 114, 115, 116, 117, 118, 119, 120, 121, 122, 123, 124, 125, 126, 127, 128, 129, 130, 131, 132, 133, 134, 135, 136, 137, 138, 139, 140, 141, 142, 143, 144, 145, 146, 147, 148, 149, 150, 151, 152, 153, 154, 155, 156, 157, 158, 159, 160, 161, 162, 163, 164, 165, 166, 167, 168, 169, 170, 171, 172, 173, 174, 175, 176, 177, 178, 179, 180, 181, 182, 183, 184, 185, 186, 187, 188, 189, 190, 191, 192, 193, 194, 195, 196, 197, 198, 199, 200, 201, 202, 203, 204, 205, 206, 207, 208, 209, 210, 211, 212, 213, 214, 215, 216, 217, 218, 219, 220, 221, 222, 223, 224, 225, 226, 227, 228, 229, 230, 231, 232, 233, 234, 235, 236, 237, 238, 239, 240, 241, 242, 243, 244, 245, 246, 247, 248, 249, 250, 251, 252, 253, 254, 255, 256, 257, 258, 259, 260, 261, 262, 263, 264, 265, 266, 267, 268, 269, 270, 271, 272, 273, 274, 275, 276, 277, 278, 279, 280, 281, 282, 283, 284, 285, 286, 287, 288, 289, 290, 291, 292, 293, 294, 295, 296, 297, 298, 299, 300, 301, 302, 303, 304, 305, 306, 307, 308, 309, 310, 311, 312, 313, 314, 315, 316, 317, 318, 319, 320, 321, 322, 323, 324, 325, 326, 327, 328, 329, 330, 331, 332, 333, 334, 335, 336, 337, 338, 339, 340, 341, 342, 343, 344, 345, 346, 347, 348, 349, 350, 351, 352, 353, 354, 355, 356, 357, 358, 359, 360, 361, 362, 363, 364, 365, 366, 367, 368, 369, 370, 371, 372, 373, 374, 375, 376, 377, 378, 379, 380, 381] (by decide +kernel) (by decide +kernel)) (goodIn_sub (fun _ h => List.mem_cons_of_mem _ (List.mem_append_left _ (List.mem_append_left _ (List.mem_append_left _ (List.mem_append_left _ (List.mem_append_right _ h)))))) (by decide +kernel))) (goodIn_sub (fun _ h => List.mem_cons_of_mem _ (List.mem_append_left _ (List.mem_append_left _ (List.mem_append_left _ (List.mem_append_right _ h))))) (by decide +kernel))) (goodIn_sub (fun _ h => List.mem_cons_of_mem _ (List.mem_append_left _ (List.mem_append_left _ (List.mem_append_right _ h)))) (by decide +kernel))) (goodIn_sub (fun _ h => List.mem_cons_of_mem _ (List.mem_append_left _ (List.mem_append_right _ h))) (by decide +kernel))) (goodIn_sub (fun _ h => List.mem_cons_of_mem _ (List.mem_append_right _ h)) (by decide +kernel))
set_option maxRecDepth 20000 in
theorem gX10_setHoliday_X10_command : GoodIn wsX10_setHoliday (wsV RX10 95 RX10 yX10_command wsX10_command) := goodIn_app (goodIn_of _ (by decide +kernel)) ggX10_setHoliday_X10_command
set_option maxRecDepth 20000 in
theorem ggX10_pay_X10_command : GoodIn wsX10_pay wsX10_command := goodIn_ca (goodIn_ca (goodIn_ca (goodIn_ca (goodIn_ca (goodIn_r _ [5, 6, 7, 8, 9, 10, 11, 12, 13, 14, 15, 16, 17, 4, 18, 19, 20, 21, 22, 23, 24, 25, 26, 27, 28, 29, 30, 31, 32, 33, 34, 35, 36, 37, 38, 39, 40, 41, 42, 43, 44, 45, 46, 47, 48, 49, 50, 51, 52, 53, 54, 55, 56, 57, 58, 59, 60, 61, 62, 63, 64, 65, 66, 67, 68, 69, 70, 71, 72, 73, 74, 75, 76, 77, 78, 79, 80, 81, 82, 83, 84, 85, 86, 87, 88, 89, 90, 91, 92, 93, 94, 95, 96, 97, 98, 99, 100, 101, 102, 103, 104, 105, 106, 107, 108, 109, 110, 111, 112, 113, 114, 115, 116, 117, 118, 119, 120, 121, 122, 123, 124, 125, 126, 127, 128, 129, 130, 131, 132, 133, 134, 135, 136, 137, 138, 139, 140, 141, 142, 143, 144, 145, 146, 147, 148, 149, 150, 151, 152, 153, 154, 155, 156, 157, 158, 159, 160, 161, 162, 163, 164, 165, 166, 167, 168, 169, 170, 171, 172, 173, 174, 175, 176, 177, 178, 179, 180, 181, 182, 183, 184, 185, 186, 187, 188, 189, 190, 191, 192, 193, 194, 195, 196, 197, 198, 199, 200, 201, 202, 203, 204, 205, 206, 207, 208, 209, 210, 211, 212, 213, 214, 215, 216, 217, 218, 219, 220, 221, 222, 223, 224, 225, 226, 227, 228, 229, 230, 231, 232, 233, 234, 235, 236, 237, 238, 239, 240, 241, 242, 243, 244, 245, 246, 247, 248, 249, 250, 251, 252, 253, 254, 255, 256, 257, 258, 259, 260, 261, 262, 263, 264, 265, 266, 267, 268, 269, 270, 271, 272, 273, 274, 275, 276, 277, 278, 279, 280, 281, 282, 283, 284, 285, 286, 287, 288, 289, 290, 291, 292, 293, 294, 295, 296, 297, 298, 299, 300, 301, 302, 303, 304, 305, 306, 307, 308, 309, 310, 311, 312, 313, 314, 315, 316, 317, 318, 319, 320, 321, 322, 323, 324, 325, 326, 327, 328, 329, 330, 331, 332, 333, 334, 335, 336, 337, 338, 339, 340, 341, 342, 343, 344, 345, 346, 347, 348, 349, 350, 351, 352, 353, 354, 355, 356, 357, 358, 359, 360, 361, 362, 363, 364, 365, 366, 367, 368, 369, 370, 371, 372, 373, 374, 375, 376, 377, 378, 379, 380, 381] (by decide +kernel) (by decide +kernel)) (goodIn_sub (fun _ h => List.mem_cons_of_mem _ (List.mem_append_left _ (List.mem_append_left _ (List.mem_append_left _ (List.mem_append_left _ (List.mem_append_right _ h)))))) (by decide +kernel))) (goodIn_sub (fun _ h => List.mem_cons_of_mem _ (List.mem_append_left _ (List.mem_append_left _ (List.mem_append_left _ (List.mem_append_right _ h))))) (by decide +kernel))) (goodIn_sub (fun _ h => List.mem_cons_of_mem _ (List.mem_append_left _ (List.mem_append_left _ (List.mem_append_right _ h)))) (by decide +kernel))) (goodIn_sub (fun _ h => List.mem_cons_of_mem _ (List.mem_append_left _ (List.mem_append_right _ h))) (by decide +kernel))) (goodIn_sub (fun _ h => List.mem_cons_of_mem _ (List.mem_append_right _ h)) (by decide +kernel))
set_option maxRecDepth 20000 in
theorem gX10_pay_X10_command : GoodIn wsX10_pay (wsV RX10 95 RX10 yX10_command wsX10_command) := goodIn_app (goodIn_of _ (by decide +kernel)) ggX10_pay_X10_command
set_option maxRecDepth 20000 in
theorem ggX10_waive_X10_command : GoodIn wsX10_waive wsX10_command := goodIn_ca (goodIn_ca (goodIn_ca (goodIn_ca (goodIn_ca (goodIn_r _ [5, 6, 7, 8, 9, 10, 11, 12, 13, 14, 15, 16, 17, 4, 18, 19, 20, 21, 22, 23, 24, 25, 26, 27, 28, 29, 30, 31, 32, 33, 34, 35, 36, 37, 38, 39, 40, 41, 42, 43, 44, 45, 46, 47, 48, 49, 50, 51, 52, 53, 54, 55, 56, 57, 58, 59, 60, 61, 62, 63, 64, 65, 66, 67, 68, 69, 70, 71, 72, 73, 74, 75, 76, 77, 78, 79, 80, 81, 82, 83, 84, 85, 86, 87, 88, 89, 90, 91, 92, 93, 94, 95, 96, 97, 98, 99, 100, 101, 102, 103, 104, 105, 106, 107, 108, 109, 110, 111, 112, 113, 114, 115, 116, 117, 118, 119, 120, 121, 122, 123, 124, 125, 126, 127, 128, 129, 130, 131, 132, 133, 134, 135, 136, 137, 138, 139, 140, 141, 142, 143, 144, 145, 146, 147, 148, 149, 150, 151, 152, 153, 154, 155, 156, 157, 158, 159, 160, 161, 162, 163, 164, 165, 166, 167, 168, 169, 170, 171, 172, 173, 174, 175, 176, 177, 178, 179, 180, 181, 182, 183, 184, 185, 186, 187, 188, 189, 190, 191, 192, 193, 194, 195, 196, 197, 198, 199, 200, 201, 202, 203, 204, 205, 206, 207, 208, 209, 210, 211, 212, 213, 214, 215, 216, 217, 218, 219, 220, 221, 222, 223, 224, 225, 226, 227, 228, 229, 230, 231, 232, 233, 234, 235, 236, 237, 238, 239, 240, 241, 242, 243, 244, 245, 246, 247, 248, 249, 250, 251, 252, 253, 254, 255, 256, 257, 258, 259, 260, 261, 262, 263, 264, 265, 266, 267, 268, 269, 270, 271, 272, 273, 274, 275, 276, 277, 278, 279, 280, 281, 282, 283, 284, 285, 286, 287, 288, 289, 290, 291, 292, 293, 294, 295, 296, 297, 298, 299, 300, 301, 302, 303, 304, 305, 306, 307, 308, 309, 310, 311, 312, 313, 314, 315, 316, 317, 318, 319, 320, 321, 322, 323, 324, 325, 326, 327, 328, 329, 330, 331, 332, 333, 334, 335, 336, 337, 338, 339, 340, 341, 342, 343, 344, 345, 346, 347, 348, 349, 350, 351, 352, 353, 354, 355, 356, 357, 358, 359, 360, 361, 362, 363, 364, 365, 366, 367, 368, 369, 370, 371, 372, 373, 374, 375, 376, 377, 378, 379, 380, 381] (by decide +kernel) (by decide +kernel)) (goodIn_sub (fun _ h => List.mem_cons_of_mem _ (List.mem_append_left _ (List.mem_append_left _ (List.mem_append_left _ (List.mem_append_left _ (List.mem_append_right _ h)))))) (by decide +kernel))) (goodIn_sub (fun _ h => List.mem_cons_of_mem _ (List.mem_append_left _ (List.mem_append_left _ (List.mem_append_left _ (List.mem_append_right _ h))))) (by decide +kernel))) (goodIn_sub (fun _ h => List.mem_cons_of_mem _ (List.mem_append_left _ (List.mem_append_left _ (List.mem_append_right _ h)))) (by decide +kernel))) (goodIn_sub (fun _ h => List.mem_cons_of_mem _ (List.mem_append_left _ (List.mem_append_right _ h))) (by decide +kernel))) (goodIn_sub (fun _ h => List.mem_cons_of_mem _ (List.mem_append_right _ h)) (by decide +kernel))
set_option maxRecDepth 20000 in
theorem gX10_waive_X10_command : GoodIn wsX10_waive (wsV RX10 95 RX10 yX10_command wsX10_command) := goodIn_app (goodIn_of _ (by decide +kernel)) ggX10_waive_X10_command
set_option maxRecDepth 20000 in
theorem ggX10_explain_X10_isWithin : GoodIn wsX10_explain wsX10_isWithin := goodIn_r _ [13] (by decide +kernel) (by decide +kernel)
set_option maxRecDepth 20000 in
theorem gX10_explain_X10_isWithin : GoodIn wsX10_explain (va_wsS RX10 65 yX10_isWithin wsX10_isWithin) := goodIn_app (goodIn_of _ (by decide +kernel)) ggX10_explain_X10_isWithin
set_option maxRecDepth 20000 in
theorem ggX10_explain_X0_refusal : GoodIn wsX10_explain wsX0_refusal := goodIn_ca (goodIn_r _ [18, 19, 20, 21, 11, 12, 13, 22, 23, 17, 24, 25, 26, 27, 28, 29, 30, 31, 32, 33, 34, 35, 36, 37, 38, 39, 40, 41, 42, 43, 44, 45, 46, 47, 48, 49, 50, 51, 313, 314, 315, 316, 317, 318, 319, 320, 321, 322, 323, 324, 325, 326, 327, 328, 329, 330, 331, 332, 333, 334, 335, 336, 337] (by decide +kernel) (by decide +kernel)) (goodIn_sub (fun _ h => List.mem_cons_of_mem _ (List.mem_append_left _ (List.mem_append_left _ (List.mem_append_left _ (List.mem_append_right _ h))))) (by decide +kernel))
set_option maxRecDepth 20000 in
theorem gX10_explain_X0_refusal : GoodIn wsX10_explain (wsV RX10 121 RX0 yX0_refusal wsX0_refusal) := goodIn_app (goodIn_of _ (by decide +kernel)) ggX10_explain_X0_refusal
set_option maxRecDepth 20000 in
theorem ggX10_explain_X10_refuse : GoodIn wsX10_explain wsX10_refuse := goodIn_ca (goodIn_ca (goodIn_ca (goodIn_r _ [54, 1, 2, 55, 56, 57, 58] (by decide +kernel) (by decide +kernel)) (goodIn_sub (fun _ h => List.mem_cons_of_mem _ (List.mem_append_left _ (List.mem_append_left _ (List.mem_append_left _ (List.mem_append_left _ (List.mem_append_right _ h)))))) (by decide +kernel))) (goodIn_sub (fun _ h => List.mem_cons_of_mem _ (List.mem_append_left _ (List.mem_append_left _ (List.mem_append_right _ h)))) (by decide +kernel))) (goodIn_sub (fun _ h => List.mem_cons_of_mem _ (List.mem_append_left _ (List.mem_append_right _ h))) (by decide +kernel))
set_option maxRecDepth 20000 in
theorem gX10_explain_X10_refuse : GoodIn wsX10_explain (va_wsS RX10 124 yX10_refuse wsX10_refuse) := goodIn_app (goodIn_of _ (by decide +kernel)) ggX10_explain_X10_refuse
set_option maxRecDepth 20000 in
theorem ggX10_explain_X0_takeFrom : GoodIn wsX10_explain wsX0_takeFrom := goodIn_r _ [62, 19, 63, 64, 65, 66, 67, 68, 69, 70, 20, 71, 72, 73, 74, 75, 28, 76, 77, 38, 78, 79, 80, 81, 82, 30, 31, 32, 37, 83, 84, 85, 86, 87, 88, 89, 90, 91, 92, 93, 94, 95, 96, 97, 98, 99, 100, 101, 102, 103, 104, 105, 106, 107, 108, 109, 110, 111, 313, 314, 315, 316, 317, 318, 319, 320, 321, 322, 323, 324, 325, 326, 327, 328, 329, 330, 331, 332, 333, 334, 335, 336, 337, 338, 339, 340, 341, 342, 343, 344, 345, 346, 347] (by decide +kernel) (by decide +kernel)
set_option maxRecDepth 20000 in
theorem gX10_explain_X0_takeFrom : GoodIn wsX10_explain (wsV RX10 128 RX0 yX0_takeFrom wsX0_takeFrom) := goodIn_app (goodIn_of _ (by decide +kernel)) ggX10_explain_X0_takeFrom
set_option maxRecDepth 20000 in
theorem ggX10_explain_X0_carryOut : GoodIn wsX10_explain wsX0_carryOut := goodIn_ca (goodIn_ca (goodIn_r _ [115, 20, 116, 117, 118, 17, 119, 19, 120, 121, 122, 123, 71, 65, 72, 124, 125, 126, 93, 127, 96, 97, 128, 129, 8, 130, 95, 100, 131, 132, 133, 104, 134, 106, 107, 108, 110, 111, 135, 136, 50, 137, 138, 139, 140, 28, 141, 37, 30, 82, 38, 142, 143, 144, 145, 146, 147, 148, 149, 150, 151, 152, 153, 154, 155, 156, 157, 158, 159, 160, 161, 162, 163, 164, 165, 166, 31, 88, 40, 41, 42, 43, 44, 45, 46, 47, 48, 49, 51, 167, 168, 169, 170, 171, 172, 173, 87, 85, 78, 86, 174, 175, 176, 177, 178, 179, 180, 181, 182, 183, 184, 98, 185, 186, 187, 188, 189, 190, 191, 192, 193, 194, 195, 196, 197, 198, 199, 200, 201, 202, 203, 204, 205, 206, 207, 208, 209, 210, 211, 212, 213, 214, 215, 216, 217, 218, 7, 9, 219, 220, 221, 222, 223, 224, 225, 226, 227, 228, 229, 230, 231, 232, 233, 234, 235, 236, 237, 238, 239, 240, 241, 242, 243, 244, 245, 246, 247, 248, 249, 250, 251, 252, 253, 254, 255, 256, 257, 258, 259, 260, 261, 262, 32, 263, 264, 265, 266, 267, 268, 269, 270, 271, 272, 273, 274, 275, 276, 277, 278, 279, 280, 281, 282, 283, 284, 25, 26, 27, 29, 285, 286, 287, 288, 289, 290, 291, 292, 293, 294, 295, 296, 313, 314, 315, 316, 317, 318, 319, 320, 321, 322, 323, 324, 325, 326, 327, 328, 329, 330, 331, 332, 333, 334, 335, 336, 337, 338, 339, 340, 341, 342, 343, 344, 345, 346, 347, 348, 349, 350, 351, 352, 353, 354, 355, 356, 357, 358, 359, 360, 361, 362] (by decide +kernel) (by decide +kernel)) (goodIn_sub (fun _ h => List.mem_cons_of_mem _ (List.mem_append_left _ (List.mem_append_left _ (List.mem_append_left _ (List.mem_append_right _ h))))) (by decide +kernel))) (goodIn_sub (fun _ h => List.mem_cons_of_mem _ (List.mem_append_right _ h)) (by decide +kernel))
set_option maxRecDepth 20000 in
theorem gX10_explain_X0_carryOut : GoodIn wsX10_explain (wsV RX10 132 RX0 yX0_carryOut wsX0_carryOut) := goodIn_app (goodIn_of _ (by decide +kernel)) ggX10_explain_X0_carryOut
set_option maxRecDepth 20000 in
theorem ggX10_explain_X1_unpaidSum : GoodIn wsX10_explain wsX1_unpaidSum := goodIn_ca (goodIn_r _ [275, 96, 128, 129, 8, 130, 95, 98, 338, 339, 340, 341, 342] (by decide +kernel) (by decide +kernel)) (goodIn_sub (fun _ h => List.mem_cons_of_mem _ (List.mem_append_left _ (List.mem_append_left _ (List.mem_append_left _ (List.mem_append_right _ h))))) (by decide +kernel))
set_option maxRecDepth 20000 in
theorem gX10_explain_X1_unpaidSum : GoodIn wsX10_explain (wsV RX10 144 RX1 yX1_unpaidSum wsX1_unpaidSum) := goodIn_app (goodIn_of _ (by decide +kernel)) ggX10_explain_X1_unpaidSum
set_option maxRecDepth 20000 in
theorem ggX10_number_X6_debtAfterPosting : GoodIn wsX10_number wsX6_debtAfterPosting := goodIn_r _ [8, 9, 10, 11, 12, 13, 7, 14, 15, 16, 17, 18, 19, 20, 21, 22, 23, 24, 25, 26, 27, 28, 29, 69, 70, 71, 72, 73, 74, 75, 76, 77, 78, 79, 80, 81, 82, 83, 84, 85] (by decide +kernel) (by decide +kernel)
set_option maxRecDepth 20000 in
theorem gX10_number_X6_debtAfterPosting : GoodIn wsX10_number (wsV RX10 168 RX6 yX6_debtAfterPosting wsX6_debtAfterPosting) := goodIn_app (goodIn_of _ (by decide +kernel)) ggX10_number_X6_debtAfterPosting
set_option maxRecDepth 20000 in
theorem ggX10_number_X1_unpaidSum : GoodIn wsX10_number wsX1_unpaidSum := goodIn_ca (goodIn_r _ [34, 35, 36, 37, 38, 39, 40, 41, 86, 87, 88, 89, 90] (by decide +kernel) (by decide +kernel)) (goodIn_sub (fun _ h => List.mem_cons_of_mem _ (List.mem_append_right _ h)) (by decide +kernel))
set_option maxRecDepth 20000 in
theorem gX10_number_X1_unpaidSum : GoodIn wsX10_number (wsV RX10 144 RX1 yX1_unpaidSum wsX1_unpaidSum) := goodIn_app (goodIn_of _ (by decide +kernel)) ggX10_number_X1_unpaidSum
set_option maxRecDepth 20000 in
theorem ggX10_number_X1_unpaidCount : GoodIn wsX10_number wsX1_unpaidCount := goodIn_r _ [45, 40, 35, 86, 87, 88, 89, 90] (by decide +kernel) (by decide +kernel)
set_option maxRecDepth 20000 in
theorem gX10_number_X1_unpaidCount : GoodIn wsX10_number (wsV RX10 174 RX1 yX1_unpaidCount wsX1_unpaidCount) := goodIn_app (goodIn_of _ (by decide +kernel)) ggX10_number_X1_unpaidCount
set_option maxRecDepth 20000 in
theorem ggX10_condition_X1_hasLate : GoodIn wsX10_condition wsX1_hasLate := goodIn_r _ [6, 7, 8, 57, 58, 59, 60, 61] (by decide +kernel) (by decide +kernel)
set_option maxRecDepth 20000 in
theorem gX10_condition_X1_hasLate : GoodIn wsX10_condition (wsV RX10 188 RX1 yX1_hasLate wsX1_hasLate) := goodIn_app (goodIn_of _ (by decide +kernel)) ggX10_condition_X1_hasLate
set_option maxRecDepth 20000 in
theorem ggX10_condition_X6_debt : GoodIn wsX10_condition wsX6_debt := goodIn_r _ [13, 14, 15, 16, 40, 41, 42, 43, 44, 45, 46, 47, 48, 49, 50, 51, 52, 53, 54, 55, 56] (by decide +kernel) (by decide +kernel)
set_option maxRecDepth 20000 in
theorem gX10_condition_X6_debt : GoodIn wsX10_condition (wsV RX10 192 RX6 yX6_debt wsX6_debt) := goodIn_app (goodIn_of _ (by decide +kernel)) ggX10_condition_X6_debt
set_option maxRecDepth 20000 in
theorem ggX10_scheduleLength_X10_projectNow : GoodIn wsX10_scheduleLength wsX10_projectNow := goodIn_ca (goodIn_r _ [6, 1, 7, 8, 9, 10, 11, 12, 13, 14, 15, 16, 17, 18, 19, 20, 21, 22, 23, 24, 25, 26, 27, 28, 29, 30, 31, 32, 33, 34, 35, 36, 37, 38, 39, 40, 41, 42, 43, 44, 45, 46, 47, 48, 49, 50, 51, 52, 53, 54, 55, 56, 57, 58, 59, 60, 61, 62, 63, 64, 65, 66, 67, 68, 69, 70, 71, 72, 73, 74, 75, 76, 77, 78, 79, 80, 81, 82, 83, 84, 85, 86, 87, 88, 89, 90, 91, 92, 93, 94, 95, 96, 97, 113, 114, 115, 116, 117, 118, 119, 120, 121, 122, 123, 124, 125, 126, 127, 128, 129, 130, 131, 132, 133, 134, 135, 136, 137, 98, 99, 100, 101, 102, 103, 104, 105, 106, 107, 108, 109, 110, 111, 112] (by decide +kernel) (by decide +kernel)) (goodIn_sub (fun _ h => List.mem_cons_of_mem _ (List.mem_append_right _ h)) (by decide +kernel))
set_option maxRecDepth 20000 in
theorem gX10_scheduleLength_X10_projectNow : GoodIn wsX10_scheduleLength (wsV RX10 204 RX10 yX10_projectNow wsX10_projectNow) := goodIn_app (goodIn_of _ (by decide +kernel)) ggX10_scheduleLength_X10_projectNow
set_option maxRecDepth 20000 in
theorem ggX10_schedule_X10_projectNow : GoodIn wsX10_schedule wsX10_projectNow := goodIn_ca (goodIn_r _ [10, 5, 11, 12, 13, 14, 15, 16, 17, 18, 19, 20, 21, 22, 23, 24, 25, 26, 27, 28, 29, 30, 31, 32, 33, 34, 35, 36, 37, 38, 39, 40, 41, 42, 43, 44, 45, 46, 47, 48, 49, 50, 51, 52, 53, 54, 55, 56, 57, 58, 59, 60, 61, 62, 63, 64, 65, 66, 67, 68, 69, 70, 71, 72, 73, 74, 75, 76, 77, 78, 79, 80, 81, 82, 83, 84, 85, 86, 99, 100, 101, 102, 103, 104, 105, 106, 107, 108, 109, 110, 111, 112, 113, 114, 115, 116, 117, 118, 119, 120, 121, 122, 123, 124, 125, 126, 127, 128, 129, 130, 131, 132, 133, 134, 135, 136, 137, 138, 139, 140, 141, 142, 143, 144, 145, 146, 147, 148, 149, 150, 151, 152, 153] (by decide +kernel) (by decide +kernel)) (goodIn_sub (fun _ h => List.mem_cons_of_mem _ (List.mem_append_right _ h)) (by decide +kernel))
set_option maxRecDepth 20000 in
theorem gX10_schedule_X10_projectNow : GoodIn wsX10_schedule (wsV RX10 204 RX10 yX10_projectNow wsX10_projectNow) := goodIn_app (goodIn_of _ (by decide +kernel)) ggX10_schedule_X10_projectNow
set_option maxRecDepth 20000 in
theorem ggX10_schedule_X7_has : GoodIn wsX10_schedule wsX7_has := goodIn_r _ [90, 60, 139, 140, 141, 142, 143, 144, 145, 146, 147, 148, 149, 150, 151, 152, 153] (by decide +kernel) (by decide +kernel)
set_option maxRecDepth 20000 in
theorem gX10_schedule_X7_has : GoodIn wsX10_schedule (wsV RX10 210 RX7 yX7_has wsX7_has) := goodIn_app (goodIn_of _ (by decide +kernel)) ggX10_schedule_X7_has
set_option maxRecDepth 20000 in
theorem ggX10_schedule_X10_isWithin : GoodIn wsX10_schedule wsX10_isWithin := goodIn_r _ [93] (by decide +kernel) (by decide +kernel)
set_option maxRecDepth 20000 in
theorem gX10_schedule_X10_isWithin : GoodIn wsX10_schedule (va_wsS RX10 65 yX10_isWithin wsX10_isWithin) := goodIn_app (goodIn_of _ (by decide +kernel)) ggX10_schedule_X10_isWithin
set_option maxRecDepth 20000 in
theorem ggX10_schedule_X7_paymentPart : GoodIn wsX10_schedule wsX7_paymentPart := goodIn_ca (goodIn_r _ [97, 83, 84, 85, 86, 98, 88, 89, 15, 90, 60, 139, 140, 141, 142, 143, 144, 145, 146, 147, 148, 149, 150, 151, 152, 153] (by decide +kernel) (by decide +kernel)) (goodIn_sub (fun _ h => List.mem_cons_of_mem _ (List.mem_append_right _ h)) (by decide +kernel))
set_option maxRecDepth 20000 in
theorem gX10_schedule_X7_paymentPart : GoodIn wsX10_schedule (wsV RX10 214 RX7 yX7_paymentPart wsX7_paymentPart) := goodIn_app (goodIn_of _ (by decide +kernel)) ggX10_schedule_X7_paymentPart
set_option maxRecDepth 20000 in
theorem ggX10_installmentFor_X10_isWithin : GoodIn wsX10_installmentFor wsX10_isWithin := goodIn_r _ [10] (by decide +kernel) (by decide +kernel)
set_option maxRecDepth 20000 in
theorem gX10_installmentFor_X10_isWithin : GoodIn wsX10_installmentFor (va_wsS RX10 65 yX10_isWithin wsX10_isWithin) := goodIn_app (goodIn_of _ (by decide +kernel)) ggX10_installmentFor_X10_isWithin
set_option maxRecDepth 20000 in
theorem ggX10_installmentFor_X7_startFrom : GoodIn wsX10_installmentFor wsX7_startFrom := goodIn_ca (goodIn_r _ [15, 16, 17, 18, 19, 20, 21, 22, 23, 24, 25, 26, 27, 28, 29, 30, 31, 32, 33, 34, 35, 36, 37, 38, 39, 40, 41, 42, 43, 44, 45, 46, 47, 48, 49, 50, 51, 52, 53, 54, 120, 121, 122, 123, 124, 125, 126, 127, 128, 129, 130, 131, 132, 133, 134, 135, 136, 137, 138, 139, 140, 141, 142, 143, 144, 145, 146, 147, 148, 149, 150, 151, 152, 153, 154, 155, 156, 157, 158, 159] (by decide +kernel) (by decide +kernel)) (goodIn_sub (fun _ h => List.mem_cons_of_mem _ (List.mem_append_left _ (List.mem_append_right _ h))) (by decide +kernel))
set_option maxRecDepth 20000 in
theorem gX10_installmentFor_X7_startFrom : GoodIn wsX10_installmentFor (wsV RX10 218 RX7 yX7_startFrom wsX7_startFrom) := goodIn_app (goodIn_of _ (by decide +kernel)) ggX10_installmentFor_X7_startFrom
set_option maxRecDepth 20000 in
theorem ggX10_installmentFor_X7_leastInstallment : GoodIn wsX10_installmentFor wsX7_leastInstallment := goodIn_ca (goodIn_ca (goodIn_r _ [58, 16, 17, 59, 60, 25, 61, 62, 63, 64, 65, 14, 66, 18, 67, 27, 19, 29, 20, 21, 22, 68, 69, 70, 28, 71, 72, 73, 74, 75, 76, 77, 78, 79, 80, 81, 82, 83, 84, 85, 86, 87, 88, 89, 90, 91, 92, 93, 94, 95, 96, 97, 98, 99, 100, 101, 102, 103, 104, 145, 146, 147, 148, 149, 150, 151, 152, 153, 154, 155, 156, 157, 158, 159] (by decide +kernel) (by decide +kernel)) (goodIn_sub (fun _ h => List.mem_cons_of_mem _ (List.mem_append_left _ (List.mem_append_right _ h))) (by decide +kernel))) (goodIn_sub (fun _ h => List.mem_cons_of_mem _ (List.mem_append_right _ h)) (by decide +kernel))
set_option maxRecDepth 20000 in
theorem gX10_installmentFor_X7_leastInstallment : GoodIn wsX10_installmentFor (wsV RX10 222 RX7 yX7_leastInstallment wsX7_leastInstallment) := goodIn_app (goodIn_of _ (by decide +kernel)) ggX10_installmentFor_X7_leastInstallment
set_option maxRecDepth 20000 in
theorem ggX10_append_X10_isWithin : GoodIn wsX10_append wsX10_isWithin := goodIn_r _ [9] (by decide +kernel) (by decide +kernel)
set_option maxRecDepth 20000 in
theorem gX10_append_X10_isWithin : GoodIn wsX10_append (va_wsS RX10 65 yX10_isWithin wsX10_isWithin) := goodIn_app (goodIn_of _ (by decide +kernel)) ggX10_append_X10_isWithin
set_option maxRecDepth 20000 in
theorem ggX10_append_X4_hasRoom : GoodIn wsX10_append wsX4_hasRoom := goodIn_r _ [14, 15, 36, 37, 38, 39, 40] (by decide +kernel) (by decide +kernel)
set_option maxRecDepth 20000 in
theorem gX10_append_X4_hasRoom : GoodIn wsX10_append (wsV RX10 226 RX4 yX4_hasRoom wsX4_hasRoom) := goodIn_app (goodIn_of _ (by decide +kernel)) ggX10_append_X4_hasRoom
set_option maxRecDepth 20000 in
theorem ggX10_append_X4_put : GoodIn wsX10_append wsX4_put := goodIn_ca (goodIn_r _ [19, 15, 20, 36, 37, 38, 39, 40] (by decide +kernel) (by decide +kernel)) (goodIn_sub (fun _ h => List.mem_cons_of_mem _ (List.mem_append_right _ h)) (by decide +kernel))
set_option maxRecDepth 20000 in
theorem gX10_append_X4_put : GoodIn wsX10_append (wsV RX10 229 RX4 yX4_put wsX4_put) := goodIn_app (goodIn_of _ (by decide +kernel)) ggX10_append_X4_put
set_option maxRecDepth 20000 in
theorem ggX10_execute_X4_read : GoodIn wsX10_execute wsX4_read := goodIn_ca (goodIn_r _ [17, 18, 19, 20, 21, 22, 16, 23, 24, 25, 26, 27, 28, 29, 30, 31, 32, 358, 359, 360, 361, 362] (by decide +kernel) (by decide +kernel)) (goodIn_sub (fun _ h => List.mem_cons_of_mem _ (List.mem_append_left _ (List.mem_append_right _ h))) (by decide +kernel))
set_option maxRecDepth 20000 in
theorem gX10_execute_X4_read : GoodIn wsX10_execute (wsV RX10 236 RX4 yX4_read wsX4_read) := goodIn_app (goodIn_of _ (by decide +kernel)) ggX10_execute_X4_read
set_option maxRecDepth 20000 in
theorem ggX10_execute_X4_empty : GoodIn wsX10_execute wsX4_empty := goodIn_r _ [36, 19, 358, 359, 360, 361, 362] (by decide +kernel) (by decide +kernel)
set_option maxRecDepth 20000 in
theorem gX10_execute_X4_empty : GoodIn wsX10_execute (wsV RX10 239 RX4 yX4_empty wsX4_empty) := goodIn_app (goodIn_of _ (by decide +kernel)) ggX10_execute_X4_empty
set_option maxRecDepth 20000 in
theorem ggX10_execute_X0_takeFrom : GoodIn wsX10_execute wsX0_takeFrom := goodIn_r _ [41, 42, 43, 44, 45, 46, 47, 48, 49, 50, 51, 52, 53, 54, 55, 56, 57, 58, 59, 60, 61, 62, 63, 64, 65, 66, 67, 68, 69, 70, 71, 72, 73, 74, 75, 76, 77, 78, 79, 80, 81, 82, 83, 84, 85, 86, 87, 88, 89, 90, 91, 92, 93, 94, 95, 96, 97, 98, 363, 364, 365, 366, 367, 368, 369, 370, 371, 372, 373, 374, 375, 376, 377, 378, 379, 380, 381, 382, 383, 384, 385, 386, 387, 388, 389, 390, 391, 392, 393, 394, 395, 396, 397] (by decide +kernel) (by decide +kernel)
set_option maxRecDepth 20000 in
theorem gX10_execute_X0_takeFrom : GoodIn wsX10_execute (wsV RX10 128 RX0 yX0_takeFrom wsX0_takeFrom) := goodIn_app (goodIn_of _ (by decide +kernel)) ggX10_execute_X0_takeFrom
set_option maxRecDepth 20000 in
theorem ggX10_execute_X4_kindOf : GoodIn wsX10_execute wsX4_kindOf := goodIn_ca (goodIn_r _ [102, 28, 358, 359, 360, 361, 362] (by decide +kernel) (by decide +kernel)) (goodIn_sub (fun _ h => List.mem_cons_of_mem _ (List.mem_append_left _ (List.mem_append_right _ h))) (by decide +kernel))
set_option maxRecDepth 20000 in
theorem gX10_execute_X4_kindOf : GoodIn wsX10_execute (wsV RX10 245 RX4 yX4_kindOf wsX4_kindOf) := goodIn_app (goodIn_of _ (by decide +kernel)) ggX10_execute_X4_kindOf
set_option maxRecDepth 20000 in
theorem ggX10_execute_X4_valueOf : GoodIn wsX10_execute wsX4_valueOf := goodIn_ca (goodIn_r _ [106, 29, 358, 359, 360, 361, 362] (by decide +kernel) (by decide +kernel)) (goodIn_sub (fun _ h => List.mem_cons_of_mem _ (List.mem_append_left _ (List.mem_append_right _ h))) (by decide +kernel))
set_option maxRecDepth 20000 in
theorem gX10_execute_X4_valueOf : GoodIn wsX10_execute (wsV RX10 248 RX4 yX4_valueOf wsX4_valueOf) := goodIn_app (goodIn_of _ (by decide +kernel)) ggX10_execute_X4_valueOf
set_option maxRecDepth 20000 in
theorem ggX10_execute_X0_refusal : GoodIn wsX10_execute wsX0_refusal := goodIn_ca (goodIn_r _ [110, 42, 51, 111, 112, 113, 114, 115, 116, 40, 117, 118, 119, 120, 57, 121, 66, 67, 68, 122, 123, 124, 125, 69, 60, 126, 127, 128, 129, 130, 131, 132, 133, 134, 135, 136, 137, 138, 363, 364, 365, 366, 367, 368, 369, 370, 371, 372, 373, 374, 375, 376, 377, 378, 379, 380, 381, 382, 383, 384, 385, 386, 387] (by decide +kernel) (by decide +kernel)) (goodIn_sub (fun _ h => List.mem_cons_of_mem _ (List.mem_append_left _ (List.mem_append_right _ h))) (by decide +kernel))
set_option maxRecDepth 20000 in
theorem gX10_execute_X0_refusal : GoodIn wsX10_execute (wsV RX10 121 RX0 yX0_refusal wsX0_refusal) := goodIn_app (goodIn_of _ (by decide +kernel)) ggX10_execute_X0_refusal
set_option maxRecDepth 20000 in
theorem ggX10_execute_X3_note : GoodIn wsX10_execute wsX3_note := goodIn_ca (goodIn_r _ [143, 144, 145, 363, 364, 365, 366, 367, 368, 369, 370, 398, 399] (by decide +kernel) (by decide +kernel)) (goodIn_sub (fun _ h => List.mem_cons_of_mem _ (List.mem_append_left _ (List.mem_append_right _ h))) (by decide +kernel))
set_option maxRecDepth 20000 in
theorem gX10_execute_X3_note : GoodIn wsX10_execute (wsV RX10 257 RX3 yX3_note wsX3_note) := goodIn_app (goodIn_of _ (by decide +kernel)) ggX10_execute_X3_note
set_option maxRecDepth 20000 in
theorem ggX10_execute_X0_carryOut : GoodIn wsX10_execute wsX0_carryOut := goodIn_ca (goodIn_ca (goodIn_r _ [149, 51, 150, 151, 152, 40, 153, 42, 154, 155, 156, 157, 52, 45, 53, 158, 159, 160, 80, 161, 83, 84, 162, 163, 164, 165, 82, 87, 166, 167, 168, 91, 169, 93, 94, 95, 97, 98, 170, 171, 137, 172, 173, 174, 175, 57, 176, 69, 66, 65, 60, 177, 178, 179, 180, 181, 182, 183, 184, 185, 186, 187, 188, 189, 190, 191, 192, 193, 194, 195, 196, 197, 198, 199, 200, 201, 67, 75, 127, 128, 129, 130, 131, 132, 133, 134, 135, 136, 138, 202, 203, 204, 205, 206, 207, 208, 74, 72, 61, 73, 209, 210, 211, 212, 213, 214, 215, 216, 217, 218, 219, 85, 220, 221, 222, 223, 224, 225, 226, 227, 228, 229, 230, 231, 232, 233, 234, 235, 236, 237, 238, 239, 240, 241, 242, 243, 244, 245, 246, 247, 248, 249, 250, 251, 252, 253, 254, 255, 256, 257, 258, 259, 260, 261, 262, 263, 264, 265, 266, 267, 268, 269, 270, 271, 272, 273, 274, 275, 276, 277, 278, 279, 280, 281, 282, 283, 284, 285, 286, 287, 288, 289, 290, 291, 292, 293, 294, 295, 296, 297, 298, 299, 68, 300, 301, 302, 303, 304, 305, 306, 307, 308, 309, 310, 311, 312, 313, 314, 315, 316, 317, 318, 319, 320, 321, 118, 119, 120, 121, 322, 323, 324, 325, 326, 327, 328, 329, 330, 331, 332, 333, 363, 364, 365, 366, 367, 368, 369, 370, 371, 372, 373, 374, 375, 376, 377, 378, 379, 380, 381, 382, 383, 384, 385, 386, 387, 388, 389, 390, 391, 392, 393, 394, 395, 396, 397, 400, 401, 402, 403, 404, 405, 406, 407, 408, 409, 410, 411, 412, 413, 414] (by decide +kernel) (by decide +kernel)) (goodIn_sub (fun _ h => List.mem_cons_of_mem _ (List.mem_append_left _ (List.mem_append_right _ h))) (by decide +kernel))) (goodIn_sub (fun _ h => List.mem_cons_of_mem _ (List.mem_append_right _ h)) (by decide +kernel))
set_option maxRecDepth 20000 in
theorem gX10_execute_X0_carryOut : GoodIn wsX10_execute (wsV RX10 132 RX0 yX0_carryOut wsX0_carryOut) := goodIn_app (goodIn_of _ (by decide +kernel)) ggX10_execute_X0_carryOut
set_option maxRecDepth 20000 in
theorem ggX10_execute_X10_remember : GoodIn wsX10_execute wsX10_remember := goodIn_r _ [337, 338, 339, 8, 340, 341, 185, 164, 186, 342, 171, 137, 172, 37, 38, 39, 40, 41, 42, 43, 44, 45, 46, 47, 48, 49, 50, 51, 52, 53, 54, 55, 56, 57, 58, 59, 60, 61, 62, 63, 64, 65, 66, 67, 68, 69, 70, 71, 72, 73, 74, 75, 76, 77, 78, 79, 80, 81, 82, 83, 84, 85, 86, 87, 88, 89, 90, 91, 92, 93, 94, 95, 96, 97, 98, 343, 344, 345, 346, 347, 348, 349, 350, 351, 352, 353, 354, 355, 356, 357, 363, 364, 365, 366, 367, 368, 369, 370, 371, 372, 373, 374, 375, 376, 377, 378, 379, 380, 381, 382, 383, 384, 385, 386, 387, 388, 389, 390, 391, 392, 393, 394, 395, 396, 397] (by decide +kernel) (by decide +kernel)
set_option maxRecDepth 20000 in
theorem gX10_execute_X10_remember : GoodIn wsX10_execute (wsV RX10 72 RX10 yX10_remember wsX10_remember) := goodIn_app (goodIn_of _ (by decide +kernel)) ggX10_execute_X10_remember
set_option maxRecDepth 20000 in
theorem ggX10_ledger_X10_isWithin : GoodIn wsX10_ledger wsX10_isWithin := goodIn_r _ [7] (by decide +kernel) (by decide +kernel)
set_option maxRecDepth 20000 in
theorem gX10_ledger_X10_isWithin : GoodIn wsX10_ledger (va_wsS RX10 65 yX10_isWithin wsX10_isWithin) := goodIn_app (goodIn_of _ (by decide +kernel)) ggX10_ledger_X10_isWithin
set_option maxRecDepth 20000 in
theorem ggX10_ledger_X5_cell : GoodIn wsX10_ledger wsX5_cell := goodIn_ca (goodIn_r _ [12, 13, 14, 15, 16, 17, 18, 19, 20, 44, 45, 46, 47, 48] (by decide +kernel) (by decide +kernel)) (goodIn_sub (fun _ h => List.mem_cons_of_mem _ (List.mem_append_right _ h)) (by decide +kernel))
set_option maxRecDepth 20000 in
theorem gX10_ledger_X5_cell : GoodIn wsX10_ledger (wsV RX10 273 RX5 yX5_cell wsX5_cell) := goodIn_app (goodIn_of _ (by decide +kernel)) ggX10_ledger_X5_cell
set_option maxRecDepth 20000 in
theorem ggX10_undo_J9_floorMod_7cf53 : GoodIn wsX10_undo wsJ9_floorMod_7cf53 := goodIn_r _ [10] (by decide +kernel) (by decide +kernel)
set_option maxRecDepth 20000 in
theorem gX10_undo_J9_floorMod_7cf53 : GoodIn wsX10_undo (va_wsS RX10 282 yJ9_floorMod_7cf53 wsJ9_floorMod_7cf53) := goodIn_app (goodIn_of _ (by decide +kernel)) ggX10_undo_J9_floorMod_7cf53
set_option maxRecDepth 20000 in
theorem ggX10_undo_X0_takeFrom : GoodIn wsX10_undo wsX0_takeFrom := goodIn_r _ [15, 16, 17, 18, 19, 20, 21, 22, 23, 24, 25, 26, 27, 28, 29, 30, 31, 32, 33, 34, 35, 36, 37, 38, 39, 40, 41, 42, 43, 44, 45, 46, 47, 48, 49, 50, 51, 52, 53, 54, 55, 56, 57, 58, 59, 60, 61, 62, 63, 64, 65, 66, 67, 68, 69, 70, 71, 72, 88, 89, 90, 91, 92, 93, 94, 95, 96, 97, 98, 99, 100, 101, 102, 103, 104, 105, 106, 107, 108, 109, 110, 111, 112, 113, 114, 115, 116, 117, 118, 119, 120, 121, 122] (by decide +kernel) (by decide +kernel)
set_option maxRecDepth 20000 in
theorem gX10_undo_X0_takeFrom : GoodIn wsX10_undo (wsV RX10 128 RX0 yX0_takeFrom wsX0_takeFrom) := goodIn_app (goodIn_of _ (by decide +kernel)) ggX10_undo_X0_takeFrom
set_option maxRecDepth 20000 in
theorem ggX10_isConfirmed_X0_takeRules : GoodIn wsX10_isConfirmed wsX0_takeRules := goodIn_ca (goodIn_r _ [9, 10, 332, 333, 334, 335, 336, 337, 338, 339] (by decide +kernel) (by decide +kernel)) (goodIn_sub (fun _ h => List.mem_cons_of_mem _ (List.mem_append_left _ (List.mem_append_right _ h))) (by decide +kernel))
set_option maxRecDepth 20000 in
theorem gX10_isConfirmed_X0_takeRules : GoodIn wsX10_isConfirmed (wsV RX10 292 RX0 yX0_takeRules wsX0_takeRules) := goodIn_app (goodIn_of _ (by decide +kernel)) ggX10_isConfirmed_X0_takeRules
set_option maxRecDepth 20000 in
theorem ggX10_isConfirmed_X0_startLoan : GoodIn wsX10_isConfirmed wsX0_startLoan := goodIn_ca (goodIn_ca (goodIn_r _ [14, 15, 16, 17, 18, 10, 19, 20, 21, 22, 23, 24, 25, 26, 27, 28, 29, 30, 31, 32, 33, 34, 35, 36, 37, 38, 39, 40, 41, 42, 43, 44, 45, 46, 47, 48, 49, 50, 51, 52, 53, 54, 55, 56, 57, 58, 59, 60, 61, 62, 63, 64, 65, 66, 67, 68, 69, 70, 71, 72, 73, 74, 75, 76, 77, 78, 79, 80, 81, 82, 83, 84, 85, 86, 87, 88, 89, 90, 91, 92, 93, 94, 95, 96, 97, 98, 99, 100, 101, 102, 103, 104, 105, 106, 107, 108, 109, 110, 111, 112, 113, 114, 115, 116, 117, 118, 119, 120, 121, 122, 123, 124, 125, 126, 127, 128, 129, 130, 131, 132, 133, 134, 135, 136, 137, 138, 139, 140, 141, 142, 143, 144, 145, 146, 147, 148, 149, 150, 151, 152, 153, 154, 332, 333, 334, 335, 336, 337, 338, 339, 340, 341, 342, 343, 344, 345, 346, 347, 348, 349, 350, 351, 352, 353, 354, 355, 356, 357, 358, 359, 360, 361, 362, 363, 364, 365, 366, 367, 368, 369, 370, 371, 372, 373, 374, 375, 376, 377, 378, 379, 380, 381] (by decide +kernel) (by decide +kernel)) (goodIn_sub (fun _ h => List.mem_cons_of_mem _ (List.mem_append_left _ (List.mem_append_right _ h))) (by decide +kernel))) (goodIn_sub (fun _ h => List.mem_cons_of_mem _ (List.mem_append_right _ h)) (by decide +kernel))
set_option maxRecDepth 20000 in
theorem gX10_isConfirmed_X0_startLoan : GoodIn wsX10_isConfirmed (wsV RX10 75 RX0 yX0_startLoan wsX0_startLoan) := goodIn_app (goodIn_of _ (by decide +kernel)) ggX10_isConfirmed_X0_startLoan
set_option maxRecDepth 20000 in
theorem ggX10_isConfirmed_X3_kindAt : GoodIn wsX10_isConfirmed wsX3_kindAt := goodIn_ca (goodIn_r _ [159, 160, 382, 383] (by decide +kernel) (by decide +kernel)) (goodIn_sub (fun _ h => List.mem_cons_of_mem _ (List.mem_append_left _ (List.mem_append_right _ h))) (by decide +kernel))
set_option maxRecDepth 20000 in
theorem gX10_isConfirmed_X3_kindAt : GoodIn wsX10_isConfirmed (wsV RX10 305 RX3 yX3_kindAt wsX3_kindAt) := goodIn_app (goodIn_of _ (by decide +kernel)) ggX10_isConfirmed_X3_kindAt
set_option maxRecDepth 20000 in
theorem ggX10_isConfirmed_X3_valueAt : GoodIn wsX10_isConfirmed wsX3_valueAt := goodIn_ca (goodIn_r _ [164, 165, 382, 383] (by decide +kernel) (by decide +kernel)) (goodIn_sub (fun _ h => List.mem_cons_of_mem _ (List.mem_append_left _ (List.mem_append_right _ h))) (by decide +kernel))
set_option maxRecDepth 20000 in
theorem gX10_isConfirmed_X3_valueAt : GoodIn wsX10_isConfirmed (wsV RX10 308 RX3 yX3_valueAt wsX3_valueAt) := goodIn_app (goodIn_of _ (by decide +kernel)) ggX10_isConfirmed_X3_valueAt
set_option maxRecDepth 20000 in
theorem ggX10_isConfirmed_X0_refusal : GoodIn wsX10_isConfirmed wsX0_refusal := goodIn_ca (goodIn_r _ [169, 16, 15, 170, 171, 172, 173, 174, 175, 8, 176, 177, 178, 179, 27, 180, 36, 37, 38, 181, 182, 183, 184, 39, 30, 185, 186, 122, 123, 124, 125, 126, 127, 128, 129, 130, 131, 132, 332, 333, 334, 335, 336, 337, 338, 339, 340, 341, 342, 343, 344, 345, 346, 347, 348, 349, 350, 351, 352, 353, 354, 355, 356] (by decide +kernel) (by decide +kernel)) (goodIn_sub (fun _ h => List.mem_cons_of_mem _ (List.mem_append_left _ (List.mem_append_right _ h))) (by decide +kernel))
set_option maxRecDepth 20000 in
theorem gX10_isConfirmed_X0_refusal : GoodIn wsX10_isConfirmed (wsV RX10 121 RX0 yX0_refusal wsX0_refusal) := goodIn_app (goodIn_of _ (by decide +kernel)) ggX10_isConfirmed_X0_refusal
set_option maxRecDepth 20000 in
theorem ggX10_isConfirmed_X0_carryOut : GoodIn wsX10_isConfirmed wsX0_carryOut := goodIn_ca (goodIn_ca (goodIn_r _ [190, 15, 191, 192, 193, 8, 194, 16, 195, 196, 197, 198, 17, 10, 18, 199, 200, 201, 63, 202, 66, 67, 203, 204, 51, 205, 65, 206, 207, 208, 209, 71, 210, 73, 74, 211, 212, 213, 214, 215, 131, 216, 217, 218, 219, 27, 220, 39, 36, 35, 30, 221, 100, 47, 101, 102, 103, 104, 49, 50, 52, 53, 54, 55, 56, 57, 58, 59, 222, 223, 224, 225, 226, 227, 228, 229, 37, 44, 186, 122, 123, 124, 125, 126, 127, 128, 129, 130, 132, 230, 134, 135, 231, 232, 233, 234, 43, 41, 31, 42, 45, 46, 48, 235, 236, 237, 238, 239, 240, 241, 242, 243, 244, 245, 246, 247, 75, 76, 77, 78, 79, 80, 81, 82, 83, 84, 85, 86, 87, 88, 89, 90, 91, 92, 93, 94, 95, 96, 97, 98, 99, 105, 106, 107, 108, 109, 110, 111, 112, 113, 114, 115, 116, 117, 118, 119, 120, 121, 133, 136, 137, 138, 139, 140, 141, 142, 143, 144, 145, 146, 147, 148, 149, 150, 151, 152, 153, 154, 248, 249, 250, 251, 252, 253, 254, 255, 256, 257, 258, 259, 260, 261, 38, 262, 263, 264, 265, 266, 267, 268, 269, 270, 271, 272, 273, 274, 275, 276, 277, 278, 279, 280, 281, 282, 283, 177, 178, 179, 180, 284, 285, 286, 287, 288, 289, 290, 291, 292, 293, 294, 295, 332, 333, 334, 335, 336, 337, 338, 339, 340, 341, 342, 343, 344, 345, 346, 347, 348, 349, 350, 351, 352, 353, 354, 355, 356, 357, 358, 359, 360, 361, 362, 363, 364, 365, 366, 367, 368, 369, 370, 371, 372, 373, 374, 375, 376, 377, 378, 379, 380, 381] (by decide +kernel) (by decide +kernel)) (goodIn_sub (fun _ h => List.mem_cons_of_mem _ (List.mem_append_left _ (List.mem_append_right _ h))) (by decide +kernel))) (goodIn_sub (fun _ h => List.mem_cons_of_mem _ (List.mem_append_right _ h)) (by decide +kernel))
set_option maxRecDepth 20000 in
theorem gX10_isConfirmed_X0_carryOut : GoodIn wsX10_isConfirmed (wsV RX10 132 RX0 yX0_carryOut wsX0_carryOut) := goodIn_app (goodIn_of _ (by decide +kernel)) ggX10_isConfirmed_X0_carryOut
set_option maxRecDepth 20000 in
theorem ggX10_isConfirmed_X0_agreesWith : GoodIn wsX10_isConfirmed wsX0_agreesWith := goodIn_ca (goodIn_r _ [299, 16, 15, 17, 18, 10, 300, 301, 302, 27, 303, 29, 35, 36, 37, 38, 39, 304, 40, 41, 42, 43, 44, 305, 306, 307, 63, 308, 65, 66, 67, 203, 204, 51, 205, 243, 206, 309, 310, 311, 71, 312, 74, 313, 314, 315, 316, 73, 211, 212, 213, 214, 215, 131, 216, 332, 333, 334, 335, 336, 337, 338, 339, 340, 341, 342, 343, 344, 345, 346, 347, 348, 349, 350, 351, 352, 353, 354, 355, 356, 357, 358, 359, 360, 361, 362, 363, 364, 365, 366] (by decide +kernel) (by decide +kernel)) (goodIn_sub (fun _ h => List.mem_cons_of_mem _ (List.mem_append_left _ (List.mem_append_right _ h))) (by decide +kernel))
set_option maxRecDepth 20000 in
theorem gX10_isConfirmed_X0_agreesWith : GoodIn wsX10_isConfirmed (wsV RX10 311 RX0 yX0_agreesWith wsX0_agreesWith) := goodIn_app (goodIn_of _ (by decide +kernel)) ggX10_isConfirmed_X0_agreesWith
set_option maxRecDepth 20000 in
theorem ggX10_storeSchedule_X10_projectNow : GoodIn wsX10_storeSchedule wsX10_projectNow := goodIn_ca (goodIn_r _ [9, 4, 10, 11, 12, 13, 14, 15, 16, 17, 18, 19, 20, 21, 22, 23, 24, 25, 26, 27, 28, 29, 30, 31, 32, 33, 34, 35, 36, 37, 38, 39, 40, 41, 42, 43, 44, 45, 46, 47, 48, 49, 50, 51, 52, 53, 54, 55, 56, 57, 58, 59, 60, 61, 62, 63, 64, 65, 66, 67, 68, 69, 70, 71, 72, 73, 74, 75, 76, 77, 78, 79, 80, 81, 82, 83, 84, 85, 105, 106, 107, 108, 109, 110, 111, 112, 113, 114, 115, 116, 117, 118, 119, 135, 136, 137, 138, 139, 140, 141, 142, 143, 144, 145, 146, 147, 148, 149, 150, 151, 152, 153, 154, 155, 156, 157, 158, 159, 120, 121, 122, 123, 124, 125, 126, 127, 128, 129, 130, 131, 132, 133, 134] (by decide +kernel) (by decide +kernel)) (goodIn_sub (fun _ h => List.mem_cons_of_mem _ (List.mem_append_right _ h)) (by decide +kernel))
set_option maxRecDepth 20000 in
theorem gX10_storeSchedule_X10_projectNow : GoodIn wsX10_storeSchedule (wsV RX10 204 RX10 yX10_projectNow wsX10_projectNow) := goodIn_app (goodIn_of _ (by decide +kernel)) ggX10_storeSchedule_X10_projectNow
set_option maxRecDepth 20000 in
theorem ggX10_storeSchedule_X8_fill : GoodIn wsX10_storeSchedule wsX8_fill := goodIn_ca (goodIn_r _ [90, 91, 92, 93, 94, 95, 96, 97, 98, 99, 14, 100, 82, 83, 84, 85, 101, 102, 103, 104, 59, 160, 161, 162, 163, 164, 120, 121, 122, 123, 124, 125, 126, 127, 128, 129, 130, 131, 132, 133, 134] (by decide +kernel) (by decide +kernel)) (goodIn_sub (fun _ h => List.mem_cons_of_mem _ (List.mem_append_right _ h)) (by decide +kernel))
set_option maxRecDepth 20000 in
theorem gX10_storeSchedule_X8_fill : GoodIn wsX10_storeSchedule (wsV RX10 315 RX8 yX8_fill wsX8_fill) := goodIn_app (goodIn_of _ (by decide +kernel)) ggX10_storeSchedule_X8_fill
set_option maxRecDepth 20000 in
theorem ggX10_copyRow_X10_isWithin : GoodIn wsX10_copyRow wsX10_isWithin := goodIn_r _ [17] (by decide +kernel) (by decide +kernel)
set_option maxRecDepth 20000 in
theorem gX10_copyRow_X10_isWithin : GoodIn wsX10_copyRow (va_wsS RX10 65 yX10_isWithin wsX10_isWithin) := goodIn_app (goodIn_of _ (by decide +kernel)) ggX10_copyRow_X10_isWithin
set_option maxRecDepth 20000 in
theorem ggX10_copyRow_X8_takeElements : GoodIn wsX10_copyRow wsX8_takeElements := goodIn_ca (goodIn_r _ [22, 23, 24, 25, 26, 27, 21, 28, 29, 30, 31, 32, 33, 34, 50, 51, 52, 53, 54] (by decide +kernel) (by decide +kernel)) (goodIn_sub (fun _ h => List.mem_cons_of_mem _ (List.mem_append_right _ h)) (by decide +kernel))
set_option maxRecDepth 20000 in
theorem gX10_copyRow_X8_takeElements : GoodIn wsX10_copyRow (wsV RX10 329 RX8 yX8_takeElements wsX8_takeElements) := goodIn_app (goodIn_of _ (by decide +kernel)) ggX10_copyRow_X8_takeElements
set_option maxRecDepth 20000 in
theorem ggX10_stored_X8_has : GoodIn wsX10_stored wsX8_has := goodIn_r _ [10, 11, 35, 36, 37, 38, 39] (by decide +kernel) (by decide +kernel)
set_option maxRecDepth 20000 in
theorem gX10_stored_X8_has : GoodIn wsX10_stored (wsV RX10 333 RX8 yX8_has wsX8_has) := goodIn_app (goodIn_of _ (by decide +kernel)) ggX10_stored_X8_has
set_option maxRecDepth 20000 in
theorem ggX10_stored_X8_element : GoodIn wsX10_stored wsX8_element := goodIn_ca (goodIn_r _ [15, 16, 17, 18, 19, 7, 8, 9, 10, 11, 35, 36, 37, 38, 39] (by decide +kernel) (by decide +kernel)) (goodIn_sub (fun _ h => List.mem_cons_of_mem _ (List.mem_append_right _ h)) (by decide +kernel))
set_option maxRecDepth 20000 in
theorem gX10_stored_X8_element : GoodIn wsX10_stored (wsV RX10 334 RX8 yX8_element wsX8_element) := goodIn_app (goodIn_of _ (by decide +kernel)) ggX10_stored_X8_element
set_option maxRecDepth 20000 in
theorem ggX10_snapshot_X0_takeFrom : GoodIn wsX10_snapshot wsX0_takeFrom := goodIn_r _ [10, 11, 12, 13, 14, 15, 16, 17, 18, 19, 20, 21, 22, 23, 24, 25, 26, 27, 28, 29, 30, 31, 32, 33, 34, 35, 36, 37, 38, 39, 40, 41, 42, 43, 44, 45, 46, 47, 48, 49, 50, 51, 52, 53, 54, 55, 56, 57, 58, 59, 60, 61, 62, 63, 64, 65, 66, 67, 91, 92, 93, 94, 95, 96, 97, 98, 99, 100, 101, 102, 103, 104, 105, 106, 107, 108, 109, 110, 111, 112, 113, 114, 115, 116, 117, 118, 119, 120, 121, 122, 123, 124, 125] (by decide +kernel) (by decide +kernel)
set_option maxRecDepth 20000 in
theorem gX10_snapshot_X0_takeFrom : GoodIn wsX10_snapshot (wsV RX10 128 RX0 yX0_takeFrom wsX0_takeFrom) := goodIn_app (goodIn_of _ (by decide +kernel)) ggX10_snapshot_X0_takeFrom
set_option maxRecDepth 20000 in
theorem ggX10_snapshot_X3_takeFrom : GoodIn wsX10_snapshot wsX3_takeFrom := goodIn_r _ [72, 73, 74, 16, 17, 18, 75, 126, 127] (by decide +kernel) (by decide +kernel)
set_option maxRecDepth 20000 in
theorem gX10_snapshot_X3_takeFrom : GoodIn wsX10_snapshot (wsV RX10 338 RX3 yX3_takeFrom wsX3_takeFrom) := goodIn_app (goodIn_of _ (by decide +kernel)) ggX10_snapshot_X3_takeFrom
set_option maxRecDepth 20000 in
theorem ggX10_restore_X0_takeFrom : GoodIn wsX10_restore wsX0_takeFrom := goodIn_r _ [13, 14, 15, 16, 17, 18, 19, 20, 21, 22, 23, 24, 25, 26, 27, 28, 29, 30, 31, 32, 33, 34, 35, 36, 37, 38, 39, 40, 41, 42, 43, 44, 45, 46, 47, 48, 49, 50, 51, 52, 53, 54, 55, 56, 57, 58, 59, 60, 61, 62, 63, 64, 65, 66, 67, 68, 69, 70, 94, 95, 96, 97, 98, 99, 100, 101, 102, 103, 104, 105, 106, 107, 108, 109, 110, 111, 112, 113, 114, 115, 116, 117, 118, 119, 120, 121, 122, 123, 124, 125, 126, 127, 128] (by decide +kernel) (by decide +kernel)
set_option maxRecDepth 20000 in
theorem gX10_restore_X0_takeFrom : GoodIn wsX10_restore (wsV RX10 128 RX0 yX0_takeFrom wsX0_takeFrom) := goodIn_app (goodIn_of _ (by decide +kernel)) ggX10_restore_X0_takeFrom
set_option maxRecDepth 20000 in
theorem ggX10_restore_X3_takeFrom : GoodIn wsX10_restore wsX3_takeFrom := goodIn_r _ [75, 76, 77, 19, 20, 21, 78, 129, 130] (by decide +kernel) (by decide +kernel)
set_option maxRecDepth 20000 in
theorem gX10_restore_X3_takeFrom : GoodIn wsX10_restore (wsV RX10 338 RX3 yX3_takeFrom wsX3_takeFrom) := goodIn_app (goodIn_of _ (by decide +kernel)) ggX10_restore_X3_takeFrom
set_option maxRecDepth 20000 in
theorem ggX10_command_X0_refusal : GoodIn wsX10_command wsX0_refusal := goodIn_ca (goodIn_r _ [8, 9, 10, 11, 12, 13, 14, 15, 16, 7, 17, 18, 19, 20, 21, 22, 23, 24, 25, 26, 27, 28, 29, 30, 31, 32, 33, 34, 35, 36, 37, 38, 39, 40, 41, 42, 43, 44, 326, 327, 328, 329, 330, 331, 332, 333, 334, 335, 336, 337, 338, 339, 340, 341, 342, 343, 344, 345, 346, 347, 348, 349, 350] (by decide +kernel) (by decide +kernel)) (goodIn_sub (fun _ h => List.mem_cons_of_mem _ (List.mem_append_left _ (List.mem_append_left _ (List.mem_append_left _ (List.mem_append_left _ (List.mem_append_right _ h)))))) (by decide +kernel))
set_option maxRecDepth 20000 in
theorem gX10_command_X0_refusal : GoodIn wsX10_command (wsV RX10 121 RX0 yX0_refusal wsX0_refusal) := goodIn_app (goodIn_of _ (by decide +kernel)) ggX10_command_X0_refusal
set_option maxRecDepth 20000 in
theorem ggX10_command_X10_refuse : GoodIn wsX10_command wsX10_refuse := goodIn_ca (goodIn_ca (goodIn_ca (goodIn_r _ [47, 48, 49, 50, 51, 52, 53] (by decide +kernel) (by decide +kernel)) (goodIn_sub (fun _ h => List.mem_cons_of_mem _ (List.mem_append_left _ (List.mem_append_left _ (List.mem_append_left _ (List.mem_append_right _ h))))) (by decide +kernel))) (goodIn_sub (fun _ h => List.mem_cons_of_mem _ (List.mem_append_left _ (List.mem_append_left _ (List.mem_append_right _ h)))) (by decide +kernel))) (goodIn_sub (fun _ h => List.mem_cons_of_mem _ (List.mem_append_left _ (List.mem_append_right _ h))) (by decide +kernel))
set_option maxRecDepth 20000 in
theorem gX10_command_X10_refuse : GoodIn wsX10_command (va_wsS RX10 124 yX10_refuse wsX10_refuse) := goodIn_app (goodIn_of _ (by decide +kernel)) ggX10_command_X10_refuse
set_option maxRecDepth 20000 in
theorem ggX10_command_X10_remember : GoodIn wsX10_command wsX10_remember := goodIn_r _ [57, 58, 59, 1, 60, 61, 62, 63, 64, 65, 66, 43, 67, 68, 69, 70, 7, 71, 9, 72, 73, 74, 75, 76, 77, 78, 79, 10, 80, 81, 82, 83, 84, 21, 85, 86, 31, 87, 88, 89, 90, 91, 23, 24, 25, 30, 92, 93, 94, 95, 96, 97, 98, 99, 100, 101, 102, 103, 104, 105, 106, 107, 108, 109, 110, 111, 112, 113, 114, 115, 116, 117, 118, 119, 120, 311, 312, 313, 314, 315, 316, 317, 318, 319, 320, 321, 322, 323, 324, 325, 326, 327, 328, 329, 330, 331, 332, 333, 334, 335, 336, 337, 338, 339, 340, 341, 342, 343, 344, 345, 346, 347, 348, 349, 350, 351, 352, 353, 354, 355, 356, 357, 358, 359, 360] (by decide +kernel) (by decide +kernel)
set_option maxRecDepth 20000 in
theorem gX10_command_X10_remember : GoodIn wsX10_command (wsV RX10 72 RX10 yX10_remember wsX10_remember) := goodIn_app (goodIn_of _ (by decide +kernel)) ggX10_command_X10_remember
set_option maxRecDepth 20000 in
theorem ggX10_command_X3_note : GoodIn wsX10_command wsX3_note := goodIn_ca (goodIn_r _ [125, 126, 127, 326, 327, 328, 329, 330, 331, 332, 333, 361, 362] (by decide +kernel) (by decide +kernel)) (goodIn_sub (fun _ h => List.mem_cons_of_mem _ (List.mem_append_left _ (List.mem_append_left _ (List.mem_append_left _ (List.mem_append_left _ (List.mem_append_right _ h)))))) (by decide +kernel))
set_option maxRecDepth 20000 in
theorem gX10_command_X3_note : GoodIn wsX10_command (wsV RX10 257 RX3 yX3_note wsX3_note) := goodIn_app (goodIn_of _ (by decide +kernel)) ggX10_command_X3_note
set_option maxRecDepth 20000 in
theorem ggX10_command_X0_carryOut : GoodIn wsX10_command wsX0_carryOut := goodIn_ca (goodIn_ca (goodIn_r _ [131, 10, 132, 133, 134, 7, 135, 9, 136, 137, 138, 139, 80, 74, 81, 140, 141, 142, 102, 143, 105, 106, 144, 145, 63, 146, 104, 109, 147, 148, 149, 113, 150, 115, 116, 117, 119, 120, 151, 66, 43, 67, 152, 153, 154, 21, 155, 30, 23, 91, 31, 156, 157, 158, 159, 160, 161, 162, 163, 62, 64, 164, 165, 166, 167, 168, 169, 170, 171, 172, 173, 174, 175, 176, 177, 178, 24, 97, 33, 34, 35, 36, 37, 38, 39, 40, 41, 42, 44, 179, 180, 181, 182, 183, 184, 185, 96, 94, 87, 95, 186, 187, 188, 189, 190, 191, 192, 193, 194, 195, 196, 107, 197, 198, 199, 200, 201, 202, 203, 204, 205, 206, 207, 208, 209, 210, 211, 212, 213, 214, 215, 216, 217, 218, 219, 220, 221, 222, 223, 224, 225, 226, 227, 228, 229, 230, 231, 232, 233, 234, 235, 236, 237, 238, 239, 240, 241, 242, 243, 244, 245, 246, 247, 248, 249, 250, 251, 252, 253, 254, 255, 256, 257, 258, 259, 260, 261, 262, 263, 264, 265, 266, 267, 268, 269, 270, 271, 272, 273, 274, 275, 276, 25, 277, 278, 279, 280, 281, 282, 283, 284, 285, 286, 287, 288, 289, 290, 291, 292, 293, 294, 295, 296, 297, 298, 18, 19, 20, 22, 299, 300, 301, 302, 303, 304, 305, 306, 307, 308, 309, 310, 326, 327, 328, 329, 330, 331, 332, 333, 334, 335, 336, 337, 338, 339, 340, 341, 342, 343, 344, 345, 346, 347, 348, 349, 350, 351, 352, 353, 354, 355, 356, 357, 358, 359, 360, 363, 364, 365, 366, 367, 368, 369, 370, 371, 372, 373, 374, 375, 376, 377] (by decide +kernel) (by decide +kernel)) (goodIn_sub (fun _ h => List.mem_cons_of_mem _ (List.mem_append_left _ (List.mem_append_left _ (List.mem_append_left _ (List.mem_append_left _ (List.mem_append_right _ h)))))) (by decide +kernel))) (goodIn_sub (fun _ h => List.mem_cons_of_mem _ (List.mem_append_right _ h)) (by decide +kernel))
set_option maxRecDepth 20000 in
theorem gX10_command_X0_carryOut : GoodIn wsX10_command (wsV RX10 132 RX0 yX0_carryOut wsX0_carryOut) := goodIn_app (goodIn_of _ (by decide +kernel)) ggX10_command_X0_carryOut
set_option maxRecDepth 20000 in
theorem ggX10_remember_J9_floorMod_7cf53 : GoodIn wsX10_remember wsJ9_floorMod_7cf53 := goodIn_r _ [12] (by decide +kernel) (by decide +kernel)
set_option maxRecDepth 20000 in
theorem gX10_remember_J9_floorMod_7cf53 : GoodIn wsX10_remember (va_wsS RX10 282 yJ9_floorMod_7cf53 wsJ9_floorMod_7cf53) := goodIn_app (goodIn_of _ (by decide +kernel)) ggX10_remember_J9_floorMod_7cf53
set_option maxRecDepth 20000 in
theorem ggX10_remember_X0_takeFrom : GoodIn wsX10_remember wsX0_takeFrom := goodIn_r _ [17, 18, 19, 20, 21, 22, 23, 24, 25, 26, 27, 28, 29, 30, 31, 32, 33, 34, 35, 36, 37, 38, 39, 40, 41, 42, 43, 44, 45, 46, 47, 48, 49, 50, 51, 52, 53, 54, 55, 56, 57, 58, 59, 60, 61, 62, 63, 64, 65, 66, 67, 68, 69, 70, 71, 72, 73, 74, 90, 91, 92, 93, 94, 95, 96, 97, 98, 99, 100, 101, 102, 103, 104, 105, 106, 107, 108, 109, 110, 111, 112, 113, 114, 115, 116, 117, 118, 119, 120, 121, 122, 123, 124] (by decide +kernel) (by decide +kernel)
set_option maxRecDepth 20000 in
theorem gX10_remember_X0_takeFrom : GoodIn wsX10_remember (wsV RX10 128 RX0 yX0_takeFrom wsX0_takeFrom) := goodIn_app (goodIn_of _ (by decide +kernel)) ggX10_remember_X0_takeFrom
