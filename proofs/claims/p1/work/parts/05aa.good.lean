set_option maxRecDepth 20000 in
theorem ggX0_takeFrom_X6_takeFrom : GoodIn wsX0_takeFrom wsX6_takeFrom := goodIn_r _ [17, 18, 19, 20, 21, 22, 23, 24, 25, 26, 27, 28, 29, 30, 31, 32, 33, 34, 35, 6, 7, 8, 66, 67, 68, 69, 70, 71, 72, 73, 74, 75, 76, 77, 78, 79, 80, 81, 82] (by decide +kernel) (by decide +kernel)
set_option maxRecDepth 20000 in
theorem gX0_takeFrom_X6_takeFrom : GoodIn wsX0_takeFrom (wsV RX0 77 RX6 yX6_takeFrom wsX6_takeFrom) := goodIn_app (goodIn_of _ (by decide +kernel)) ggX0_takeFrom_X6_takeFrom
set_option maxRecDepth 20000 in
theorem ggX0_takeFrom_X1_takeFrom : GoodIn wsX0_takeFrom wsX1_takeFrom := goodIn_r _ [40, 41, 42, 43, 44, 45, 6, 7, 8, 46, 83, 84, 85, 86, 87] (by decide +kernel) (by decide +kernel)
set_option maxRecDepth 20000 in
theorem gX0_takeFrom_X1_takeFrom : GoodIn wsX0_takeFrom (wsV RX0 81 RX1 yX1_takeFrom wsX1_takeFrom) := goodIn_app (goodIn_of _ (by decide +kernel)) ggX0_takeFrom_X1_takeFrom
set_option maxRecDepth 20000 in
theorem ggX0_takeFrom_X5_takeFrom : GoodIn wsX0_takeFrom wsX5_takeFrom := goodIn_r _ [51, 52, 53, 54, 55, 6, 7, 8, 56, 57, 88, 89, 90, 91, 92] (by decide +kernel) (by decide +kernel)
set_option maxRecDepth 20000 in
theorem gX0_takeFrom_X5_takeFrom : GoodIn wsX0_takeFrom (wsV RX0 84 RX5 yX5_takeFrom wsX5_takeFrom) := goodIn_app (goodIn_of _ (by decide +kernel)) ggX0_takeFrom_X5_takeFrom
set_option maxRecDepth 20000 in
theorem ggX0_refusal_X10_isWithin : GoodIn wsX0_refusal wsX10_isWithin := goodIn_r _ [6] (by decide +kernel) (by decide +kernel)
set_option maxRecDepth 20000 in
theorem gX0_refusal_X10_isWithin_n97 : GoodIn wsX0_refusal (wsX10_isWithin) := ggX0_refusal_X10_isWithin
set_option maxRecDepth 20000 in
theorem ggX0_refusal_X0_refusalIf : GoodIn wsX0_refusal wsX0_refusalIf := goodIn_r _ [10] (by decide +kernel) (by decide +kernel)
set_option maxRecDepth 20000 in
theorem gX0_refusal_X0_refusalIf : GoodIn wsX0_refusal (va_wsS RX0 101 yX0_refusalIf wsX0_refusalIf) := goodIn_app (goodIn_of _ (by decide +kernel)) ggX0_refusal_X0_refusalIf
set_option maxRecDepth 20000 in
theorem ggX0_refusal_X6_debt : GoodIn wsX0_refusal wsX6_debt := goodIn_r _ [15, 16, 17, 18, 46, 47, 48, 49, 50, 51, 52, 53, 54, 55, 56, 57, 58, 59, 60, 61, 62] (by decide +kernel) (by decide +kernel)
set_option maxRecDepth 20000 in
theorem gX0_refusal_X6_debt : GoodIn wsX0_refusal (wsV RX0 105 RX6 yX6_debt wsX6_debt) := goodIn_app (goodIn_of _ (by decide +kernel)) ggX0_refusal_X6_debt
set_option maxRecDepth 20000 in
theorem ggX10_remember_J9_floorMod_7cf53 : GoodIn wsX10_remember wsJ9_floorMod_7cf53 := goodIn_r _ [12] (by decide +kernel) (by decide +kernel)
set_option maxRecDepth 20000 in
theorem gX10_remember_J9_floorMod_7cf53 : GoodIn wsX10_remember (va_wsS RX10 282 yJ9_floorMod_7cf53 wsJ9_floorMod_7cf53) := goodIn_app (goodIn_of _ (by decide +kernel)) ggX10_remember_J9_floorMod_7cf53
set_option maxRecDepth 20000 in
theorem ggX10_remember_X0_takeFrom : GoodIn wsX10_remember wsX0_takeFrom := goodIn_r _ [17, 18, 19, 20, 21, 22, 23, 24, 25, 26, 27, 28, 29, 30, 31, 32, 33, 34, 35, 36, 37, 38, 39, 40, 41, 42, 43, 44, 45, 46, 47, 48, 49, 50, 51, 52, 53, 54, 55, 56, 57, 58, 59, 60, 61, 62, 63, 64, 65, 66, 67, 68, 69, 70, 71, 72, 73, 74, 90, 91, 92, 93, 94, 95, 96, 97, 98, 99, 100, 101, 102, 103, 104, 105, 106, 107, 108, 109, 110, 111, 112, 113, 114, 115, 116, 117, 118, 119, 120, 121, 122, 123, 124] (by decide +kernel) (by decide +kernel)
set_option maxRecDepth 20000 in
theorem gX10_remember_X0_takeFrom : GoodIn wsX10_remember (wsV RX10 128 RX0 yX0_takeFrom wsX0_takeFrom) := goodIn_app (goodIn_of _ (by decide +kernel)) ggX10_remember_X0_takeFrom
