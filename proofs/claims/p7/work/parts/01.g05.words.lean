set_option maxRecDepth 20000 in
theorem ggX9_weather_X9_refuse : GoodIn wsX9_weather wsX9_refuse := goodIn_r _ [10, 11, 12, 13, 14, 15, 16, 17, 18, 19, 20, 21, 22, 23, 24, 25, 26, 27, 28, 29, 30, 31, 32, 33, 34, 35, 36, 37, 38, 39, 40, 41, 42, 43, 44, 45, 46, 47, 48, 49, 50, 51, 52, 53, 54, 55, 56, 57, 58, 59, 60, 61, 62] (by decide +kernel) (by decide +kernel)
set_option maxRecDepth 20000 in
theorem gX9_weather_X9_refuse : GoodIn wsX9_weather (wsV RX9 122 RX9 yX9_refuse wsX9_refuse) := goodIn_app (goodIn_of _ (by decide +kernel)) ggX9_weather_X9_refuse
set_option maxRecDepth 20000 in
theorem ggX9_partsOf_X9_isInForce : GoodIn wsX9_partsOf wsX9_isInForce := goodIn_r _ [8, 9, 10, 11, 12, 13, 14, 15, 16, 17, 18, 19, 20, 21, 22, 23, 24, 25, 26, 27, 28, 29, 30, 31, 32, 33, 34, 35, 36, 37, 38, 39, 40, 41, 42, 43, 44, 45, 46, 47, 48, 49, 50, 51, 52, 53, 54, 55, 56, 57, 58, 59, 60, 61, 62, 63] (by decide +kernel) (by decide +kernel)
set_option maxRecDepth 20000 in
theorem gX9_partsOf_X9_isInForce : GoodIn wsX9_partsOf (wsV RX9 144 RX9 yX9_isInForce wsX9_isInForce) := goodIn_app (goodIn_of _ (by decide +kernel)) ggX9_partsOf_X9_isInForce
set_option maxRecDepth 20000 in
theorem ggX9_right_X9_isIn : GoodIn wsX9_right wsX9_isIn := goodIn_r _ [9] (by decide +kernel) (by decide +kernel)
set_option maxRecDepth 20000 in
theorem gX9_right_X9_isIn : GoodIn wsX9_right (va_wsS RX9 134 yX9_isIn wsX9_isIn) := goodIn_app (goodIn_of _ (by decide +kernel)) ggX9_right_X9_isIn
set_option maxRecDepth 20000 in
theorem ggX9_right_X9_refuse : GoodIn wsX9_right wsX9_refuse := goodIn_r _ [13, 14, 27, 28, 29, 30, 31, 32, 33, 34, 35, 36, 37, 38, 39, 40, 41, 42, 43, 44, 45, 46, 47, 48, 49, 50, 51, 52, 53, 54, 55, 56, 57, 58, 59, 60, 61, 62, 63, 64, 65, 66, 67, 68, 69, 70, 71, 72, 73, 74, 75, 76, 77] (by decide +kernel) (by decide +kernel)
set_option maxRecDepth 20000 in
theorem gX9_right_X9_refuse : GoodIn wsX9_right (wsV RX9 122 RX9 yX9_refuse wsX9_refuse) := goodIn_app (goodIn_of _ (by decide +kernel)) ggX9_right_X9_refuse
set_option maxRecDepth 20000 in
theorem ggX9_right_X9_adds : GoodIn wsX9_right wsX9_adds := goodIn_r _ [18, 19, 5, 20, 21, 22, 4, 23, 24, 25, 26, 27, 28, 29, 30, 31, 32, 33, 34, 35, 36, 37, 38, 39, 40, 41, 42, 43, 44, 45, 46, 47, 48, 49, 50, 51, 52, 53, 54, 55, 56, 57, 58, 59, 60, 61, 62, 63, 64, 65, 66, 67, 68, 69, 70, 71, 72, 73, 74, 75, 76, 77] (by decide +kernel) (by decide +kernel)
set_option maxRecDepth 20000 in
theorem gX9_right_X9_adds : GoodIn wsX9_right (wsV RX9 151 RX9 yX9_adds wsX9_adds) := goodIn_app (goodIn_of _ (by decide +kernel)) ggX9_right_X9_adds
set_option maxRecDepth 20000 in
theorem ggX9_lend_X9_isIn : GoodIn wsX9_lend wsX9_isIn := goodIn_r _ [9] (by decide +kernel) (by decide +kernel)
set_option maxRecDepth 20000 in
theorem gX9_lend_X9_isIn : GoodIn wsX9_lend (va_wsS RX9 134 yX9_isIn wsX9_isIn) := goodIn_app (goodIn_of _ (by decide +kernel)) ggX9_lend_X9_isIn
set_option maxRecDepth 20000 in
theorem ggX9_lend_X9_ownerOfRight : GoodIn wsX9_lend wsX9_ownerOfRight := goodIn_r _ [13, 3, 14, 15, 39, 40, 41, 42, 43, 44, 45, 46, 47, 48, 49, 50, 51, 52, 53, 54, 55, 56, 57, 58, 59, 60, 61, 62, 63, 64, 65, 66, 67, 68, 69, 70, 71, 72, 73, 74, 75, 76, 77, 78, 79, 80, 81, 82, 83, 84, 85, 86, 87, 88, 89] (by decide +kernel) (by decide +kernel)
set_option maxRecDepth 20000 in
theorem gX9_lend_X9_ownerOfRight : GoodIn wsX9_lend (wsV RX9 155 RX9 yX9_ownerOfRight wsX9_ownerOfRight) := goodIn_app (goodIn_of _ (by decide +kernel)) ggX9_lend_X9_ownerOfRight
set_option maxRecDepth 20000 in
theorem ggX9_lend_X9_refuse : GoodIn wsX9_lend wsX9_refuse := goodIn_r _ [19, 20, 39, 40, 41, 42, 43, 44, 45, 46, 47, 48, 49, 50, 51, 52, 53, 54, 55, 56, 57, 58, 59, 60, 61, 62, 63, 64, 65, 66, 67, 68, 69, 70, 71, 72, 73, 74, 75, 76, 77, 78, 79, 80, 81, 82, 83, 84, 85, 86, 87, 88, 89] (by decide +kernel) (by decide +kernel)
set_option maxRecDepth 20000 in
theorem gX9_lend_X9_refuse : GoodIn wsX9_lend (wsV RX9 122 RX9 yX9_refuse wsX9_refuse) := goodIn_app (goodIn_of _ (by decide +kernel)) ggX9_lend_X9_refuse
set_option maxRecDepth 20000 in
theorem ggX9_lend_X9_isInForce : GoodIn wsX9_lend wsX9_isInForce := goodIn_r _ [24, 25, 26, 4, 5, 39, 40, 41, 42, 43, 44, 45, 46, 47, 48, 49, 50, 51, 52, 53, 54, 55, 56, 57, 58, 59, 60, 61, 62, 63, 64, 65, 66, 67, 68, 69, 70, 71, 72, 73, 74, 75, 76, 77, 78, 79, 80, 81, 82, 83, 84, 85, 86, 87, 88, 89] (by decide +kernel) (by decide +kernel)
set_option maxRecDepth 20000 in
theorem gX9_lend_X9_isInForce : GoodIn wsX9_lend (wsV RX9 144 RX9 yX9_isInForce wsX9_isInForce) := goodIn_app (goodIn_of _ (by decide +kernel)) ggX9_lend_X9_isInForce
set_option maxRecDepth 20000 in
theorem ggX9_lend_X9_partsOf : GoodIn wsX9_lend wsX9_partsOf := goodIn_r _ [30, 31, 1, 32, 21, 22, 23, 8, 24, 25, 26, 4, 5, 39, 40, 41, 42, 43, 44, 45, 46, 47, 48, 49, 50, 51, 52, 53, 54, 55, 56, 57, 58, 59, 60, 61, 62, 63, 64, 65, 66, 67, 68, 69, 70, 71, 72, 73, 74, 75, 76, 77, 78, 79, 80, 81, 82, 83, 84, 85, 86, 87, 88, 89] (by decide +kernel) (by decide +kernel)
set_option maxRecDepth 20000 in
theorem gX9_lend_X9_partsOf : GoodIn wsX9_lend (wsV RX9 158 RX9 yX9_partsOf wsX9_partsOf) := goodIn_app (goodIn_of _ (by decide +kernel)) ggX9_lend_X9_partsOf
set_option maxRecDepth 20000 in
theorem ggX9_lend_X9_adds : GoodIn wsX9_lend wsX9_adds := goodIn_r _ [36, 3, 1, 15, 31, 26, 4, 5, 37, 32, 38, 39, 40, 41, 42, 43, 44, 45, 46, 47, 48, 49, 50, 51, 52, 53, 54, 55, 56, 57, 58, 59, 60, 61, 62, 63, 64, 65, 66, 67, 68, 69, 70, 71, 72, 73, 74, 75, 76, 77, 78, 79, 80, 81, 82, 83, 84, 85, 86, 87, 88, 89] (by decide +kernel) (by decide +kernel)
set_option maxRecDepth 20000 in
theorem gX9_lend_X9_adds : GoodIn wsX9_lend (wsV RX9 151 RX9 yX9_adds wsX9_adds) := goodIn_app (goodIn_of _ (by decide +kernel)) ggX9_lend_X9_adds
set_option maxRecDepth 20000 in
theorem ggX9_sell_X9_isIn : GoodIn wsX9_sell wsX9_isIn := goodIn_r _ [8] (by decide +kernel) (by decide +kernel)
set_option maxRecDepth 20000 in
theorem gX9_sell_X9_isIn : GoodIn wsX9_sell (va_wsS RX9 134 yX9_isIn wsX9_isIn) := goodIn_app (goodIn_of _ (by decide +kernel)) ggX9_sell_X9_isIn
set_option maxRecDepth 20000 in
theorem ggX9_sell_X9_ownerOfRight : GoodIn wsX9_sell wsX9_ownerOfRight := goodIn_r _ [12, 3, 13, 4, 27, 28, 29, 30, 31, 32, 33, 34, 35, 36, 37, 38, 39, 40, 41, 42, 43, 44, 45, 46, 47, 48, 49, 50, 51, 52, 53, 54, 55, 56, 57, 58, 59, 60, 61, 62, 63, 64, 65, 66, 67, 68, 69, 70, 71, 72, 73, 74, 75, 76, 77] (by decide +kernel) (by decide +kernel)
set_option maxRecDepth 20000 in
theorem gX9_sell_X9_ownerOfRight : GoodIn wsX9_sell (wsV RX9 155 RX9 yX9_ownerOfRight wsX9_ownerOfRight) := goodIn_app (goodIn_of _ (by decide +kernel)) ggX9_sell_X9_ownerOfRight
set_option maxRecDepth 20000 in
theorem ggX9_sell_X9_refuse : GoodIn wsX9_sell wsX9_refuse := goodIn_r _ [17, 18, 27, 28, 29, 30, 31, 32, 33, 34, 35, 36, 37, 38, 39, 40, 41, 42, 43, 44, 45, 46, 47, 48, 49, 50, 51, 52, 53, 54, 55, 56, 57, 58, 59, 60, 61, 62, 63, 64, 65, 66, 67, 68, 69, 70, 71, 72, 73, 74, 75, 76, 77] (by decide +kernel) (by decide +kernel)
set_option maxRecDepth 20000 in
theorem gX9_sell_X9_refuse : GoodIn wsX9_sell (wsV RX9 122 RX9 yX9_refuse wsX9_refuse) := goodIn_app (goodIn_of _ (by decide +kernel)) ggX9_sell_X9_refuse
set_option maxRecDepth 20000 in
theorem ggX9_sell_X9_isInForce : GoodIn wsX9_sell wsX9_isInForce := goodIn_r _ [22, 23, 24, 25, 26, 27, 28, 29, 30, 31, 32, 33, 34, 35, 36, 37, 38, 39, 40, 41, 42, 43, 44, 45, 46, 47, 48, 49, 50, 51, 52, 53, 54, 55, 56, 57, 58, 59, 60, 61, 62, 63, 64, 65, 66, 67, 68, 69, 70, 71, 72, 73, 74, 75, 76, 77] (by decide +kernel) (by decide +kernel)
set_option maxRecDepth 20000 in
theorem gX9_sell_X9_isInForce : GoodIn wsX9_sell (wsV RX9 144 RX9 yX9_isInForce wsX9_isInForce) := goodIn_app (goodIn_of _ (by decide +kernel)) ggX9_sell_X9_isInForce
set_option maxRecDepth 20000 in
theorem ggX9_move_X9_isIn : GoodIn wsX9_move wsX9_isIn := goodIn_r _ [7] (by decide +kernel) (by decide +kernel)
set_option maxRecDepth 20000 in
theorem gX9_move_X9_isIn : GoodIn wsX9_move (va_wsS RX9 134 yX9_isIn wsX9_isIn) := goodIn_app (goodIn_of _ (by decide +kernel)) ggX9_move_X9_isIn
set_option maxRecDepth 20000 in
theorem ggX9_move_X9_refuse : GoodIn wsX9_move wsX9_refuse := goodIn_r _ [11, 12, 13, 14, 15, 16, 17, 18, 19, 20, 21, 22, 23, 24, 25, 26, 27, 28, 29, 30, 31, 32, 33, 34, 35, 36, 37, 38, 39, 40, 41, 42, 43, 44, 45, 46, 47, 48, 49, 50, 51, 52, 53, 54, 55, 56, 57, 58, 59, 60, 61, 62, 63] (by decide +kernel) (by decide +kernel)
set_option maxRecDepth 20000 in
theorem gX9_move_X9_refuse : GoodIn wsX9_move (wsV RX9 122 RX9 yX9_refuse wsX9_refuse) := goodIn_app (goodIn_of _ (by decide +kernel)) ggX9_move_X9_refuse
set_option maxRecDepth 20000 in
theorem ggX9_partsOfHerd_X9_partsOfSort : GoodIn wsX9_partsOfHerd wsX9_partsOfSort := goodIn_r _ [6] (by decide +kernel) (by decide +kernel)
set_option maxRecDepth 20000 in
theorem gX9_partsOfHerd_X9_partsOfSort : GoodIn wsX9_partsOfHerd (va_wsS RX9 161 yX9_partsOfSort wsX9_partsOfSort) := goodIn_app (goodIn_of _ (by decide +kernel)) ggX9_partsOfHerd_X9_partsOfSort
set_option maxRecDepth 20000 in
theorem ggX9_herd_X9_isIn : GoodIn wsX9_herd wsX9_isIn := goodIn_r _ [10] (by decide +kernel) (by decide +kernel)
set_option maxRecDepth 20000 in
theorem gX9_herd_X9_isIn : GoodIn wsX9_herd (va_wsS RX9 134 yX9_isIn wsX9_isIn) := goodIn_app (goodIn_of _ (by decide +kernel)) ggX9_herd_X9_isIn
set_option maxRecDepth 20000 in
theorem ggX9_herd_X9_refuse : GoodIn wsX9_herd wsX9_refuse := goodIn_r _ [14, 15, 16, 17, 18, 19, 20, 21, 22, 23, 24, 25, 26, 27, 28, 29, 30, 31, 32, 33, 34, 35, 36, 37, 38, 39, 40, 41, 42, 43, 44, 45, 46, 47, 48, 49, 50, 51, 52, 53, 54, 55, 56, 57, 58, 59, 60, 61, 62, 63, 64, 65, 66] (by decide +kernel) (by decide +kernel)
set_option maxRecDepth 20000 in
theorem gX9_herd_X9_refuse : GoodIn wsX9_herd (wsV RX9 122 RX9 yX9_refuse wsX9_refuse) := goodIn_app (goodIn_of _ (by decide +kernel)) ggX9_herd_X9_refuse
set_option maxRecDepth 20000 in
theorem ggX9_lacksOf_X9_ownerOfRight : GoodIn wsX9_lacksOf wsX9_ownerOfRight := goodIn_r _ [20, 3, 21, 22, 50, 51, 52, 53, 54, 55, 56, 57, 58, 59, 60, 61, 62, 63, 64, 65, 66, 67, 68, 69, 70, 71, 72, 73, 74, 75, 76, 77, 78, 79, 80, 81, 82, 83, 84, 85, 86, 87, 88, 89, 90, 91, 92, 93, 94, 95, 96, 97, 98, 99, 100] (by decide +kernel) (by decide +kernel)
set_option maxRecDepth 20000 in
theorem gX9_lacksOf_X9_ownerOfRight : GoodIn wsX9_lacksOf (wsV RX9 155 RX9 yX9_ownerOfRight wsX9_ownerOfRight) := goodIn_app (goodIn_of _ (by decide +kernel)) ggX9_lacksOf_X9_ownerOfRight
set_option maxRecDepth 20000 in
theorem ggX9_lacksOf_X9_partsOf : GoodIn wsX9_lacksOf wsX9_partsOf := goodIn_r _ [26, 27, 2, 28, 29, 30, 31, 19, 32, 33, 34, 35, 36, 50, 51, 52, 53, 54, 55, 56, 57, 58, 59, 60, 61, 62, 63, 64, 65, 66, 67, 68, 69, 70, 71, 72, 73, 74, 75, 76, 77, 78, 79, 80, 81, 82, 83, 84, 85, 86, 87, 88, 89, 90, 91, 92, 93, 94, 95, 96, 97, 98, 99, 100] (by decide +kernel) (by decide +kernel)
set_option maxRecDepth 20000 in
theorem gX9_lacksOf_X9_partsOf : GoodIn wsX9_lacksOf (wsV RX9 158 RX9 yX9_partsOf wsX9_partsOf) := goodIn_app (goodIn_of _ (by decide +kernel)) ggX9_lacksOf_X9_partsOf
set_option maxRecDepth 20000 in
theorem ggX9_lacksOf_X9_isOut : GoodIn wsX9_lacksOf wsX9_isOut := goodIn_r _ [40, 41, 7, 50, 51, 52, 53, 54, 55, 56, 57, 58, 59, 60, 61, 62, 63, 64, 65, 66, 67, 68, 69, 70, 71, 72, 73, 74, 75, 76, 77, 78, 79, 80, 81, 82, 83, 84, 85, 86, 87, 88, 89, 90, 91, 92, 93, 94, 95, 96, 97, 98, 99, 100] (by decide +kernel) (by decide +kernel)
set_option maxRecDepth 20000 in
theorem gX9_lacksOf_X9_isOut : GoodIn wsX9_lacksOf (wsV RX9 167 RX9 yX9_isOut wsX9_isOut) := goodIn_app (goodIn_of _ (by decide +kernel)) ggX9_lacksOf_X9_isOut
set_option maxRecDepth 20000 in
theorem ggX9_lacksOf_X9_partsOfHerd : GoodIn wsX9_lacksOf wsX9_partsOfHerd := goodIn_r _ [45, 46, 8, 47, 48, 19, 49, 50, 51, 52, 53, 54, 55, 56, 57, 58, 59, 60, 61, 62, 63, 64, 65, 66, 67, 68, 69, 70, 71, 72, 73, 74, 75, 76, 77, 78, 79, 80, 81, 82, 83, 84, 85, 86, 87, 88, 89, 90, 91, 92, 93, 94, 95, 96, 97, 98, 99, 100] (by decide +kernel) (by decide +kernel)
set_option maxRecDepth 20000 in
theorem gX9_lacksOf_X9_partsOfHerd : GoodIn wsX9_lacksOf (wsV RX9 170 RX9 yX9_partsOfHerd wsX9_partsOfHerd) := goodIn_app (goodIn_of _ (by decide +kernel)) ggX9_lacksOf_X9_partsOfHerd
set_option maxRecDepth 20000 in
theorem ggX9_put_X9_isIn : GoodIn wsX9_put wsX9_isIn := goodIn_r _ [11] (by decide +kernel) (by decide +kernel)
set_option maxRecDepth 20000 in
theorem gX9_put_X9_isIn : GoodIn wsX9_put (va_wsS RX9 134 yX9_isIn wsX9_isIn) := goodIn_app (goodIn_of _ (by decide +kernel)) ggX9_put_X9_isIn
set_option maxRecDepth 20000 in
theorem ggX9_put_X9_refuse : GoodIn wsX9_put wsX9_refuse := goodIn_r _ [15, 16, 69, 70, 71, 72, 73, 74, 75, 76, 77, 78, 79, 80, 81, 82, 83, 84, 85, 86, 87, 88, 89, 90, 91, 92, 93, 94, 95, 96, 97, 98, 99, 100, 101, 102, 103, 104, 105, 106, 107, 108, 109, 110, 111, 112, 113, 114, 115, 116, 117, 118, 119] (by decide +kernel) (by decide +kernel)
set_option maxRecDepth 20000 in
theorem gX9_put_X9_refuse : GoodIn wsX9_put (wsV RX9 122 RX9 yX9_refuse wsX9_refuse) := goodIn_app (goodIn_of _ (by decide +kernel)) ggX9_put_X9_refuse
set_option maxRecDepth 20000 in
theorem ggX9_put_X9_rests : GoodIn wsX9_put wsX9_rests := goodIn_r _ [20, 21, 22, 69, 70, 71, 72, 73, 74, 75, 76, 77, 78, 79, 80, 81, 82, 83, 84, 85, 86, 87, 88, 89, 90, 91, 92, 93, 94, 95, 96, 97, 98, 99, 100, 101, 102, 103, 104, 105, 106, 107, 108, 109, 110, 111, 112, 113, 114, 115, 116, 117, 118, 119] (by decide +kernel) (by decide +kernel)
set_option maxRecDepth 20000 in
theorem gX9_put_X9_rests : GoodIn wsX9_put (wsV RX9 182 RX9 yX9_rests wsX9_rests) := goodIn_app (goodIn_of _ (by decide +kernel)) ggX9_put_X9_rests
set_option maxRecDepth 20000 in
theorem ggX9_put_X9_lacksOf : GoodIn wsX9_put wsX9_lacksOf := goodIn_r _ [26, 2, 27, 28, 29, 1, 5, 4, 30, 31, 32, 33, 34, 35, 36, 37, 38, 39, 40, 10, 41, 42, 43, 44, 45, 46, 47, 48, 49, 50, 51, 52, 53, 54, 55, 21, 56, 57, 58, 59, 60, 3, 61, 62, 63, 64, 65, 66, 67, 68, 69, 70, 71, 72, 73, 74, 75, 76, 77, 78, 79, 80, 81, 82, 83, 84, 85, 86, 87, 88, 89, 90, 91, 92, 93, 94, 95, 96, 97, 98, 99, 100, 101, 102, 103, 104, 105, 106, 107, 108, 109, 110, 111, 112, 113, 114, 115, 116, 117, 118, 119] (by decide +kernel) (by decide +kernel)
set_option maxRecDepth 20000 in
theorem gX9_put_X9_lacksOf : GoodIn wsX9_put (wsV RX9 185 RX9 yX9_lacksOf wsX9_lacksOf) := goodIn_app (goodIn_of _ (by decide +kernel)) ggX9_put_X9_lacksOf
set_option maxRecDepth 20000 in
theorem ggX9_drive_X9_isIn : GoodIn wsX9_drive wsX9_isIn := goodIn_r _ [10] (by decide +kernel) (by decide +kernel)
set_option maxRecDepth 20000 in
theorem gX9_drive_X9_isIn : GoodIn wsX9_drive (va_wsS RX9 134 yX9_isIn wsX9_isIn) := goodIn_app (goodIn_of _ (by decide +kernel)) ggX9_drive_X9_isIn
set_option maxRecDepth 20000 in
theorem ggX9_drive_X9_refuse : GoodIn wsX9_drive wsX9_refuse := goodIn_r _ [14, 15, 22, 23, 24, 25, 26, 27, 28, 29, 30, 31, 32, 33, 34, 35, 36, 37, 38, 39, 40, 41, 42, 43, 44, 45, 46, 47, 48, 49, 50, 51, 52, 53, 54, 55, 56, 57, 58, 59, 60, 61, 62, 63, 64, 65, 66, 67, 68, 69, 70, 71, 72] (by decide +kernel) (by decide +kernel)
set_option maxRecDepth 20000 in
theorem gX9_drive_X9_refuse : GoodIn wsX9_drive (wsV RX9 122 RX9 yX9_refuse wsX9_refuse) := goodIn_app (goodIn_of _ (by decide +kernel)) ggX9_drive_X9_refuse
set_option maxRecDepth 20000 in
theorem ggX9_drive_X9_rests : GoodIn wsX9_drive wsX9_rests := goodIn_r _ [19, 20, 21, 22, 23, 24, 25, 26, 27, 28, 29, 30, 31, 32, 33, 34, 35, 36, 37, 38, 39, 40, 41, 42, 43, 44, 45, 46, 47, 48, 49, 50, 51, 52, 53, 54, 55, 56, 57, 58, 59, 60, 61, 62, 63, 64, 65, 66, 67, 68, 69, 70, 71, 72] (by decide +kernel) (by decide +kernel)
set_option maxRecDepth 20000 in
theorem gX9_drive_X9_rests : GoodIn wsX9_drive (wsV RX9 182 RX9 yX9_rests wsX9_rests) := goodIn_app (goodIn_of _ (by decide +kernel)) ggX9_drive_X9_rests
set_option maxRecDepth 20000 in
theorem ggX9_covered_X9_isIn : GoodIn wsX9_covered wsX9_isIn := goodIn_r _ [5] (by decide +kernel) (by decide +kernel)
set_option maxRecDepth 20000 in
theorem gX9_covered_X9_isIn : GoodIn wsX9_covered (va_wsS RX9 134 yX9_isIn wsX9_isIn) := goodIn_app (goodIn_of _ (by decide +kernel)) ggX9_covered_X9_isIn
set_option maxRecDepth 20000 in
theorem ggX9_covered_X9_lacksOf : GoodIn wsX9_covered wsX9_lacksOf := goodIn_r _ [9, 10, 11, 12, 13, 14, 15, 16, 17, 18, 19, 20, 21, 22, 23, 24, 25, 26, 27, 4, 28, 29, 30, 31, 32, 33, 34, 35, 36, 37, 38, 39, 40, 41, 42, 43, 44, 45, 46, 47, 48, 49, 50, 51, 52, 53, 54, 55, 56, 57, 63, 64, 65, 66, 67, 68, 69, 70, 71, 72, 73, 74, 75, 76, 77, 78, 79, 80, 81, 82, 83, 84, 85, 86, 87, 88, 89, 90, 91, 92, 93, 94, 95, 96, 97, 98, 99, 100, 101, 102, 103, 104, 105, 106, 107, 108, 109, 110, 111, 112, 113] (by decide +kernel) (by decide +kernel)
set_option maxRecDepth 20000 in
theorem gX9_covered_X9_lacksOf : GoodIn wsX9_covered (wsV RX9 185 RX9 yX9_lacksOf wsX9_lacksOf) := goodIn_app (goodIn_of _ (by decide +kernel)) ggX9_covered_X9_lacksOf
set_option maxRecDepth 20000 in
theorem ggX9_covered_X9_refuse : GoodIn wsX9_covered wsX9_refuse := goodIn_r _ [61, 62, 63, 64, 65, 66, 67, 68, 69, 70, 71, 72, 73, 74, 75, 76, 77, 78, 79, 80, 81, 82, 83, 84, 85, 86, 87, 88, 89, 90, 91, 92, 93, 94, 95, 96, 97, 98, 99, 100, 101, 102, 103, 104, 105, 106, 107, 108, 109, 110, 111, 112, 113] (by decide +kernel) (by decide +kernel)
set_option maxRecDepth 20000 in
theorem gX9_covered_X9_refuse : GoodIn wsX9_covered (wsV RX9 122 RX9 yX9_refuse wsX9_refuse) := goodIn_app (goodIn_of _ (by decide +kernel)) ggX9_covered_X9_refuse
set_option maxRecDepth 20000 in
theorem ggX9_lacks_X9_isIn : GoodIn wsX9_lacks wsX9_isIn := goodIn_r _ [5] (by decide +kernel) (by decide +kernel)
set_option maxRecDepth 20000 in
theorem gX9_lacks_X9_isIn : GoodIn wsX9_lacks (va_wsS RX9 134 yX9_isIn wsX9_isIn) := goodIn_app (goodIn_of _ (by decide +kernel)) ggX9_lacks_X9_isIn
