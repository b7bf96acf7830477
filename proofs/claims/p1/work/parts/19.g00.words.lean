set_option maxRecDepth 20000 in
theorem ggX9_piece_X9_refuse : GoodIn wsX9_piece wsX9_refuse := goodIn_r _ [12, 13, 14, 15, 16, 17, 18, 19, 20, 21, 22, 23, 24, 25, 26, 27, 28, 29, 30, 31, 32, 33, 34, 35, 36, 37, 38, 39, 40, 41, 42, 43, 44, 45, 46, 47, 48, 49, 50, 51, 52, 53, 54, 55, 56, 57, 58, 59, 60, 61, 62, 63, 64] (by decide +kernel) (by decide +kernel)
set_option maxRecDepth 20000 in
theorem gX9_piece_X9_refuse : GoodIn wsX9_piece (wsV RX9 122 RX9 yX9_refuse wsX9_refuse) := goodIn_app (goodIn_of _ (by decide +kernel)) ggX9_piece_X9_refuse
set_option maxRecDepth 20000 in
theorem ggX9_owner_X9_refuse : GoodIn wsX9_owner wsX9_refuse := goodIn_r _ [8, 9, 10, 11, 12, 13, 14, 15, 16, 17, 18, 19, 20, 21, 22, 23, 24, 25, 26, 27, 28, 29, 30, 31, 32, 33, 34, 35, 36, 37, 38, 39, 40, 41, 42, 43, 44, 45, 46, 47, 48, 49, 50, 51, 52, 53, 54, 55, 56, 57, 58, 59, 60] (by decide +kernel) (by decide +kernel)
set_option maxRecDepth 20000 in
theorem gX9_owner_X9_refuse : GoodIn wsX9_owner (wsV RX9 122 RX9 yX9_refuse wsX9_refuse) := goodIn_app (goodIn_of _ (by decide +kernel)) ggX9_owner_X9_refuse
set_option maxRecDepth 20000 in
theorem ggX9_house_X9_isIn : GoodIn wsX9_house wsX9_isIn := goodIn_r _ [7] (by decide +kernel) (by decide +kernel)
set_option maxRecDepth 20000 in
theorem gX9_house_X9_isIn : GoodIn wsX9_house (va_wsS RX9 134 yX9_isIn wsX9_isIn) := goodIn_app (goodIn_of _ (by decide +kernel)) ggX9_house_X9_isIn
set_option maxRecDepth 20000 in
theorem ggX9_house_X9_refuse : GoodIn wsX9_house wsX9_refuse := goodIn_r _ [11, 12, 13, 14, 15, 16, 17, 18, 19, 20, 21, 22, 23, 24, 25, 26, 27, 28, 29, 30, 31, 32, 33, 34, 35, 36, 37, 38, 39, 40, 41, 42, 43, 44, 45, 46, 47, 48, 49, 50, 51, 52, 53, 54, 55, 56, 57, 58, 59, 60, 61, 62, 63] (by decide +kernel) (by decide +kernel)
set_option maxRecDepth 20000 in
theorem gX9_house_X9_refuse : GoodIn wsX9_house (wsV RX9 122 RX9 yX9_refuse wsX9_refuse) := goodIn_app (goodIn_of _ (by decide +kernel)) ggX9_house_X9_refuse
set_option maxRecDepth 20000 in
theorem ggX9_rate_X9_isIn : GoodIn wsX9_rate wsX9_isIn := goodIn_r _ [5] (by decide +kernel) (by decide +kernel)
set_option maxRecDepth 20000 in
theorem gX9_rate_X9_isIn : GoodIn wsX9_rate (va_wsS RX9 134 yX9_isIn wsX9_isIn) := goodIn_app (goodIn_of _ (by decide +kernel)) ggX9_rate_X9_isIn
set_option maxRecDepth 20000 in
theorem ggX9_rate_X9_refuse : GoodIn wsX9_rate wsX9_refuse := goodIn_r _ [9, 10, 11, 12, 13, 14, 15, 16, 17, 18, 19, 20, 21, 22, 23, 24, 25, 26, 27, 28, 29, 30, 31, 32, 33, 34, 35, 36, 37, 38, 39, 40, 41, 42, 43, 44, 45, 46, 47, 48, 49, 50, 51, 52, 53, 54, 55, 56, 57, 58, 59, 60, 61] (by decide +kernel) (by decide +kernel)
set_option maxRecDepth 20000 in
theorem gX9_rate_X9_refuse : GoodIn wsX9_rate (wsV RX9 122 RX9 yX9_refuse wsX9_refuse) := goodIn_app (goodIn_of _ (by decide +kernel)) ggX9_rate_X9_refuse
set_option maxRecDepth 20000 in
theorem ggX9_weather_X9_isIn : GoodIn wsX9_weather wsX9_isIn := goodIn_r _ [6] (by decide +kernel) (by decide +kernel)
set_option maxRecDepth 20000 in
theorem gX9_weather_X9_isIn : GoodIn wsX9_weather (va_wsS RX9 134 yX9_isIn wsX9_isIn) := goodIn_app (goodIn_of _ (by decide +kernel)) ggX9_weather_X9_isIn
set_option maxRecDepth 20000 in
theorem ggX9_weather_X9_refuse : GoodIn wsX9_weather wsX9_refuse := goodIn_r _ [10, 11, 12, 13, 14, 15, 16, 17, 18, 19, 20, 21, 22, 23, 24, 25, 26, 27, 28, 29, 30, 31, 32, 33, 34, 35, 36, 37, 38, 39, 40, 41, 42, 43, 44, 45, 46, 47, 48, 49, 50, 51, 52, 53, 54, 55, 56, 57, 58, 59, 60, 61, 62] (by decide +kernel) (by decide +kernel)
set_option maxRecDepth 20000 in
theorem gX9_weather_X9_refuse : GoodIn wsX9_weather (wsV RX9 122 RX9 yX9_refuse wsX9_refuse) := goodIn_app (goodIn_of _ (by decide +kernel)) ggX9_weather_X9_refuse
set_option maxRecDepth 20000 in
theorem ggX9_right_X9_isIn : GoodIn wsX9_right wsX9_isIn := goodIn_r _ [9] (by decide +kernel) (by decide +kernel)
set_option maxRecDepth 20000 in
theorem gX9_right_X9_isIn : GoodIn wsX9_right (va_wsS RX9 134 yX9_isIn wsX9_isIn) := goodIn_app (goodIn_of _ (by decide +kernel)) ggX9_right_X9_isIn
set_option maxRecDepth 20000 in
theorem ggX9_right_X9_refuse : GoodIn wsX9_right wsX9_refuse := goodIn_r _ [13, 14, 27, 28, 29, 30, 31, 32, 33, 34, 35, 36, 37, 38, 39, 40, 41, 42, 43, 44, 45, 46, 47, 48, 49, 50, 51, 52, 53, 54, 55, 56, 57, 58, 59, 60, 61, 62, 63, 64, 65, 66, 67, 68, 69, 70, 71, 72, 73, 74, 75, 76, 77] (by decide +kernel) (by decide +kernel)
set_option maxRecDepth 20000 in
theorem gX9_right_X9_refuse : GoodIn wsX9_right (wsV RX9 122 RX9 yX9_refuse wsX9_refuse) := goodIn_app (goodIn_of _ (by decide +kernel)) ggX9_right_X9_refuse
set_option maxRecDepth 20000 in
theorem ggX9_lend_X9_isIn : GoodIn wsX9_lend wsX9_isIn := goodIn_r _ [9] (by decide +kernel) (by decide +kernel)
set_option maxRecDepth 20000 in
theorem gX9_lend_X9_isIn : GoodIn wsX9_lend (va_wsS RX9 134 yX9_isIn wsX9_isIn) := goodIn_app (goodIn_of _ (by decide +kernel)) ggX9_lend_X9_isIn
set_option maxRecDepth 20000 in
theorem ggX9_lend_X9_refuse : GoodIn wsX9_lend wsX9_refuse := goodIn_r _ [19, 20, 39, 40, 41, 42, 43, 44, 45, 46, 47, 48, 49, 50, 51, 52, 53, 54, 55, 56, 57, 58, 59, 60, 61, 62, 63, 64, 65, 66, 67, 68, 69, 70, 71, 72, 73, 74, 75, 76, 77, 78, 79, 80, 81, 82, 83, 84, 85, 86, 87, 88, 89] (by decide +kernel) (by decide +kernel)
set_option maxRecDepth 20000 in
theorem gX9_lend_X9_refuse : GoodIn wsX9_lend (wsV RX9 122 RX9 yX9_refuse wsX9_refuse) := goodIn_app (goodIn_of _ (by decide +kernel)) ggX9_lend_X9_refuse
set_option maxRecDepth 20000 in
theorem ggX9_sell_X9_isIn : GoodIn wsX9_sell wsX9_isIn := goodIn_r _ [8] (by decide +kernel) (by decide +kernel)
set_option maxRecDepth 20000 in
theorem gX9_sell_X9_isIn : GoodIn wsX9_sell (va_wsS RX9 134 yX9_isIn wsX9_isIn) := goodIn_app (goodIn_of _ (by decide +kernel)) ggX9_sell_X9_isIn
set_option maxRecDepth 20000 in
theorem ggX9_sell_X9_refuse : GoodIn wsX9_sell wsX9_refuse := goodIn_r _ [17, 18, 27, 28, 29, 30, 31, 32, 33, 34, 35, 36, 37, 38, 39, 40, 41, 42, 43, 44, 45, 46, 47, 48, 49, 50, 51, 52, 53, 54, 55, 56, 57, 58, 59, 60, 61, 62, 63, 64, 65, 66, 67, 68, 69, 70, 71, 72, 73, 74, 75, 76, 77] (by decide +kernel) (by decide +kernel)
set_option maxRecDepth 20000 in
theorem gX9_sell_X9_refuse : GoodIn wsX9_sell (wsV RX9 122 RX9 yX9_refuse wsX9_refuse) := goodIn_app (goodIn_of _ (by decide +kernel)) ggX9_sell_X9_refuse
set_option maxRecDepth 20000 in
theorem ggX9_move_X9_isIn : GoodIn wsX9_move wsX9_isIn := goodIn_r _ [7] (by decide +kernel) (by decide +kernel)
set_option maxRecDepth 20000 in
theorem gX9_move_X9_isIn : GoodIn wsX9_move (va_wsS RX9 134 yX9_isIn wsX9_isIn) := goodIn_app (goodIn_of _ (by decide +kernel)) ggX9_move_X9_isIn
set_option maxRecDepth 20000 in
theorem ggX9_move_X9_refuse : GoodIn wsX9_move wsX9_refuse := goodIn_r _ [11, 12, 13, 14, 15, 16, 17, 18, 19, 20, 21, 22, 23, 24, 25, 26, 27, 28, 29, 30, 31, 32, 33, 34, 35, 36, 37, 38, 39, 40, 41, 42, 43, 44, 45, 46, 47, 48, 49, 50, 51, 52, 53, 54, 55, 56, 57, 58, 59, 60, 61, 62, 63] (by decide +kernel) (by decide +kernel)
set_option maxRecDepth 20000 in
theorem gX9_move_X9_refuse : GoodIn wsX9_move (wsV RX9 122 RX9 yX9_refuse wsX9_refuse) := goodIn_app (goodIn_of _ (by decide +kernel)) ggX9_move_X9_refuse
set_option maxRecDepth 20000 in
theorem ggX9_herd_X9_isIn : GoodIn wsX9_herd wsX9_isIn := goodIn_r _ [10] (by decide +kernel) (by decide +kernel)
set_option maxRecDepth 20000 in
theorem gX9_herd_X9_isIn : GoodIn wsX9_herd (va_wsS RX9 134 yX9_isIn wsX9_isIn) := goodIn_app (goodIn_of _ (by decide +kernel)) ggX9_herd_X9_isIn
set_option maxRecDepth 20000 in
theorem ggX9_herd_X9_refuse : GoodIn wsX9_herd wsX9_refuse := goodIn_r _ [14, 15, 16, 17, 18, 19, 20, 21, 22, 23, 24, 25, 26, 27, 28, 29, 30, 31, 32, 33, 34, 35, 36, 37, 38, 39, 40, 41, 42, 43, 44, 45, 46, 47, 48, 49, 50, 51, 52, 53, 54, 55, 56, 57, 58, 59, 60, 61, 62, 63, 64, 65, 66] (by decide +kernel) (by decide +kernel)
set_option maxRecDepth 20000 in
theorem gX9_herd_X9_refuse : GoodIn wsX9_herd (wsV RX9 122 RX9 yX9_refuse wsX9_refuse) := goodIn_app (goodIn_of _ (by decide +kernel)) ggX9_herd_X9_refuse
set_option maxRecDepth 20000 in
theorem ggX9_put_X9_isIn : GoodIn wsX9_put wsX9_isIn := goodIn_r _ [11] (by decide +kernel) (by decide +kernel)
set_option maxRecDepth 20000 in
theorem gX9_put_X9_isIn : GoodIn wsX9_put (va_wsS RX9 134 yX9_isIn wsX9_isIn) := goodIn_app (goodIn_of _ (by decide +kernel)) ggX9_put_X9_isIn
set_option maxRecDepth 20000 in
theorem ggX9_put_X9_refuse : GoodIn wsX9_put wsX9_refuse := goodIn_r _ [15, 16, 69, 70, 71, 72, 73, 74, 75, 76, 77, 78, 79, 80, 81, 82, 83, 84, 85, 86, 87, 88, 89, 90, 91, 92, 93, 94, 95, 96, 97, 98, 99, 100, 101, 102, 103, 104, 105, 106, 107, 108, 109, 110, 111, 112, 113, 114, 115, 116, 117, 118, 119] (by decide +kernel) (by decide +kernel)
set_option maxRecDepth 20000 in
theorem gX9_put_X9_refuse : GoodIn wsX9_put (wsV RX9 122 RX9 yX9_refuse wsX9_refuse) := goodIn_app (goodIn_of _ (by decide +kernel)) ggX9_put_X9_refuse
set_option maxRecDepth 20000 in
theorem ggX9_drive_X9_isIn : GoodIn wsX9_drive wsX9_isIn := goodIn_r _ [10] (by decide +kernel) (by decide +kernel)
set_option maxRecDepth 20000 in
theorem gX9_drive_X9_isIn : GoodIn wsX9_drive (va_wsS RX9 134 yX9_isIn wsX9_isIn) := goodIn_app (goodIn_of _ (by decide +kernel)) ggX9_drive_X9_isIn
set_option maxRecDepth 20000 in
theorem ggX9_drive_X9_refuse : GoodIn wsX9_drive wsX9_refuse := goodIn_r _ [14, 15, 22, 23, 24, 25, 26, 27, 28, 29, 30, 31, 32, 33, 34, 35, 36, 37, 38, 39, 40, 41, 42, 43, 44, 45, 46, 47, 48, 49, 50, 51, 52, 53, 54, 55, 56, 57, 58, 59, 60, 61, 62, 63, 64, 65, 66, 67, 68, 69, 70, 71, 72] (by decide +kernel) (by decide +kernel)
set_option maxRecDepth 20000 in
theorem gX9_drive_X9_refuse : GoodIn wsX9_drive (wsV RX9 122 RX9 yX9_refuse wsX9_refuse) := goodIn_app (goodIn_of _ (by decide +kernel)) ggX9_drive_X9_refuse
set_option maxRecDepth 20000 in
theorem ggX9_covered_X9_isIn : GoodIn wsX9_covered wsX9_isIn := goodIn_r _ [5] (by decide +kernel) (by decide +kernel)
set_option maxRecDepth 20000 in
theorem gX9_covered_X9_isIn : GoodIn wsX9_covered (va_wsS RX9 134 yX9_isIn wsX9_isIn) := goodIn_app (goodIn_of _ (by decide +kernel)) ggX9_covered_X9_isIn
set_option maxRecDepth 20000 in
theorem ggX9_covered_X9_refuse : GoodIn wsX9_covered wsX9_refuse := goodIn_r _ [61, 62, 63, 64, 65, 66, 67, 68, 69, 70, 71, 72, 73, 74, 75, 76, 77, 78, 79, 80, 81, 82, 83, 84, 85, 86, 87, 88, 89, 90, 91, 92, 93, 94, 95, 96, 97, 98, 99, 100, 101, 102, 103, 104, 105, 106, 107, 108, 109, 110, 111, 112, 113] (by decide +kernel) (by decide +kernel)
set_option maxRecDepth 20000 in
theorem gX9_covered_X9_refuse : GoodIn wsX9_covered (wsV RX9 122 RX9 yX9_refuse wsX9_refuse) := goodIn_app (goodIn_of _ (by decide +kernel)) ggX9_covered_X9_refuse
set_option maxRecDepth 20000 in
theorem ggX9_lacks_X9_isIn : GoodIn wsX9_lacks wsX9_isIn := goodIn_r _ [5] (by decide +kernel) (by decide +kernel)
set_option maxRecDepth 20000 in
theorem gX9_lacks_X9_isIn : GoodIn wsX9_lacks (va_wsS RX9 134 yX9_isIn wsX9_isIn) := goodIn_app (goodIn_of _ (by decide +kernel)) ggX9_lacks_X9_isIn
set_option maxRecDepth 20000 in
theorem ggX9_lacks_X9_refuse : GoodIn wsX9_lacks wsX9_refuse := goodIn_r _ [61, 62, 63, 64, 65, 66, 67, 68, 69, 70, 71, 72, 73, 74, 75, 76, 77, 78, 79, 80, 81, 82, 83, 84, 85, 86, 87, 88, 89, 90, 91, 92, 93, 94, 95, 96, 97, 98, 99, 100, 101, 102, 103, 104, 105, 106, 107, 108, 109, 110, 111, 112, 113] (by decide +kernel) (by decide +kernel)
set_option maxRecDepth 20000 in
theorem gX9_lacks_X9_refuse : GoodIn wsX9_lacks (wsV RX9 122 RX9 yX9_refuse wsX9_refuse) := goodIn_app (goodIn_of _ (by decide +kernel)) ggX9_lacks_X9_refuse
set_option maxRecDepth 20000 in
theorem ggX9_over_X9_isIn : GoodIn wsX9_over wsX9_isIn := goodIn_r _ [10] (by decide +kernel) (by decide +kernel)
set_option maxRecDepth 20000 in
theorem gX9_over_X9_isIn : GoodIn wsX9_over (va_wsS RX9 134 yX9_isIn wsX9_isIn) := goodIn_app (goodIn_of _ (by decide +kernel)) ggX9_over_X9_isIn
set_option maxRecDepth 20000 in
theorem ggX9_over_X9_refuse : GoodIn wsX9_over wsX9_refuse := goodIn_r _ [14, 15, 34, 35, 36, 37, 38, 39, 40, 41, 42, 43, 44, 45, 46, 47, 48, 49, 50, 51, 52, 53, 54, 55, 56, 57, 58, 59, 60, 61, 62, 63, 64, 65, 66, 67, 68, 69, 70, 71, 72, 73, 74, 75, 76, 77, 78, 79, 80, 81, 82, 83, 84] (by decide +kernel) (by decide +kernel)
set_option maxRecDepth 20000 in
theorem gX9_over_X9_refuse : GoodIn wsX9_over (wsV RX9 122 RX9 yX9_refuse wsX9_refuse) := goodIn_app (goodIn_of _ (by decide +kernel)) ggX9_over_X9_refuse
set_option maxRecDepth 20000 in
theorem ggX9_pass_X9_refuse : GoodIn wsX9_pass wsX9_refuse := goodIn_r _ [16, 17, 105, 106, 107, 108, 109, 110, 111, 112, 113, 114, 115, 116, 117, 118, 119, 120, 121, 122, 123, 124, 125, 126, 127, 128, 129, 130, 131, 132, 133, 134, 135, 136, 137, 138, 139, 140, 141, 142, 143, 144, 145, 146, 147, 148, 149, 150, 151, 152, 153, 154, 155] (by decide +kernel) (by decide +kernel)
set_option maxRecDepth 20000 in
theorem gX9_pass_X9_refuse : GoodIn wsX9_pass (wsV RX9 122 RX9 yX9_refuse wsX9_refuse) := goodIn_app (goodIn_of _ (by decide +kernel)) ggX9_pass_X9_refuse
set_option maxRecDepth 20000 in
theorem ggX9_pass_X9_places : GoodIn wsX9_pass wsX9_places := goodIn_r _ [21, 4, 8, 22, 23, 24, 25, 15, 26, 27, 105, 106, 107, 108, 109, 110, 111, 112, 113, 114, 115, 116, 117, 118, 119, 120, 121, 122, 123, 124, 125, 126, 127, 128, 129, 130, 131, 132, 133, 134, 135, 136, 137, 138, 139, 140, 141, 142, 143, 144, 145, 146, 147, 148, 149, 150, 151, 152, 153, 154, 155] (by decide +kernel) (by decide +kernel)
set_option maxRecDepth 20000 in
theorem gX9_pass_X9_places : GoodIn wsX9_pass (wsV RX9 214 RX9 yX9_places wsX9_places) := goodIn_app (goodIn_of _ (by decide +kernel)) ggX9_pass_X9_places
