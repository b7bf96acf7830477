set_option maxRecDepth 20000 in
theorem ggX7_changeRate_X7_isWeather : GoodIn wsX7_changeRate wsX7_isWeather := goodIn_r _ [5] (by decide +kernel) (by decide +kernel)
set_option maxRecDepth 20000 in
theorem gX7_changeRate_X7_isWeather : GoodIn wsX7_changeRate (va_wsS RX7 18 yX7_isWeather wsX7_isWeather) := goodIn_app (goodIn_of _ (by decide +kernel)) ggX7_changeRate_X7_isWeather
set_option maxRecDepth 20000 in
theorem ggX7_changeWeather_X7_isWeather : GoodIn wsX7_changeWeather wsX7_isWeather := goodIn_r _ [5] (by decide +kernel) (by decide +kernel)
set_option maxRecDepth 20000 in
theorem gX7_changeWeather_X7_isWeather : GoodIn wsX7_changeWeather (va_wsS RX7 18 yX7_isWeather wsX7_isWeather) := goodIn_app (goodIn_of _ (by decide +kernel)) ggX7_changeWeather_X7_isWeather
set_option maxRecDepth 20000 in
theorem ggX8_init_X5_init : GoodIn wsX8_init wsX5_init := goodIn_r _ [44, 45, 2, 3, 46, 47, 104, 105] (by decide +kernel) (by decide +kernel)
set_option maxRecDepth 20000 in
theorem gX8_init_X5_init : GoodIn wsX8_init (wsX5_init) := ggX8_init_X5_init
set_option maxRecDepth 20000 in
theorem ggX8_init_X7_init : GoodIn wsX8_init wsX7_init := goodIn_r _ [49, 50, 2, 3, 11, 51, 52, 106, 107] (by decide +kernel) (by decide +kernel)
set_option maxRecDepth 20000 in
theorem gX8_init_X7_init_n46 : GoodIn wsX8_init (wsX7_init) := ggX8_init_X7_init
set_option maxRecDepth 20000 in
theorem ggX8_init_X1_init : GoodIn wsX8_init wsX1_init := goodIn_r _ [54, 55, 2, 3, 11, 56, 57, 58, 59, 60, 108, 109, 110, 111, 112] (by decide +kernel) (by decide +kernel)
set_option maxRecDepth 20000 in
theorem gX8_init_X1_init_n53 : GoodIn wsX8_init (wsX1_init) := ggX8_init_X1_init
set_option maxRecDepth 20000 in
theorem ggX8_init_X3_init : GoodIn wsX8_init wsX3_init := goodIn_r _ [62, 63, 2, 3, 11, 64, 65, 66, 67, 68, 69, 70, 113, 114, 115, 116, 117, 118, 119] (by decide +kernel) (by decide +kernel)
set_option maxRecDepth 20000 in
theorem gX8_init_X3_init_n60 : GoodIn wsX8_init (wsX3_init) := ggX8_init_X3_init
set_option maxRecDepth 20000 in
theorem ggX8_init_X6_init : GoodIn wsX8_init wsX6_init := goodIn_r _ [72, 73, 2, 3, 74, 11, 75, 76, 77, 78, 79, 80, 81, 82, 83, 84, 120, 121, 122, 123, 124, 125, 126, 127, 128, 129] (by decide +kernel) (by decide +kernel)
set_option maxRecDepth 20000 in
theorem gX8_init_X6_init_n67 : GoodIn wsX8_init (wsX6_init) := ggX8_init_X6_init
set_option maxRecDepth 20000 in
theorem ggX8_piece_X8_refuse : GoodIn wsX8_piece wsX8_refuse := goodIn_r _ [11, 12, 25, 26, 27, 28, 29, 30, 31, 32, 33, 34, 35, 36, 37, 38, 39, 40, 41, 42, 43] (by decide +kernel) (by decide +kernel)
set_option maxRecDepth 20000 in
theorem gX8_piece_X8_refuse : GoodIn wsX8_piece (wsV RX8 100 RX8 yX8_refuse wsX8_refuse) := goodIn_app (goodIn_of _ (by decide +kernel)) ggX8_piece_X8_refuse
set_option maxRecDepth 20000 in
theorem ggX8_piece_X4_init : GoodIn wsX8_piece wsX4_init := goodIn_r _ [15, 16, 17, 18, 19, 20, 21, 22, 23, 24, 44, 45, 46, 47, 48, 49] (by decide +kernel) (by decide +kernel)
set_option maxRecDepth 20000 in
theorem gX8_piece_X4_init : GoodIn wsX8_piece (wsX4_init) := ggX8_piece_X4_init
set_option maxRecDepth 20000 in
theorem ggX8_owner_X8_refuse : GoodIn wsX8_owner wsX8_refuse := goodIn_r _ [11, 12, 21, 22, 23, 24, 25, 26, 27, 28, 29, 30, 31, 32, 33, 34, 35, 36, 37, 38, 39] (by decide +kernel) (by decide +kernel)
set_option maxRecDepth 20000 in
theorem gX8_owner_X8_refuse : GoodIn wsX8_owner (wsV RX8 100 RX8 yX8_refuse wsX8_refuse) := goodIn_app (goodIn_of _ (by decide +kernel)) ggX8_owner_X8_refuse
set_option maxRecDepth 20000 in
theorem ggX8_owner_X5_init : GoodIn wsX8_owner wsX5_init := goodIn_r _ [15, 16, 17, 18, 19, 20, 40, 41] (by decide +kernel) (by decide +kernel)
set_option maxRecDepth 20000 in
theorem gX8_owner_X5_init : GoodIn wsX8_owner (wsX5_init) := ggX8_owner_X5_init
set_option maxRecDepth 20000 in
theorem ggX8_house_X8_isOwner : GoodIn wsX8_house wsX8_isOwner := goodIn_r _ [7, 8, 14, 15, 16, 17, 18, 19, 20, 21, 22, 23, 24, 25, 26, 27, 28, 29, 30, 31, 32] (by decide +kernel) (by decide +kernel)
set_option maxRecDepth 20000 in
theorem gX8_house_X8_isOwner : GoodIn wsX8_house (wsV RX8 108 RX8 yX8_isOwner wsX8_isOwner) := goodIn_app (goodIn_of _ (by decide +kernel)) ggX8_house_X8_isOwner
set_option maxRecDepth 20000 in
theorem ggX8_house_X8_refuse : GoodIn wsX8_house wsX8_refuse := goodIn_r _ [12, 13, 14, 15, 16, 17, 18, 19, 20, 21, 22, 23, 24, 25, 26, 27, 28, 29, 30, 31, 32] (by decide +kernel) (by decide +kernel)
set_option maxRecDepth 20000 in
theorem gX8_house_X8_refuse : GoodIn wsX8_house (wsV RX8 100 RX8 yX8_refuse wsX8_refuse) := goodIn_app (goodIn_of _ (by decide +kernel)) ggX8_house_X8_refuse
set_option maxRecDepth 20000 in
theorem ggX8_rate_X7_isWeather : GoodIn wsX8_rate wsX7_isWeather := goodIn_r _ [5] (by decide +kernel) (by decide +kernel)
set_option maxRecDepth 20000 in
theorem gX8_rate_X7_isWeather : GoodIn wsX8_rate (va_wsS RX8 112 yX7_isWeather wsX7_isWeather) := goodIn_app (goodIn_of _ (by decide +kernel)) ggX8_rate_X7_isWeather
set_option maxRecDepth 20000 in
theorem ggX8_rate_X8_refuse : GoodIn wsX8_rate wsX8_refuse := goodIn_r _ [10, 11, 18, 19, 20, 21, 22, 23, 24, 25, 26, 27, 28, 29, 30, 31, 32, 33, 34, 35, 36] (by decide +kernel) (by decide +kernel)
set_option maxRecDepth 20000 in
theorem gX8_rate_X8_refuse : GoodIn wsX8_rate (wsV RX8 100 RX8 yX8_refuse wsX8_refuse) := goodIn_app (goodIn_of _ (by decide +kernel)) ggX8_rate_X8_refuse
set_option maxRecDepth 20000 in
theorem ggX8_rate_X7_changeRate : GoodIn wsX8_rate wsX7_changeRate := goodIn_r _ [15, 16, 17, 3, 4, 5, 37, 38] (by decide +kernel) (by decide +kernel)
set_option maxRecDepth 20000 in
theorem gX8_rate_X7_changeRate : GoodIn wsX8_rate (wsV RX8 116 RX7 yX7_changeRate wsX7_changeRate) := goodIn_app (goodIn_of _ (by decide +kernel)) ggX8_rate_X7_changeRate
set_option maxRecDepth 20000 in
theorem ggX8_weather_X7_isWeather : GoodIn wsX8_weather wsX7_isWeather := goodIn_r _ [5] (by decide +kernel) (by decide +kernel)
set_option maxRecDepth 20000 in
theorem gX8_weather_X7_isWeather : GoodIn wsX8_weather (va_wsS RX8 112 yX7_isWeather wsX7_isWeather) := goodIn_app (goodIn_of _ (by decide +kernel)) ggX8_weather_X7_isWeather
set_option maxRecDepth 20000 in
theorem ggX8_weather_X8_refuse : GoodIn wsX8_weather wsX8_refuse := goodIn_r _ [10, 11, 18, 19, 20, 21, 22, 23, 24, 25, 26, 27, 28, 29, 30, 31, 32, 33, 34, 35, 36] (by decide +kernel) (by decide +kernel)
set_option maxRecDepth 20000 in
theorem gX8_weather_X8_refuse : GoodIn wsX8_weather (wsV RX8 100 RX8 yX8_refuse wsX8_refuse) := goodIn_app (goodIn_of _ (by decide +kernel)) ggX8_weather_X8_refuse
set_option maxRecDepth 20000 in
theorem ggX8_weather_X7_changeWeather : GoodIn wsX8_weather wsX7_changeWeather := goodIn_r _ [15, 16, 17, 3, 4, 5, 37, 38] (by decide +kernel) (by decide +kernel)
set_option maxRecDepth 20000 in
theorem gX8_weather_X7_changeWeather : GoodIn wsX8_weather (wsV RX8 120 RX7 yX7_changeWeather wsX7_changeWeather) := goodIn_app (goodIn_of _ (by decide +kernel)) ggX8_weather_X7_changeWeather
set_option maxRecDepth 20000 in
theorem ggX8_right_X8_refuse : GoodIn wsX8_right wsX8_refuse := goodIn_r _ [10, 11, 47, 48, 49, 50, 51, 52, 53, 54, 55, 56, 57, 58, 59, 60, 61, 62, 63, 64, 65] (by decide +kernel) (by decide +kernel)
set_option maxRecDepth 20000 in
theorem gX8_right_X8_refuse : GoodIn wsX8_right (wsV RX8 100 RX8 yX8_refuse wsX8_refuse) := goodIn_app (goodIn_of _ (by decide +kernel)) ggX8_right_X8_refuse
set_option maxRecDepth 20000 in
theorem ggX8_right_X8_isHouse : GoodIn wsX8_right wsX8_isHouse := goodIn_r _ [15, 16, 47, 48, 49, 50, 51, 52, 53, 54, 55, 56, 57, 58, 59, 60, 61, 62, 63, 64, 65] (by decide +kernel) (by decide +kernel)
set_option maxRecDepth 20000 in
theorem gX8_right_X8_isHouse : GoodIn wsX8_right (wsV RX8 124 RX8 yX8_isHouse wsX8_isHouse) := goodIn_app (goodIn_of _ (by decide +kernel)) ggX8_right_X8_isHouse
set_option maxRecDepth 20000 in
theorem ggX8_right_X8_isOwner : GoodIn wsX8_right wsX8_isOwner := goodIn_r _ [20, 21, 47, 48, 49, 50, 51, 52, 53, 54, 55, 56, 57, 58, 59, 60, 61, 62, 63, 64, 65] (by decide +kernel) (by decide +kernel)
set_option maxRecDepth 20000 in
theorem gX8_right_X8_isOwner : GoodIn wsX8_right (wsV RX8 108 RX8 yX8_isOwner wsX8_isOwner) := goodIn_app (goodIn_of _ (by decide +kernel)) ggX8_right_X8_isOwner
set_option maxRecDepth 20000 in
theorem ggX8_lend_X8_canPass : GoodIn wsX8_lend wsX8_canPass := goodIn_r _ [13, 1, 14, 15, 16, 12, 17, 5, 18, 19, 20, 21, 22, 23, 24, 25, 26, 2, 27, 28, 29, 30, 31, 32, 33, 68, 69, 70, 71, 72, 73, 74, 75, 76, 77, 78, 79, 80, 81, 82, 83, 84, 85, 86, 87, 88, 89, 90, 91, 92, 93, 94, 95] (by decide +kernel) (by decide +kernel)
set_option maxRecDepth 20000 in
theorem gX8_lend_X8_canPass : GoodIn wsX8_lend (wsV RX8 137 RX8 yX8_canPass wsX8_canPass) := goodIn_app (goodIn_of _ (by decide +kernel)) ggX8_lend_X8_canPass
set_option maxRecDepth 20000 in
theorem ggX8_lend_X8_refuse : GoodIn wsX8_lend wsX8_refuse := goodIn_r _ [37, 38, 68, 69, 70, 71, 72, 73, 74, 75, 76, 77, 78, 79, 80, 81, 82, 83, 84, 85, 86] (by decide +kernel) (by decide +kernel)
set_option maxRecDepth 20000 in
theorem gX8_lend_X8_refuse : GoodIn wsX8_lend (wsV RX8 100 RX8 yX8_refuse wsX8_refuse) := goodIn_app (goodIn_of _ (by decide +kernel)) ggX8_lend_X8_refuse
set_option maxRecDepth 20000 in
theorem ggX8_sell_X8_canPass : GoodIn wsX8_sell wsX8_canPass := goodIn_r _ [9, 1, 10, 11, 12, 8, 13, 14, 15, 16, 17, 18, 19, 20, 21, 22, 23, 2, 4, 24, 25, 26, 27, 28, 29, 43, 44, 45, 46, 47, 48, 49, 50, 51, 52, 53, 54, 55, 56, 57, 58, 59, 60, 61, 62, 63, 64, 65, 66, 67, 68, 69, 70] (by decide +kernel) (by decide +kernel)
set_option maxRecDepth 20000 in
theorem gX8_sell_X8_canPass : GoodIn wsX8_sell (wsV RX8 137 RX8 yX8_canPass wsX8_canPass) := goodIn_app (goodIn_of _ (by decide +kernel)) ggX8_sell_X8_canPass
set_option maxRecDepth 20000 in
theorem ggX8_sell_X8_refuse : GoodIn wsX8_sell wsX8_refuse := goodIn_r _ [33, 34, 43, 44, 45, 46, 47, 48, 49, 50, 51, 52, 53, 54, 55, 56, 57, 58, 59, 60, 61] (by decide +kernel) (by decide +kernel)
set_option maxRecDepth 20000 in
theorem gX8_sell_X8_refuse : GoodIn wsX8_sell (wsV RX8 100 RX8 yX8_refuse wsX8_refuse) := goodIn_app (goodIn_of _ (by decide +kernel)) ggX8_sell_X8_refuse
set_option maxRecDepth 20000 in
theorem ggX8_move_X8_isHouse : GoodIn wsX8_move wsX8_isHouse := goodIn_r _ [6, 7, 18, 19, 20, 21, 22, 23, 24, 25, 26, 27, 28, 29, 30, 31, 32, 33, 34, 35, 36] (by decide +kernel) (by decide +kernel)
set_option maxRecDepth 20000 in
theorem gX8_move_X8_isHouse : GoodIn wsX8_move (wsV RX8 124 RX8 yX8_isHouse wsX8_isHouse) := goodIn_app (goodIn_of _ (by decide +kernel)) ggX8_move_X8_isHouse
set_option maxRecDepth 20000 in
theorem ggX8_move_X8_refuse : GoodIn wsX8_move wsX8_refuse := goodIn_r _ [16, 17, 18, 19, 20, 21, 22, 23, 24, 25, 26, 27, 28, 29, 30, 31, 32, 33, 34, 35, 36] (by decide +kernel) (by decide +kernel)
set_option maxRecDepth 20000 in
theorem gX8_move_X8_refuse : GoodIn wsX8_move (wsV RX8 100 RX8 yX8_refuse wsX8_refuse) := goodIn_app (goodIn_of _ (by decide +kernel)) ggX8_move_X8_refuse
set_option maxRecDepth 20000 in
theorem ggX8_herd_X8_isOwner : GoodIn wsX8_herd wsX8_isOwner := goodIn_r _ [10, 11, 31, 32, 33, 34, 35, 36, 37, 38, 39, 40, 41, 42, 43, 44, 45, 46, 47, 48, 49] (by decide +kernel) (by decide +kernel)
set_option maxRecDepth 20000 in
theorem gX8_herd_X8_isOwner : GoodIn wsX8_herd (wsV RX8 108 RX8 yX8_isOwner wsX8_isOwner) := goodIn_app (goodIn_of _ (by decide +kernel)) ggX8_herd_X8_isOwner
set_option maxRecDepth 20000 in
theorem ggX8_herd_X8_refuse : GoodIn wsX8_herd wsX8_refuse := goodIn_r _ [15, 16, 31, 32, 33, 34, 35, 36, 37, 38, 39, 40, 41, 42, 43, 44, 45, 46, 47, 48, 49] (by decide +kernel) (by decide +kernel)
set_option maxRecDepth 20000 in
theorem gX8_herd_X8_refuse : GoodIn wsX8_herd (wsV RX8 100 RX8 yX8_refuse wsX8_refuse) := goodIn_app (goodIn_of _ (by decide +kernel)) ggX8_herd_X8_refuse
