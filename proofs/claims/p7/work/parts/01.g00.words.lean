set_option maxRecDepth 20000 in
theorem ggX1_addHerd_X2_parts : GoodIn wsX1_addHerd wsX2_parts := goodIn_r _ [9, 10, 11, 12, 13, 14, 15, 16, 17, 18, 19] (by decide +kernel) (by decide +kernel)
set_option maxRecDepth 20000 in
theorem gX1_addHerd_X2_parts : GoodIn wsX1_addHerd (wsV RX1 36 RX2 yX2_parts wsX2_parts) := goodIn_app (goodIn_of _ (by decide +kernel)) ggX1_addHerd_X2_parts
set_option maxRecDepth 20000 in
theorem ggX2_fee_X2_daysInPound : GoodIn wsX2_fee wsX2_daysInPound := goodIn_r _ [6, 7, 8, 9, 10, 11, 12, 13, 14, 15, 16] (by decide +kernel) (by decide +kernel)
set_option maxRecDepth 20000 in
theorem gX2_fee_X2_daysInPound : GoodIn wsX2_fee (wsV RX2 40 RX2 yX2_daysInPound wsX2_daysInPound) := goodIn_app (goodIn_of _ (by decide +kernel)) ggX2_fee_X2_daysInPound
set_option maxRecDepth 20000 in
theorem ggX3_passDay_X3_tread : GoodIn wsX3_passDay wsX3_tread := goodIn_r _ [16, 2, 17, 18, 5, 19, 38, 39, 40, 41, 42, 43, 44] (by decide +kernel) (by decide +kernel)
set_option maxRecDepth 20000 in
theorem gX3_passDay_X3_tread : GoodIn wsX3_passDay (wsV RX3 34 RX3 yX3_tread wsX3_tread) := goodIn_app (goodIn_of _ (by decide +kernel)) ggX3_passDay_X3_tread
set_option maxRecDepth 20000 in
theorem ggX3_passDay_X3_grow : GoodIn wsX3_passDay wsX3_grow := goodIn_r _ [22, 17, 18, 5, 19, 3, 4, 6] (by decide +kernel) (by decide +kernel)
set_option maxRecDepth 20000 in
theorem gX3_passDay_X3_grow : GoodIn wsX3_passDay (va_wsS RX3 43 yX3_grow wsX3_grow) := goodIn_app (goodIn_of _ (by decide +kernel)) ggX3_passDay_X3_grow
set_option maxRecDepth 20000 in
theorem ggX3_passDay_X3_shareHunger : GoodIn wsX3_passDay wsX3_shareHunger := goodIn_r _ [26, 9, 2, 11, 10, 27, 28, 29, 30, 15, 31, 38, 39, 40, 41, 42, 43, 44] (by decide +kernel) (by decide +kernel)
set_option maxRecDepth 20000 in
theorem gX3_passDay_X3_shareHunger : GoodIn wsX3_passDay (wsV RX3 52 RX3 yX3_shareHunger wsX3_shareHunger) := goodIn_app (goodIn_of _ (by decide +kernel)) ggX3_passDay_X3_shareHunger
set_option maxRecDepth 20000 in
theorem ggX3_shareHunger_X3_greatestRemainder : GoodIn wsX3_shareHunger wsX3_greatestRemainder := goodIn_r _ [10, 1, 5, 11, 12, 13, 14, 15, 16, 17] (by decide +kernel) (by decide +kernel)
set_option maxRecDepth 20000 in
theorem gX3_shareHunger_X3_greatestRemainder : GoodIn wsX3_shareHunger (wsV RX3 63 RX3 yX3_greatestRemainder wsX3_greatestRemainder) := goodIn_app (goodIn_of _ (by decide +kernel)) ggX3_shareHunger_X3_greatestRemainder
set_option maxRecDepth 20000 in
theorem ggX6_waysToVisit_X6_slots : GoodIn wsX6_waysToVisit wsX6_slots := goodIn_r _ [5, 6, 7, 8, 9, 10, 11, 12, 13, 14, 15, 16, 17, 18, 19, 20, 21] (by decide +kernel) (by decide +kernel)
set_option maxRecDepth 20000 in
theorem gX6_waysToVisit_X6_slots : GoodIn wsX6_waysToVisit (wsV RX6 51 RX6 yX6_slots wsX6_slots) := goodIn_app (goodIn_of _ (by decide +kernel)) ggX6_waysToVisit_X6_slots
set_option maxRecDepth 20000 in
theorem ggX6_choose_X6_slots : GoodIn wsX6_choose wsX6_slots := goodIn_r _ [11, 12, 13, 14, 15, 16, 17, 33, 34, 35, 36, 37, 38, 39, 40, 41, 42] (by decide +kernel) (by decide +kernel)
set_option maxRecDepth 20000 in
theorem gX6_choose_X6_slots : GoodIn wsX6_choose (wsV RX6 51 RX6 yX6_slots wsX6_slots) := goodIn_app (goodIn_of _ (by decide +kernel)) ggX6_choose_X6_slots
set_option maxRecDepth 20000 in
theorem ggX6_choose_X6_isOpen : GoodIn wsX6_choose wsX6_isOpen := goodIn_r _ [21, 13, 12, 22, 1, 33, 34, 35, 36, 37, 38, 39, 40, 41, 42] (by decide +kernel) (by decide +kernel)
set_option maxRecDepth 20000 in
theorem gX6_choose_X6_isOpen : GoodIn wsX6_choose (wsV RX6 55 RX6 yX6_isOpen wsX6_isOpen) := goodIn_app (goodIn_of _ (by decide +kernel)) ggX6_choose_X6_isOpen
set_option maxRecDepth 20000 in
theorem ggX6_choose_X6_hungerOfTrial : GoodIn wsX6_choose wsX6_hungerOfTrial := goodIn_r _ [26, 27, 1, 28, 7, 8, 9, 10, 11, 12, 13, 14, 15, 16, 17, 33, 34, 35, 36, 37, 38, 39, 40, 41, 42] (by decide +kernel) (by decide +kernel)
set_option maxRecDepth 20000 in
theorem gX6_choose_X6_hungerOfTrial : GoodIn wsX6_choose (wsV RX6 59 RX6 yX6_hungerOfTrial wsX6_hungerOfTrial) := goodIn_app (goodIn_of _ (by decide +kernel)) ggX6_choose_X6_hungerOfTrial
set_option maxRecDepth 20000 in
theorem ggX6_choose_X6_nextTrial : GoodIn wsX6_choose wsX6_nextTrial := goodIn_r _ [32, 1, 7, 8, 9, 10, 11, 12, 13, 14, 15, 16, 17, 33, 34, 35, 36, 37, 38, 39, 40, 41, 42] (by decide +kernel) (by decide +kernel)
set_option maxRecDepth 20000 in
theorem gX6_choose_X6_nextTrial : GoodIn wsX6_choose (wsV RX6 68 RX6 yX6_nextTrial wsX6_nextTrial) := goodIn_app (goodIn_of _ (by decide +kernel)) ggX6_choose_X6_nextTrial
set_option maxRecDepth 20000 in
theorem ggX6_hungerOfTrial_X6_slots : GoodIn wsX6_hungerOfTrial wsX6_slots := goodIn_r _ [8, 9, 10, 11, 12, 13, 14, 15, 16, 17, 18, 19, 20, 21, 22, 23, 24] (by decide +kernel) (by decide +kernel)
set_option maxRecDepth 20000 in
theorem gX6_hungerOfTrial_X6_slots : GoodIn wsX6_hungerOfTrial (wsV RX6 51 RX6 yX6_slots wsX6_slots) := goodIn_app (goodIn_of _ (by decide +kernel)) ggX6_hungerOfTrial_X6_slots
set_option maxRecDepth 20000 in
theorem ggX6_nextTrial_X6_slots : GoodIn wsX6_nextTrial wsX6_slots := goodIn_r _ [6, 7, 8, 9, 10, 11, 12, 13, 14, 15, 16, 17, 18, 19, 20, 21, 22] (by decide +kernel) (by decide +kernel)
set_option maxRecDepth 20000 in
theorem gX6_nextTrial_X6_slots : GoodIn wsX6_nextTrial (wsV RX6 51 RX6 yX6_slots wsX6_slots) := goodIn_app (goodIn_of _ (by decide +kernel)) ggX6_nextTrial_X6_slots
set_option maxRecDepth 20000 in
theorem ggX7_changeRate_X7_isWeather : GoodIn wsX7_changeRate wsX7_isWeather := goodIn_r _ [5] (by decide +kernel) (by decide +kernel)
set_option maxRecDepth 20000 in
theorem gX7_changeRate_X7_isWeather : GoodIn wsX7_changeRate (va_wsS RX7 18 yX7_isWeather wsX7_isWeather) := goodIn_app (goodIn_of _ (by decide +kernel)) ggX7_changeRate_X7_isWeather
set_option maxRecDepth 20000 in
theorem ggX7_changeWeather_X7_isWeather : GoodIn wsX7_changeWeather wsX7_isWeather := goodIn_r _ [5] (by decide +kernel) (by decide +kernel)
set_option maxRecDepth 20000 in
theorem gX7_changeWeather_X7_isWeather : GoodIn wsX7_changeWeather (va_wsS RX7 18 yX7_isWeather wsX7_isWeather) := goodIn_app (goodIn_of _ (by decide +kernel)) ggX7_changeWeather_X7_isWeather
set_option maxRecDepth 20000 in
theorem ggX8_init_X5_init : GoodIn wsX8_init wsX5_init := goodIn_r _ [44, 45, 2, 3, 46, 47, 104, 105] (by decide +kernel) (by decide +kernel)
set_option maxRecDepth 20000 in
theorem gX8_init_X5_init : GoodIn wsX8_init (wsX5_init) := ggX8_init_X5_init
set_option maxRecDepth 20000 in
theorem ggX8_init_X7_init : GoodIn wsX8_init wsX7_init := goodIn_r _ [49, 50, 2, 3, 11, 51, 52, 106, 107] (by decide +kernel) (by decide +kernel)
set_option maxRecDepth 20000 in
theorem gX8_init_X7_init_n46 : GoodIn wsX8_init (wsX7_init) := ggX8_init_X7_init
set_option maxRecDepth 20000 in
theorem ggX8_init_X1_init : GoodIn wsX8_init wsX1_init := goodIn_r _ [54, 55, 2, 3, 11, 56, 57, 58, 59, 60, 108, 109, 110, 111, 112] (by decide +kernel) (by decide +kernel)
set_option maxRecDepth 20000 in
theorem gX8_init_X1_init_n53 : GoodIn wsX8_init (wsX1_init) := ggX8_init_X1_init
set_option maxRecDepth 20000 in
theorem ggX8_init_X3_init : GoodIn wsX8_init wsX3_init := goodIn_r _ [62, 63, 2, 3, 11, 64, 65, 66, 67, 68, 69, 70, 113, 114, 115, 116, 117, 118, 119] (by decide +kernel) (by decide +kernel)
set_option maxRecDepth 20000 in
theorem gX8_init_X3_init_n60 : GoodIn wsX8_init (wsX3_init) := ggX8_init_X3_init
set_option maxRecDepth 20000 in
theorem ggX8_init_X6_init : GoodIn wsX8_init wsX6_init := goodIn_r _ [72, 73, 2, 3, 74, 11, 75, 76, 77, 78, 79, 80, 81, 82, 83, 84, 120, 121, 122, 123, 124, 125, 126, 127, 128, 129] (by decide +kernel) (by decide +kernel)
set_option maxRecDepth 20000 in
theorem gX8_init_X6_init_n67 : GoodIn wsX8_init (wsX6_init) := ggX8_init_X6_init
set_option maxRecDepth 20000 in
theorem ggX8_piece_X8_refuse : GoodIn wsX8_piece wsX8_refuse := goodIn_r _ [11, 12, 25, 26, 27, 28, 29, 30, 31, 32, 33, 34, 35, 36, 37, 38, 39, 40, 41, 42, 43] (by decide +kernel) (by decide +kernel)
set_option maxRecDepth 20000 in
theorem gX8_piece_X8_refuse : GoodIn wsX8_piece (wsV RX8 100 RX8 yX8_refuse wsX8_refuse) := goodIn_app (goodIn_of _ (by decide +kernel)) ggX8_piece_X8_refuse
set_option maxRecDepth 20000 in
theorem ggX8_piece_X4_init : GoodIn wsX8_piece wsX4_init := goodIn_r _ [15, 16, 17, 18, 19, 20, 21, 22, 23, 24, 44, 45, 46, 47, 48, 49] (by decide +kernel) (by decide +kernel)
set_option maxRecDepth 20000 in
theorem gX8_piece_X4_init : GoodIn wsX8_piece (wsX4_init) := ggX8_piece_X4_init
set_option maxRecDepth 20000 in
theorem ggX8_owner_X8_refuse : GoodIn wsX8_owner wsX8_refuse := goodIn_r _ [11, 12, 21, 22, 23, 24, 25, 26, 27, 28, 29, 30, 31, 32, 33, 34, 35, 36, 37, 38, 39] (by decide +kernel) (by decide +kernel)
set_option maxRecDepth 20000 in
theorem gX8_owner_X8_refuse : GoodIn wsX8_owner (wsV RX8 100 RX8 yX8_refuse wsX8_refuse) := goodIn_app (goodIn_of _ (by decide +kernel)) ggX8_owner_X8_refuse
set_option maxRecDepth 20000 in
theorem ggX8_owner_X5_init : GoodIn wsX8_owner wsX5_init := goodIn_r _ [15, 16, 17, 18, 19, 20, 40, 41] (by decide +kernel) (by decide +kernel)
set_option maxRecDepth 20000 in
theorem gX8_owner_X5_init : GoodIn wsX8_owner (wsX5_init) := ggX8_owner_X5_init
set_option maxRecDepth 20000 in
theorem ggX8_house_X8_isOwner : GoodIn wsX8_house wsX8_isOwner := goodIn_r _ [7, 8, 14, 15, 16, 17, 18, 19, 20, 21, 22, 23, 24, 25, 26, 27, 28, 29, 30, 31, 32] (by decide +kernel) (by decide +kernel)
set_option maxRecDepth 20000 in
theorem gX8_house_X8_isOwner : GoodIn wsX8_house (wsV RX8 108 RX8 yX8_isOwner wsX8_isOwner) := goodIn_app (goodIn_of _ (by decide +kernel)) ggX8_house_X8_isOwner
set_option maxRecDepth 20000 in
theorem ggX8_house_X8_refuse : GoodIn wsX8_house wsX8_refuse := goodIn_r _ [12, 13, 14, 15, 16, 17, 18, 19, 20, 21, 22, 23, 24, 25, 26, 27, 28, 29, 30, 31, 32] (by decide +kernel) (by decide +kernel)
set_option maxRecDepth 20000 in
theorem gX8_house_X8_refuse : GoodIn wsX8_house (wsV RX8 100 RX8 yX8_refuse wsX8_refuse) := goodIn_app (goodIn_of _ (by decide +kernel)) ggX8_house_X8_refuse
set_option maxRecDepth 20000 in
theorem ggX8_rate_X7_isWeather : GoodIn wsX8_rate wsX7_isWeather := goodIn_r _ [5] (by decide +kernel) (by decide +kernel)
set_option maxRecDepth 20000 in
theorem gX8_rate_X7_isWeather : GoodIn wsX8_rate (va_wsS RX8 112 yX7_isWeather wsX7_isWeather) := goodIn_app (goodIn_of _ (by decide +kernel)) ggX8_rate_X7_isWeather
set_option maxRecDepth 20000 in
theorem ggX8_rate_X8_refuse : GoodIn wsX8_rate wsX8_refuse := goodIn_r _ [10, 11, 18, 19, 20, 21, 22, 23, 24, 25, 26, 27, 28, 29, 30, 31, 32, 33, 34, 35, 36] (by decide +kernel) (by decide +kernel)
set_option maxRecDepth 20000 in
theorem gX8_rate_X8_refuse : GoodIn wsX8_rate (wsV RX8 100 RX8 yX8_refuse wsX8_refuse) := goodIn_app (goodIn_of _ (by decide +kernel)) ggX8_rate_X8_refuse
set_option maxRecDepth 20000 in
theorem ggX8_rate_X7_changeRate : GoodIn wsX8_rate wsX7_changeRate := goodIn_r _ [15, 16, 17, 3, 4, 5, 37, 38] (by decide +kernel) (by decide +kernel)
set_option maxRecDepth 20000 in
theorem gX8_rate_X7_changeRate : GoodIn wsX8_rate (wsV RX8 116 RX7 yX7_changeRate wsX7_changeRate) := goodIn_app (goodIn_of _ (by decide +kernel)) ggX8_rate_X7_changeRate
set_option maxRecDepth 20000 in
theorem ggX8_weather_X7_isWeather : GoodIn wsX8_weather wsX7_isWeather := goodIn_r _ [5] (by decide +kernel) (by decide +kernel)
set_option maxRecDepth 20000 in
theorem gX8_weather_X7_isWeather : GoodIn wsX8_weather (va_wsS RX8 112 yX7_isWeather wsX7_isWeather) := goodIn_app (goodIn_of _ (by decide +kernel)) ggX8_weather_X7_isWeather
set_option maxRecDepth 20000 in
theorem ggX8_weather_X8_refuse : GoodIn wsX8_weather wsX8_refuse := goodIn_r _ [10, 11, 18, 19, 20, 21, 22, 23, 24, 25, 26, 27, 28, 29, 30, 31, 32, 33, 34, 35, 36] (by decide +kernel) (by decide +kernel)
set_option maxRecDepth 20000 in
theorem gX8_weather_X8_refuse : GoodIn wsX8_weather (wsV RX8 100 RX8 yX8_refuse wsX8_refuse) := goodIn_app (goodIn_of _ (by decide +kernel)) ggX8_weather_X8_refuse
set_option maxRecDepth 20000 in
theorem ggX8_weather_X7_changeWeather : GoodIn wsX8_weather wsX7_changeWeather := goodIn_r _ [15, 16, 17, 3, 4, 5, 37, 38] (by decide +kernel) (by decide +kernel)
set_option maxRecDepth 20000 in
theorem gX8_weather_X7_changeWeather : GoodIn wsX8_weather (wsV RX8 120 RX7 yX7_changeWeather wsX7_changeWeather) := goodIn_app (goodIn_of _ (by decide +kernel)) ggX8_weather_X7_changeWeather
set_option maxRecDepth 20000 in
theorem ggX8_right_X8_refuse : GoodIn wsX8_right wsX8_refuse := goodIn_r _ [10, 11, 47, 48, 49, 50, 51, 52, 53, 54, 55, 56, 57, 58, 59, 60, 61, 62, 63, 64, 65] (by decide +kernel) (by decide +kernel)
set_option maxRecDepth 20000 in
theorem gX8_right_X8_refuse : GoodIn wsX8_right (wsV RX8 100 RX8 yX8_refuse wsX8_refuse) := goodIn_app (goodIn_of _ (by decide +kernel)) ggX8_right_X8_refuse
set_option maxRecDepth 20000 in
theorem ggX8_right_X8_isHouse : GoodIn wsX8_right wsX8_isHouse := goodIn_r _ [15, 16, 47, 48, 49, 50, 51, 52, 53, 54, 55, 56, 57, 58, 59, 60, 61, 62, 63, 64, 65] (by decide +kernel) (by decide +kernel)
set_option maxRecDepth 20000 in
theorem gX8_right_X8_isHouse : GoodIn wsX8_right (wsV RX8 124 RX8 yX8_isHouse wsX8_isHouse) := goodIn_app (goodIn_of _ (by decide +kernel)) ggX8_right_X8_isHouse
set_option maxRecDepth 20000 in
theorem ggX8_right_X8_isOwner : GoodIn wsX8_right wsX8_isOwner := goodIn_r _ [20, 21, 47, 48, 49, 50, 51, 52, 53, 54, 55, 56, 57, 58, 59, 60, 61, 62, 63, 64, 65] (by decide +kernel) (by decide +kernel)
set_option maxRecDepth 20000 in
theorem gX8_right_X8_isOwner : GoodIn wsX8_right (wsV RX8 108 RX8 yX8_isOwner wsX8_isOwner) := goodIn_app (goodIn_of _ (by decide +kernel)) ggX8_right_X8_isOwner
