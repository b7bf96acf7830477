set_option maxRecDepth 20000 in
theorem ggX8_right_X8_isPiece : GoodIn wsX8_right wsX8_isPiece := goodIn_r _ [25, 26, 47, 48, 49, 50, 51, 52, 53, 54, 55, 56, 57, 58, 59, 60, 61, 62, 63, 64, 65] (by decide +kernel) (by decide +kernel)
set_option maxRecDepth 20000 in
theorem gX8_right_X8_isPiece : GoodIn wsX8_right (wsV RX8 127 RX8 yX8_isPiece wsX8_isPiece) := goodIn_app (goodIn_of _ (by decide +kernel)) ggX8_right_X8_isPiece
set_option maxRecDepth 20000 in
theorem ggX8_right_X0_init : GoodIn wsX8_right wsX0_init := goodIn_r _ [29, 30, 31, 32, 33, 34, 35, 36, 37, 38, 39, 40, 41, 66, 67, 68, 69, 70, 71, 72, 73, 74] (by decide +kernel) (by decide +kernel)
set_option maxRecDepth 20000 in
theorem gX8_right_X0_init : GoodIn wsX8_right (wsX0_init) := ggX8_right_X0_init
set_option maxRecDepth 20000 in
theorem ggX8_right_X8_addRight : GoodIn wsX8_right wsX8_addRight := goodIn_r _ [45, 46, 2, 47, 48, 49, 50, 51, 52, 53, 54, 55, 56, 57, 58, 59, 60, 61, 62, 63, 64, 65] (by decide +kernel) (by decide +kernel)
set_option maxRecDepth 20000 in
theorem gX8_right_X8_addRight : GoodIn wsX8_right (wsV RX8 133 RX8 yX8_addRight wsX8_addRight) := goodIn_app (goodIn_of _ (by decide +kernel)) ggX8_right_X8_addRight
set_option maxRecDepth 20000 in
theorem ggX8_lend_X8_canPass : GoodIn wsX8_lend wsX8_canPass := goodIn_r _ [13, 1, 14, 15, 16, 12, 17, 5, 18, 19, 20, 21, 22, 23, 24, 25, 26, 2, 27, 28, 29, 30, 31, 32, 33, 68, 69, 70, 71, 72, 73, 74, 75, 76, 77, 78, 79, 80, 81, 82, 83, 84, 85, 86, 87, 88, 89, 90, 91, 92, 93, 94, 95] (by decide +kernel) (by decide +kernel)
set_option maxRecDepth 20000 in
theorem gX8_lend_X8_canPass : GoodIn wsX8_lend (wsV RX8 137 RX8 yX8_canPass wsX8_canPass) := goodIn_app (goodIn_of _ (by decide +kernel)) ggX8_lend_X8_canPass
set_option maxRecDepth 20000 in
theorem ggX8_lend_X8_refuse : GoodIn wsX8_lend wsX8_refuse := goodIn_r _ [37, 38, 68, 69, 70, 71, 72, 73, 74, 75, 76, 77, 78, 79, 80, 81, 82, 83, 84, 85, 86] (by decide +kernel) (by decide +kernel)
set_option maxRecDepth 20000 in
theorem gX8_lend_X8_refuse : GoodIn wsX8_lend (wsV RX8 100 RX8 yX8_refuse wsX8_refuse) := goodIn_app (goodIn_of _ (by decide +kernel)) ggX8_lend_X8_refuse
set_option maxRecDepth 20000 in
theorem ggX8_lend_X0_isInForce : GoodIn wsX8_lend wsX0_isInForce := goodIn_r _ [42, 43, 44, 45, 87, 88, 89, 90, 91, 92, 93, 94, 95] (by decide +kernel) (by decide +kernel)
set_option maxRecDepth 20000 in
theorem gX8_lend_X0_isInForce : GoodIn wsX8_lend (wsV RX8 143 RX0 yX0_isInForce wsX0_isInForce) := goodIn_app (goodIn_of _ (by decide +kernel)) ggX8_lend_X0_isInForce
set_option maxRecDepth 20000 in
theorem ggX8_lend_X8_countingParts : GoodIn wsX8_lend wsX8_countingParts := goodIn_r _ [49, 1, 3, 50, 5, 2, 51, 39, 40, 41, 8, 42, 43, 44, 45, 68, 69, 70, 71, 72, 73, 74, 75, 76, 77, 78, 79, 80, 81, 82, 83, 84, 85, 86, 87, 88, 89, 90, 91, 92, 93, 94, 95] (by decide +kernel) (by decide +kernel)
set_option maxRecDepth 20000 in
theorem gX8_lend_X8_countingParts : GoodIn wsX8_lend (wsV RX8 146 RX8 yX8_countingParts wsX8_countingParts) := goodIn_app (goodIn_of _ (by decide +kernel)) ggX8_lend_X8_countingParts
set_option maxRecDepth 20000 in
theorem ggX8_lend_X0_init : GoodIn wsX8_lend wsX0_init := goodIn_r _ [54, 55, 56, 57, 58, 43, 59, 60, 61, 44, 45, 62, 63, 87, 88, 89, 90, 91, 92, 93, 94, 95] (by decide +kernel) (by decide +kernel)
set_option maxRecDepth 20000 in
theorem gX8_lend_X0_init : GoodIn wsX8_lend (wsX0_init) := ggX8_lend_X0_init
set_option maxRecDepth 20000 in
theorem ggX8_lend_X8_addRight : GoodIn wsX8_lend wsX8_addRight := goodIn_r _ [67, 1, 5, 68, 69, 70, 71, 72, 73, 74, 75, 76, 77, 78, 79, 80, 81, 82, 83, 84, 85, 86] (by decide +kernel) (by decide +kernel)
set_option maxRecDepth 20000 in
theorem gX8_lend_X8_addRight : GoodIn wsX8_lend (wsV RX8 133 RX8 yX8_addRight wsX8_addRight) := goodIn_app (goodIn_of _ (by decide +kernel)) ggX8_lend_X8_addRight
set_option maxRecDepth 20000 in
theorem ggX8_sell_X8_canPass : GoodIn wsX8_sell wsX8_canPass := goodIn_r _ [9, 1, 10, 11, 12, 8, 13, 14, 15, 16, 17, 18, 19, 20, 21, 22, 23, 2, 4, 24, 25, 26, 27, 28, 29, 43, 44, 45, 46, 47, 48, 49, 50, 51, 52, 53, 54, 55, 56, 57, 58, 59, 60, 61, 62, 63, 64, 65, 66, 67, 68, 69, 70] (by decide +kernel) (by decide +kernel)
set_option maxRecDepth 20000 in
theorem gX8_sell_X8_canPass : GoodIn wsX8_sell (wsV RX8 137 RX8 yX8_canPass wsX8_canPass) := goodIn_app (goodIn_of _ (by decide +kernel)) ggX8_sell_X8_canPass
set_option maxRecDepth 20000 in
theorem ggX8_sell_X8_refuse : GoodIn wsX8_sell wsX8_refuse := goodIn_r _ [33, 34, 43, 44, 45, 46, 47, 48, 49, 50, 51, 52, 53, 54, 55, 56, 57, 58, 59, 60, 61] (by decide +kernel) (by decide +kernel)
set_option maxRecDepth 20000 in
theorem gX8_sell_X8_refuse : GoodIn wsX8_sell (wsV RX8 100 RX8 yX8_refuse wsX8_refuse) := goodIn_app (goodIn_of _ (by decide +kernel)) ggX8_sell_X8_refuse
set_option maxRecDepth 20000 in
theorem ggX8_sell_X0_isInForce : GoodIn wsX8_sell wsX0_isInForce := goodIn_r _ [39, 40, 41, 42, 62, 63, 64, 65, 66, 67, 68, 69, 70] (by decide +kernel) (by decide +kernel)
set_option maxRecDepth 20000 in
theorem gX8_sell_X0_isInForce : GoodIn wsX8_sell (wsV RX8 143 RX0 yX0_isInForce wsX0_isInForce) := goodIn_app (goodIn_of _ (by decide +kernel)) ggX8_sell_X0_isInForce
set_option maxRecDepth 20000 in
theorem ggX8_move_X8_isHouse : GoodIn wsX8_move wsX8_isHouse := goodIn_r _ [6, 7, 18, 19, 20, 21, 22, 23, 24, 25, 26, 27, 28, 29, 30, 31, 32, 33, 34, 35, 36] (by decide +kernel) (by decide +kernel)
set_option maxRecDepth 20000 in
theorem gX8_move_X8_isHouse : GoodIn wsX8_move (wsV RX8 124 RX8 yX8_isHouse wsX8_isHouse) := goodIn_app (goodIn_of _ (by decide +kernel)) ggX8_move_X8_isHouse
set_option maxRecDepth 20000 in
theorem ggX8_move_X8_isOwner : GoodIn wsX8_move wsX8_isOwner := goodIn_r _ [11, 12, 18, 19, 20, 21, 22, 23, 24, 25, 26, 27, 28, 29, 30, 31, 32, 33, 34, 35, 36] (by decide +kernel) (by decide +kernel)
set_option maxRecDepth 20000 in
theorem gX8_move_X8_isOwner : GoodIn wsX8_move (wsV RX8 108 RX8 yX8_isOwner wsX8_isOwner) := goodIn_app (goodIn_of _ (by decide +kernel)) ggX8_move_X8_isOwner
set_option maxRecDepth 20000 in
theorem ggX8_move_X8_refuse : GoodIn wsX8_move wsX8_refuse := goodIn_r _ [16, 17, 18, 19, 20, 21, 22, 23, 24, 25, 26, 27, 28, 29, 30, 31, 32, 33, 34, 35, 36] (by decide +kernel) (by decide +kernel)
set_option maxRecDepth 20000 in
theorem gX8_move_X8_refuse : GoodIn wsX8_move (wsV RX8 100 RX8 yX8_refuse wsX8_refuse) := goodIn_app (goodIn_of _ (by decide +kernel)) ggX8_move_X8_refuse
set_option maxRecDepth 20000 in
theorem ggX8_herd_X8_isOwner : GoodIn wsX8_herd wsX8_isOwner := goodIn_r _ [10, 11, 31, 32, 33, 34, 35, 36, 37, 38, 39, 40, 41, 42, 43, 44, 45, 46, 47, 48, 49] (by decide +kernel) (by decide +kernel)
set_option maxRecDepth 20000 in
theorem gX8_herd_X8_isOwner : GoodIn wsX8_herd (wsV RX8 108 RX8 yX8_isOwner wsX8_isOwner) := goodIn_app (goodIn_of _ (by decide +kernel)) ggX8_herd_X8_isOwner
set_option maxRecDepth 20000 in
theorem ggX8_herd_X8_refuse : GoodIn wsX8_herd wsX8_refuse := goodIn_r _ [15, 16, 31, 32, 33, 34, 35, 36, 37, 38, 39, 40, 41, 42, 43, 44, 45, 46, 47, 48, 49] (by decide +kernel) (by decide +kernel)
set_option maxRecDepth 20000 in
theorem gX8_herd_X8_refuse : GoodIn wsX8_herd (wsV RX8 100 RX8 yX8_refuse wsX8_refuse) := goodIn_app (goodIn_of _ (by decide +kernel)) ggX8_herd_X8_refuse
set_option maxRecDepth 20000 in
theorem ggX8_herd_X2_init : GoodIn wsX8_herd wsX2_init := goodIn_r _ [19, 20, 21, 22, 23, 24, 25, 26, 27, 28, 29, 30, 50, 51, 52, 53, 54, 55, 56, 57] (by decide +kernel) (by decide +kernel)
set_option maxRecDepth 20000 in
theorem gX8_herd_X2_init : GoodIn wsX8_herd (wsX2_init) := ggX8_herd_X2_init
set_option maxRecDepth 20000 in
theorem ggX8_put_X8_isHerd : GoodIn wsX8_put wsX8_isHerd := goodIn_r _ [13, 14, 105, 106, 107, 108, 109, 110, 111, 112, 113, 114, 115, 116, 117, 118, 119, 120, 121, 122, 123] (by decide +kernel) (by decide +kernel)
set_option maxRecDepth 20000 in
theorem gX8_put_X8_isHerd : GoodIn wsX8_put (wsV RX8 157 RX8 yX8_isHerd wsX8_isHerd) := goodIn_app (goodIn_of _ (by decide +kernel)) ggX8_put_X8_isHerd
set_option maxRecDepth 20000 in
theorem ggX8_put_X8_isPiece : GoodIn wsX8_put wsX8_isPiece := goodIn_r _ [18, 19, 105, 106, 107, 108, 109, 110, 111, 112, 113, 114, 115, 116, 117, 118, 119, 120, 121, 122, 123] (by decide +kernel) (by decide +kernel)
set_option maxRecDepth 20000 in
theorem gX8_put_X8_isPiece : GoodIn wsX8_put (wsV RX8 127 RX8 yX8_isPiece wsX8_isPiece) := goodIn_app (goodIn_of _ (by decide +kernel)) ggX8_put_X8_isPiece
set_option maxRecDepth 20000 in
theorem ggX8_put_X8_refuse : GoodIn wsX8_put wsX8_refuse := goodIn_r _ [23, 24, 105, 106, 107, 108, 109, 110, 111, 112, 113, 114, 115, 116, 117, 118, 119, 120, 121, 122, 123] (by decide +kernel) (by decide +kernel)
set_option maxRecDepth 20000 in
theorem gX8_put_X8_refuse : GoodIn wsX8_put (wsV RX8 100 RX8 yX8_refuse wsX8_refuse) := goodIn_app (goodIn_of _ (by decide +kernel)) ggX8_put_X8_refuse
set_option maxRecDepth 20000 in
theorem ggX8_put_X4_restsOn : GoodIn wsX8_put wsX4_restsOn := goodIn_r _ [29, 30, 132, 133, 134, 135, 136, 137] (by decide +kernel) (by decide +kernel)
set_option maxRecDepth 20000 in
theorem gX8_put_X4_restsOn : GoodIn wsX8_put (wsV RX8 166 RX4 yX4_restsOn wsX4_restsOn) := goodIn_app (goodIn_of _ (by decide +kernel)) ggX8_put_X4_restsOn
set_option maxRecDepth 20000 in
theorem ggX8_put_X8_lackOf : GoodIn wsX8_put wsX8_lackOf := goodIn_r _ [34, 35, 36, 37, 12, 38, 39, 14, 1, 6, 40, 41, 42, 43, 44, 45, 46, 47, 48, 49, 50, 51, 52, 53, 54, 55, 56, 57, 58, 59, 60, 61, 62, 63, 64, 65, 66, 67, 68, 69, 70, 71, 72, 73, 74, 75, 76, 77, 78, 79, 80, 5, 81, 82, 83, 84, 85, 86, 87, 88, 89, 90, 91, 92, 93, 94, 95, 96, 97, 98, 99, 100, 101, 102, 103, 104, 105, 106, 107, 108, 109, 110, 111, 112, 113, 114, 115, 116, 117, 118, 119, 120, 121, 122, 123, 124, 125, 126, 127, 128, 129, 130, 131, 138, 139, 140, 141, 142, 143, 144, 145, 146, 147, 148, 149, 150, 151] (by decide +kernel) (by decide +kernel)
set_option maxRecDepth 20000 in
theorem gX8_put_X8_lackOf : GoodIn wsX8_put (wsV RX8 172 RX8 yX8_lackOf wsX8_lackOf) := goodIn_app (goodIn_of _ (by decide +kernel)) ggX8_put_X8_lackOf
set_option maxRecDepth 20000 in
theorem ggX8_drive_X8_isHerd : GoodIn wsX8_drive wsX8_isHerd := goodIn_r _ [11, 12, 29, 30, 31, 32, 33, 34, 35, 36, 37, 38, 39, 40, 41, 42, 43, 44, 45, 46, 47] (by decide +kernel) (by decide +kernel)
set_option maxRecDepth 20000 in
theorem gX8_drive_X8_isHerd : GoodIn wsX8_drive (wsV RX8 157 RX8 yX8_isHerd wsX8_isHerd) := goodIn_app (goodIn_of _ (by decide +kernel)) ggX8_drive_X8_isHerd
set_option maxRecDepth 20000 in
theorem ggX8_drive_X8_isPiece : GoodIn wsX8_drive wsX8_isPiece := goodIn_r _ [16, 17, 29, 30, 31, 32, 33, 34, 35, 36, 37, 38, 39, 40, 41, 42, 43, 44, 45, 46, 47] (by decide +kernel) (by decide +kernel)
set_option maxRecDepth 20000 in
theorem gX8_drive_X8_isPiece : GoodIn wsX8_drive (wsV RX8 127 RX8 yX8_isPiece wsX8_isPiece) := goodIn_app (goodIn_of _ (by decide +kernel)) ggX8_drive_X8_isPiece
set_option maxRecDepth 20000 in
theorem ggX8_drive_X8_refuse : GoodIn wsX8_drive wsX8_refuse := goodIn_r _ [21, 22, 29, 30, 31, 32, 33, 34, 35, 36, 37, 38, 39, 40, 41, 42, 43, 44, 45, 46, 47] (by decide +kernel) (by decide +kernel)
set_option maxRecDepth 20000 in
theorem gX8_drive_X8_refuse : GoodIn wsX8_drive (wsV RX8 100 RX8 yX8_refuse wsX8_refuse) := goodIn_app (goodIn_of _ (by decide +kernel)) ggX8_drive_X8_refuse
set_option maxRecDepth 20000 in
theorem ggX8_drive_X4_restsOn : GoodIn wsX8_drive wsX4_restsOn := goodIn_r _ [27, 28, 56, 57, 58, 59, 60, 61] (by decide +kernel) (by decide +kernel)
set_option maxRecDepth 20000 in
theorem gX8_drive_X4_restsOn : GoodIn wsX8_drive (wsV RX8 166 RX4 yX4_restsOn wsX4_restsOn) := goodIn_app (goodIn_of _ (by decide +kernel)) ggX8_drive_X4_restsOn
set_option maxRecDepth 20000 in
theorem ggX8_covered_X8_isOwner : GoodIn wsX8_covered wsX8_isOwner := goodIn_r _ [5, 6, 90, 91, 92, 93, 94, 95, 96, 97, 98, 99, 100, 101, 102, 103, 104, 105, 106, 107, 108] (by decide +kernel) (by decide +kernel)
set_option maxRecDepth 20000 in
theorem gX8_covered_X8_isOwner : GoodIn wsX8_covered (wsV RX8 108 RX8 yX8_isOwner wsX8_isOwner) := goodIn_app (goodIn_of _ (by decide +kernel)) ggX8_covered_X8_isOwner
set_option maxRecDepth 20000 in
theorem ggX8_covered_X8_refuse : GoodIn wsX8_covered wsX8_refuse := goodIn_r _ [10, 11, 90, 91, 92, 93, 94, 95, 96, 97, 98, 99, 100, 101, 102, 103, 104, 105, 106, 107, 108] (by decide +kernel) (by decide +kernel)
set_option maxRecDepth 20000 in
theorem gX8_covered_X8_refuse : GoodIn wsX8_covered (wsV RX8 100 RX8 yX8_refuse wsX8_refuse) := goodIn_app (goodIn_of _ (by decide +kernel)) ggX8_covered_X8_refuse
set_option maxRecDepth 20000 in
theorem ggX8_covered_X8_lackOf : GoodIn wsX8_covered wsX8_lackOf := goodIn_r _ [15, 16, 17, 18, 4, 19, 20, 21, 22, 23, 24, 25, 26, 27, 28, 29, 30, 31, 32, 33, 34, 35, 36, 37, 38, 39, 40, 41, 42, 43, 44, 45, 46, 47, 48, 49, 50, 51, 52, 53, 54, 55, 56, 57, 58, 59, 60, 61, 62, 63, 64, 65, 66, 67, 68, 69, 70, 71, 72, 73, 74, 75, 76, 77, 78, 79, 80, 81, 82, 83, 84, 85, 86, 87, 88, 89, 90, 91, 92, 93, 94, 95, 96, 97, 98, 99, 100, 101, 102, 103, 104, 105, 106, 107, 108, 109, 110, 111, 112, 113, 114, 115, 116, 117, 118, 119, 120, 121, 122, 123, 124, 125, 126, 127, 128, 129, 130] (by decide +kernel) (by decide +kernel)
set_option maxRecDepth 20000 in
theorem gX8_covered_X8_lackOf : GoodIn wsX8_covered (wsV RX8 172 RX8 yX8_lackOf wsX8_lackOf) := goodIn_app (goodIn_of _ (by decide +kernel)) ggX8_covered_X8_lackOf
set_option maxRecDepth 20000 in
theorem ggX8_lacks_X8_isOwner : GoodIn wsX8_lacks wsX8_isOwner := goodIn_r _ [5, 6, 90, 91, 92, 93, 94, 95, 96, 97, 98, 99, 100, 101, 102, 103, 104, 105, 106, 107, 108] (by decide +kernel) (by decide +kernel)
set_option maxRecDepth 20000 in
theorem gX8_lacks_X8_isOwner : GoodIn wsX8_lacks (wsV RX8 108 RX8 yX8_isOwner wsX8_isOwner) := goodIn_app (goodIn_of _ (by decide +kernel)) ggX8_lacks_X8_isOwner
set_option maxRecDepth 20000 in
theorem ggX8_lacks_X8_refuse : GoodIn wsX8_lacks wsX8_refuse := goodIn_r _ [10, 11, 90, 91, 92, 93, 94, 95, 96, 97, 98, 99, 100, 101, 102, 103, 104, 105, 106, 107, 108] (by decide +kernel) (by decide +kernel)
set_option maxRecDepth 20000 in
theorem gX8_lacks_X8_refuse : GoodIn wsX8_lacks (wsV RX8 100 RX8 yX8_refuse wsX8_refuse) := goodIn_app (goodIn_of _ (by decide +kernel)) ggX8_lacks_X8_refuse
set_option maxRecDepth 20000 in
theorem ggX8_lacks_X8_lackOf : GoodIn wsX8_lacks wsX8_lackOf := goodIn_r _ [15, 16, 17, 18, 4, 19, 20, 21, 22, 23, 24, 25, 26, 27, 28, 29, 30, 31, 32, 33, 34, 35, 36, 37, 38, 39, 40, 41, 42, 43, 44, 45, 46, 47, 48, 49, 50, 51, 52, 53, 54, 55, 56, 57, 58, 59, 60, 61, 62, 63, 64, 65, 66, 67, 68, 69, 70, 71, 72, 73, 74, 75, 76, 77, 78, 79, 80, 81, 82, 83, 84, 85, 86, 87, 88, 89, 90, 91, 92, 93, 94, 95, 96, 97, 98, 99, 100, 101, 102, 103, 104, 105, 106, 107, 108, 109, 110, 111, 112, 113, 114, 115, 116, 117, 118, 119, 120, 121, 122, 123, 124, 125, 126, 127, 128, 129, 130] (by decide +kernel) (by decide +kernel)
set_option maxRecDepth 20000 in
theorem gX8_lacks_X8_lackOf : GoodIn wsX8_lacks (wsV RX8 172 RX8 yX8_lackOf wsX8_lackOf) := goodIn_app (goodIn_of _ (by decide +kernel)) ggX8_lacks_X8_lackOf
set_option maxRecDepth 20000 in
theorem ggX8_over_X8_isPiece : GoodIn wsX8_over wsX8_isPiece := goodIn_r _ [10, 11, 34, 35, 36, 37, 38, 39, 40, 41, 42, 43, 44, 45, 46, 47, 48, 49, 50, 51, 52] (by decide +kernel) (by decide +kernel)
set_option maxRecDepth 20000 in
theorem gX8_over_X8_isPiece : GoodIn wsX8_over (wsV RX8 127 RX8 yX8_isPiece wsX8_isPiece) := goodIn_app (goodIn_of _ (by decide +kernel)) ggX8_over_X8_isPiece
set_option maxRecDepth 20000 in
theorem ggX8_over_X8_refuse : GoodIn wsX8_over wsX8_refuse := goodIn_r _ [15, 16, 34, 35, 36, 37, 38, 39, 40, 41, 42, 43, 44, 45, 46, 47, 48, 49, 50, 51, 52] (by decide +kernel) (by decide +kernel)
set_option maxRecDepth 20000 in
theorem gX8_over_X8_refuse : GoodIn wsX8_over (wsV RX8 100 RX8 yX8_refuse wsX8_refuse) := goodIn_app (goodIn_of _ (by decide +kernel)) ggX8_over_X8_refuse
