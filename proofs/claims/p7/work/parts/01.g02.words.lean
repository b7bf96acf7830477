set_option maxRecDepth 20000 in
theorem ggX8_over_X8_partsOn : GoodIn wsX8_over wsX8_partsOn := goodIn_r _ [20, 21, 2, 22, 23, 24, 25, 26, 27, 28, 29, 34, 35, 36, 37, 38, 39, 40, 41, 42, 43, 44, 45, 46, 47, 48, 49, 50, 51, 52, 53, 54, 55, 56, 57, 58, 59, 60] (by decide +kernel) (by decide +kernel)
set_option maxRecDepth 20000 in
theorem gX8_over_X8_partsOn : GoodIn wsX8_over (wsV RX8 178 RX8 yX8_partsOn wsX8_partsOn) := goodIn_app (goodIn_of _ (by decide +kernel)) ggX8_over_X8_partsOn
set_option maxRecDepth 20000 in
theorem ggX8_over_X8_latestOn : GoodIn wsX8_over wsX8_latestOn := goodIn_r _ [33, 21, 2, 22, 3, 34, 35, 36, 37, 38, 39, 40, 41, 42, 43, 44, 45, 46, 47, 48, 49, 50, 51, 52, 53, 54, 55, 56, 57, 58, 59, 60] (by decide +kernel) (by decide +kernel)
set_option maxRecDepth 20000 in
theorem gX8_over_X8_latestOn : GoodIn wsX8_over (wsV RX8 181 RX8 yX8_latestOn wsX8_latestOn) := goodIn_app (goodIn_of _ (by decide +kernel)) ggX8_over_X8_latestOn
set_option maxRecDepth 20000 in
theorem ggX8_over_X2_parts : GoodIn wsX8_over wsX2_parts := goodIn_r _ [27, 28, 29, 53, 54, 55, 56, 57, 58, 59, 60] (by decide +kernel) (by decide +kernel)
set_option maxRecDepth 20000 in
theorem gX8_over_X2_parts : GoodIn wsX8_over (wsV RX8 185 RX2 yX2_parts wsX2_parts) := goodIn_app (goodIn_of _ (by decide +kernel)) ggX8_over_X2_parts
set_option maxRecDepth 20000 in
theorem ggX8_pass_X8_refuse : GoodIn wsX8_pass wsX8_refuse := goodIn_r _ [6, 7, 170, 171, 172, 173, 174, 175, 176, 177, 178, 179, 180, 181, 182, 183, 184, 185, 186, 187, 188] (by decide +kernel) (by decide +kernel)
set_option maxRecDepth 20000 in
theorem gX8_pass_X8_refuse : GoodIn wsX8_pass (wsV RX8 100 RX8 yX8_refuse wsX8_refuse) := goodIn_app (goodIn_of _ (by decide +kernel)) ggX8_pass_X8_refuse
set_option maxRecDepth 20000 in
theorem ggX8_pass_X8_grazeAll : GoodIn wsX8_pass wsX8_grazeAll := goodIn_r _ [11, 12, 13, 14, 15, 5, 16, 17, 18, 19, 20, 21, 22, 23, 1, 24, 25, 26, 27, 28, 29, 30, 31, 32, 33, 34, 35, 36, 37, 38, 39, 40, 41, 42, 43, 44, 45, 46, 47, 48, 49, 50, 51, 52, 53, 54, 55, 56, 57, 58, 59, 60, 61, 62, 63, 64, 65, 66, 67, 68, 69, 70, 71, 72, 73, 74, 75, 76, 77, 78, 79, 80, 81, 82, 83, 84, 85, 86, 87, 88, 89, 90, 91, 92, 170, 171, 172, 173, 174, 175, 176, 177, 178, 179, 180, 181, 182, 183, 184, 185, 186, 187, 188, 189, 190, 191, 192, 193, 194, 195, 196, 197, 198, 199, 200, 201, 202, 203, 204, 205, 206, 207, 208, 209, 210, 211] (by decide +kernel) (by decide +kernel)
set_option maxRecDepth 20000 in
theorem gX8_pass_X8_grazeAll : GoodIn wsX8_pass (wsV RX8 192 RX8 yX8_grazeAll wsX8_grazeAll) := goodIn_app (goodIn_of _ (by decide +kernel)) ggX8_pass_X8_grazeAll
set_option maxRecDepth 20000 in
theorem ggX8_pass_X8_sellFromPound : GoodIn wsX8_pass wsX8_sellFromPound := goodIn_r _ [96, 18, 19, 97, 1, 98, 66, 67, 68, 99, 100, 101, 102, 103, 104, 105, 38, 106, 107, 108, 35, 36, 37, 39, 40, 41, 109, 110, 111, 112, 113, 170, 171, 172, 173, 174, 175, 176, 177, 178, 179, 180, 181, 182, 183, 184, 185, 186, 187, 188, 189, 190, 191, 192, 193, 194, 195, 196, 212, 213] (by decide +kernel) (by decide +kernel)
set_option maxRecDepth 20000 in
theorem gX8_pass_X8_sellFromPound : GoodIn wsX8_pass (wsV RX8 195 RX8 yX8_sellFromPound wsX8_sellFromPound) := goodIn_app (goodIn_of _ (by decide +kernel)) ggX8_pass_X8_sellFromPound
set_option maxRecDepth 20000 in
theorem ggX8_pass_X8_findUsed : GoodIn wsX8_pass wsX8_findUsed := goodIn_r _ [117, 118, 119, 1, 120, 121, 122, 123, 124, 125, 126, 127, 128, 129, 130, 131, 132, 5, 133, 18, 19, 100, 134, 135, 136, 137, 138, 139, 140, 141, 142, 143, 144, 145, 146, 147, 148, 149, 150, 151, 152, 153, 154, 155, 156, 157, 158, 159, 160, 161, 162, 170, 171, 172, 173, 174, 175, 176, 177, 178, 179, 180, 181, 182, 183, 184, 185, 186, 187, 188, 214, 215, 216, 217, 218, 219, 220, 221, 222, 189, 190, 191, 192, 193, 194, 195, 196] (by decide +kernel) (by decide +kernel)
set_option maxRecDepth 20000 in
theorem gX8_pass_X8_findUsed : GoodIn wsX8_pass (wsV RX8 198 RX8 yX8_findUsed wsX8_findUsed) := goodIn_app (goodIn_of _ (by decide +kernel)) ggX8_pass_X8_findUsed
set_option maxRecDepth 20000 in
theorem ggX8_pass_X8_lapse : GoodIn wsX8_pass wsX8_lapse := goodIn_r _ [166, 118, 119, 1, 167, 120, 168, 169, 122, 123, 124, 125, 126, 127, 128, 129, 170, 171, 172, 173, 174, 175, 176, 177, 178, 179, 180, 181, 182, 183, 184, 185, 186, 187, 188, 214, 215, 216, 217, 218, 219, 220, 221, 222] (by decide +kernel) (by decide +kernel)
set_option maxRecDepth 20000 in
theorem gX8_pass_X8_lapse : GoodIn wsX8_pass (wsV RX8 201 RX8 yX8_lapse wsX8_lapse) := goodIn_app (goodIn_of _ (by decide +kernel)) ggX8_pass_X8_lapse
set_option maxRecDepth 20000 in
theorem ggX8_rest_X8_isPiece : GoodIn wsX8_rest wsX8_isPiece := goodIn_r _ [8, 9, 15, 16, 17, 18, 19, 20, 21, 22, 23, 24, 25, 26, 27, 28, 29, 30, 31, 32, 33] (by decide +kernel) (by decide +kernel)
set_option maxRecDepth 20000 in
theorem gX8_rest_X8_isPiece : GoodIn wsX8_rest (wsV RX8 127 RX8 yX8_isPiece wsX8_isPiece) := goodIn_app (goodIn_of _ (by decide +kernel)) ggX8_rest_X8_isPiece
set_option maxRecDepth 20000 in
theorem ggX8_rest_X8_refuse : GoodIn wsX8_rest wsX8_refuse := goodIn_r _ [13, 14, 15, 16, 17, 18, 19, 20, 21, 22, 23, 24, 25, 26, 27, 28, 29, 30, 31, 32, 33] (by decide +kernel) (by decide +kernel)
set_option maxRecDepth 20000 in
theorem gX8_rest_X8_refuse : GoodIn wsX8_rest (wsV RX8 100 RX8 yX8_refuse wsX8_refuse) := goodIn_app (goodIn_of _ (by decide +kernel)) ggX8_rest_X8_refuse
set_option maxRecDepth 20000 in
theorem ggX8_cut_X8_isPiece : GoodIn wsX8_cut wsX8_isPiece := goodIn_r _ [13, 14, 108, 109, 110, 111, 112, 113, 114, 115, 116, 117, 118, 119, 120, 121, 122, 123, 124, 125, 126] (by decide +kernel) (by decide +kernel)
set_option maxRecDepth 20000 in
theorem gX8_cut_X8_isPiece : GoodIn wsX8_cut (wsV RX8 127 RX8 yX8_isPiece wsX8_isPiece) := goodIn_app (goodIn_of _ (by decide +kernel)) ggX8_cut_X8_isPiece
set_option maxRecDepth 20000 in
theorem ggX8_cut_X8_refuse : GoodIn wsX8_cut wsX8_refuse := goodIn_r _ [18, 19, 108, 109, 110, 111, 112, 113, 114, 115, 116, 117, 118, 119, 120, 121, 122, 123, 124, 125, 126] (by decide +kernel) (by decide +kernel)
set_option maxRecDepth 20000 in
theorem gX8_cut_X8_refuse : GoodIn wsX8_cut (wsV RX8 100 RX8 yX8_refuse wsX8_refuse) := goodIn_app (goodIn_of _ (by decide +kernel)) ggX8_cut_X8_refuse
set_option maxRecDepth 20000 in
theorem ggX8_cut_X4_restsOn : GoodIn wsX8_cut wsX4_restsOn := goodIn_r _ [24, 25, 127, 128, 129, 130, 131, 132] (by decide +kernel) (by decide +kernel)
set_option maxRecDepth 20000 in
theorem gX8_cut_X4_restsOn : GoodIn wsX8_cut (wsV RX8 166 RX4 yX4_restsOn wsX4_restsOn) := goodIn_app (goodIn_of _ (by decide +kernel)) ggX8_cut_X4_restsOn
set_option maxRecDepth 20000 in
theorem ggX8_cut_X8_herdsOn : GoodIn wsX8_cut wsX8_herdsOn := goodIn_r _ [29, 30, 31, 32, 108, 109, 110, 111, 112, 113, 114, 115, 116, 117, 118, 119, 120, 121, 122, 123, 124, 125, 126, 133, 134, 135, 136, 137, 138, 139, 140] (by decide +kernel) (by decide +kernel)
set_option maxRecDepth 20000 in
theorem gX8_cut_X8_herdsOn : GoodIn wsX8_cut (wsV RX8 207 RX8 yX8_herdsOn wsX8_herdsOn) := goodIn_app (goodIn_of _ (by decide +kernel)) ggX8_cut_X8_herdsOn
set_option maxRecDepth 20000 in
theorem ggX8_cut_X8_shareHay : GoodIn wsX8_cut wsX8_shareHay := goodIn_r _ [36, 37, 38, 39, 40, 41, 42, 43, 12, 44, 45, 30, 31, 46, 47, 48, 49, 50, 51, 52, 53, 54, 55, 56, 57, 58, 59, 60, 61, 62, 63, 64, 65, 66, 67, 68, 69, 70, 71, 72, 73, 74, 75, 76, 77, 78, 79, 80, 81, 82, 83, 84, 85, 86, 87, 2, 88, 89, 90, 91, 92, 93, 94, 95, 96, 97, 98, 99, 100, 101, 102, 103, 104, 105, 106, 107, 108, 109, 110, 111, 112, 113, 114, 115, 116, 117, 118, 119, 120, 121, 122, 123, 124, 125, 126, 141, 142, 133, 134, 135, 136, 137, 138, 139, 140, 143, 144, 145, 146, 147, 148, 149, 150, 151, 152, 153, 154, 155, 156] (by decide +kernel) (by decide +kernel)
set_option maxRecDepth 20000 in
theorem gX8_cut_X8_shareHay : GoodIn wsX8_cut (wsV RX8 218 RX8 yX8_shareHay wsX8_shareHay) := goodIn_app (goodIn_of _ (by decide +kernel)) ggX8_cut_X8_shareHay
set_option maxRecDepth 20000 in
theorem ggX8_pound_X8_isHerd : GoodIn wsX8_pound wsX8_isHerd := goodIn_r _ [11, 12, 92, 93, 94, 95, 96, 97, 98, 99, 100, 101, 102, 103, 104, 105, 106, 107, 108, 109, 110] (by decide +kernel) (by decide +kernel)
set_option maxRecDepth 20000 in
theorem gX8_pound_X8_isHerd : GoodIn wsX8_pound (wsV RX8 157 RX8 yX8_isHerd wsX8_isHerd) := goodIn_app (goodIn_of _ (by decide +kernel)) ggX8_pound_X8_isHerd
set_option maxRecDepth 20000 in
theorem ggX8_pound_X8_refuse : GoodIn wsX8_pound wsX8_refuse := goodIn_r _ [16, 17, 92, 93, 94, 95, 96, 97, 98, 99, 100, 101, 102, 103, 104, 105, 106, 107, 108, 109, 110] (by decide +kernel) (by decide +kernel)
set_option maxRecDepth 20000 in
theorem gX8_pound_X8_refuse : GoodIn wsX8_pound (wsV RX8 100 RX8 yX8_refuse wsX8_refuse) := goodIn_app (goodIn_of _ (by decide +kernel)) ggX8_pound_X8_refuse
set_option maxRecDepth 20000 in
theorem ggX8_pound_X8_lackOf : GoodIn wsX8_pound wsX8_lackOf := goodIn_r _ [21, 22, 23, 24, 10, 25, 26, 12, 1, 3, 27, 28, 29, 30, 31, 32, 33, 34, 35, 36, 37, 38, 39, 40, 41, 42, 43, 44, 45, 46, 47, 48, 49, 50, 51, 52, 53, 54, 55, 56, 57, 58, 59, 60, 61, 62, 63, 64, 65, 66, 67, 5, 68, 69, 70, 71, 72, 73, 74, 75, 76, 77, 78, 79, 80, 81, 82, 83, 84, 85, 86, 87, 88, 89, 90, 91, 92, 93, 94, 95, 96, 97, 98, 99, 100, 101, 102, 103, 104, 105, 106, 107, 108, 109, 110, 111, 112, 113, 114, 115, 116, 117, 118, 119, 120, 121, 122, 123, 124, 125, 126, 127, 128, 129, 130, 131, 132] (by decide +kernel) (by decide +kernel)
set_option maxRecDepth 20000 in
theorem gX8_pound_X8_lackOf : GoodIn wsX8_pound (wsV RX8 172 RX8 yX8_lackOf wsX8_lackOf) := goodIn_app (goodIn_of _ (by decide +kernel)) ggX8_pound_X8_lackOf
set_option maxRecDepth 20000 in
theorem ggX8_free_X8_isHerd : GoodIn wsX8_free wsX8_isHerd := goodIn_r _ [12, 13, 31, 32, 33, 34, 35, 36, 37, 38, 39, 40, 41, 42, 43, 44, 45, 46, 47, 48, 49] (by decide +kernel) (by decide +kernel)
set_option maxRecDepth 20000 in
theorem gX8_free_X8_isHerd : GoodIn wsX8_free (wsV RX8 157 RX8 yX8_isHerd wsX8_isHerd) := goodIn_app (goodIn_of _ (by decide +kernel)) ggX8_free_X8_isHerd
set_option maxRecDepth 20000 in
theorem ggX8_free_X8_refuse : GoodIn wsX8_free wsX8_refuse := goodIn_r _ [17, 18, 31, 32, 33, 34, 35, 36, 37, 38, 39, 40, 41, 42, 43, 44, 45, 46, 47, 48, 49] (by decide +kernel) (by decide +kernel)
set_option maxRecDepth 20000 in
theorem gX8_free_X8_refuse : GoodIn wsX8_free (wsV RX8 100 RX8 yX8_refuse wsX8_refuse) := goodIn_app (goodIn_of _ (by decide +kernel)) ggX8_free_X8_refuse
set_option maxRecDepth 20000 in
theorem ggX8_free_X2_fee : GoodIn wsX8_free wsX2_fee := goodIn_r _ [23, 24, 25, 26, 27, 22, 28, 29, 30, 50, 51, 52, 53, 54, 55, 56, 57] (by decide +kernel) (by decide +kernel)
set_option maxRecDepth 20000 in
theorem gX8_free_X2_fee : GoodIn wsX8_free (wsV RX8 225 RX2 yX2_fee wsX2_fee) := goodIn_app (goodIn_of _ (by decide +kernel)) ggX8_free_X2_fee
set_option maxRecDepth 20000 in
theorem ggX8_plan_X8_isHerd : GoodIn wsX8_plan wsX8_isHerd := goodIn_r _ [10, 11, 168, 169, 170, 171, 172, 173, 174, 175, 176, 177, 178, 179, 180, 181, 182, 183, 184, 185, 186] (by decide +kernel) (by decide +kernel)
set_option maxRecDepth 20000 in
theorem gX8_plan_X8_isHerd : GoodIn wsX8_plan (wsV RX8 157 RX8 yX8_isHerd wsX8_isHerd) := goodIn_app (goodIn_of _ (by decide +kernel)) ggX8_plan_X8_isHerd
set_option maxRecDepth 20000 in
theorem ggX8_plan_X8_refuse : GoodIn wsX8_plan wsX8_refuse := goodIn_r _ [15, 16, 168, 169, 170, 171, 172, 173, 174, 175, 176, 177, 178, 179, 180, 181, 182, 183, 184, 185, 186] (by decide +kernel) (by decide +kernel)
set_option maxRecDepth 20000 in
theorem gX8_plan_X8_refuse : GoodIn wsX8_plan (wsV RX8 100 RX8 yX8_refuse wsX8_refuse) := goodIn_app (goodIn_of _ (by decide +kernel)) ggX8_plan_X8_refuse
set_option maxRecDepth 20000 in
theorem ggX8_plan_X8_openPieces : GoodIn wsX8_plan wsX8_openPieces := goodIn_r _ [20, 5, 21, 22, 23, 24, 25, 26, 27, 168, 169, 170, 171, 172, 173, 174, 175, 176, 177, 178, 179, 180, 181, 182, 183, 184, 185, 186, 195, 196, 197, 198, 199, 200] (by decide +kernel) (by decide +kernel)
set_option maxRecDepth 20000 in
theorem gX8_plan_X8_openPieces : GoodIn wsX8_plan (wsV RX8 231 RX8 yX8_openPieces wsX8_openPieces) := goodIn_app (goodIn_of _ (by decide +kernel)) ggX8_plan_X8_openPieces
set_option maxRecDepth 20000 in
theorem ggX8_plan_X6_begin : GoodIn wsX8_plan wsX6_begin := goodIn_r _ [32, 33, 34, 35, 36, 37, 201, 202, 203, 204, 205, 206, 207, 208, 209, 210] (by decide +kernel) (by decide +kernel)
set_option maxRecDepth 20000 in
theorem gX8_plan_X6_begin : GoodIn wsX8_plan (wsV RX8 234 RX6 yX6_begin wsX6_begin) := goodIn_app (goodIn_of _ (by decide +kernel)) ggX8_plan_X6_begin
set_option maxRecDepth 20000 in
theorem ggX8_plan_X8_reckonTurns : GoodIn wsX8_plan wsX8_reckonTurns := goodIn_r _ [41, 4, 42, 43, 3, 44, 5, 45, 17, 18, 19, 9, 20, 21, 22, 23, 24, 25, 26, 27, 46, 47, 48, 31, 49, 50, 51, 52, 53, 35, 36, 54, 55, 56, 57, 58, 59, 60, 61, 62, 63, 64, 65, 66, 67, 68, 69, 70, 11, 1, 71, 72, 73, 74, 75, 76, 77, 78, 79, 80, 81, 82, 83, 33, 34, 84, 85, 86, 87, 88, 89, 90, 91, 92, 93, 94, 95, 96, 97, 98, 99, 100, 101, 102, 103, 104, 105, 106, 107, 108, 109, 110, 111, 112, 113, 114, 115, 116, 117, 118, 119, 120, 121, 122, 123, 124, 125, 126, 127, 128, 129, 130, 131, 132, 133, 134, 135, 136, 137, 138, 139, 140, 141, 142, 168, 169, 170, 171, 172, 173, 174, 175, 176, 177, 178, 179, 180, 181, 182, 183, 184, 185, 186, 201, 202, 203, 204, 205, 206, 207, 208, 209, 210, 195, 196, 197, 198, 199, 200, 187, 188, 189, 190, 191, 192, 193, 194, 211, 212, 213, 214, 215, 216, 217, 218, 219] (by decide +kernel) (by decide +kernel)
set_option maxRecDepth 20000 in
theorem gX8_plan_X8_reckonTurns : GoodIn wsX8_plan (wsV RX8 238 RX8 yX8_reckonTurns wsX8_reckonTurns) := goodIn_app (goodIn_of _ (by decide +kernel)) ggX8_plan_X8_reckonTurns
set_option maxRecDepth 20000 in
theorem ggX8_plan_X6_choose : GoodIn wsX8_plan wsX6_choose := goodIn_r _ [146, 147, 148, 149, 150, 151, 152, 50, 51, 52, 31, 53, 35, 36, 54, 55, 56, 57, 153, 154, 155, 156, 157, 158, 159, 160, 161, 162, 163, 164, 165, 166, 167, 201, 202, 203, 204, 205, 206, 207, 208, 209, 210] (by decide +kernel) (by decide +kernel)
set_option maxRecDepth 20000 in
theorem gX8_plan_X6_choose : GoodIn wsX8_plan (wsV RX8 241 RX6 yX6_choose wsX6_choose) := goodIn_app (goodIn_of _ (by decide +kernel)) ggX8_plan_X6_choose
set_option maxRecDepth 20000 in
theorem ggX8_planned_X6_pieceOfStep : GoodIn wsX8_planned wsX6_pieceOfStep := goodIn_r _ [6, 7, 8, 9, 29, 30, 31, 32, 33, 34, 35, 36, 37, 38] (by decide +kernel) (by decide +kernel)
set_option maxRecDepth 20000 in
theorem gX8_planned_X6_pieceOfStep : GoodIn wsX8_planned (wsV RX8 244 RX6 yX6_pieceOfStep wsX6_pieceOfStep) := goodIn_app (goodIn_of _ (by decide +kernel)) ggX8_planned_X6_pieceOfStep
set_option maxRecDepth 20000 in
theorem ggX8_pieceOf_X8_isPiece : GoodIn wsX8_pieceOf wsX8_isPiece := goodIn_r _ [11, 12, 36, 37, 38, 39, 40, 41, 42, 43, 44, 45, 46, 47, 48, 49, 50, 51, 52, 53, 54] (by decide +kernel) (by decide +kernel)
set_option maxRecDepth 20000 in
theorem gX8_pieceOf_X8_isPiece : GoodIn wsX8_pieceOf (wsV RX8 127 RX8 yX8_isPiece wsX8_isPiece) := goodIn_app (goodIn_of _ (by decide +kernel)) ggX8_pieceOf_X8_isPiece
set_option maxRecDepth 20000 in
theorem ggX8_pieceOf_X8_refuse : GoodIn wsX8_pieceOf wsX8_refuse := goodIn_r _ [16, 17, 36, 37, 38, 39, 40, 41, 42, 43, 44, 45, 46, 47, 48, 49, 50, 51, 52, 53, 54] (by decide +kernel) (by decide +kernel)
set_option maxRecDepth 20000 in
theorem gX8_pieceOf_X8_refuse : GoodIn wsX8_pieceOf (wsV RX8 100 RX8 yX8_refuse wsX8_refuse) := goodIn_app (goodIn_of _ (by decide +kernel)) ggX8_pieceOf_X8_refuse
set_option maxRecDepth 20000 in
theorem ggX8_pieceOf_X8_partsOn : GoodIn wsX8_pieceOf wsX8_partsOn := goodIn_r _ [21, 22, 23, 24, 25, 26, 27, 28, 29, 30, 31, 36, 37, 38, 39, 40, 41, 42, 43, 44, 45, 46, 47, 48, 49, 50, 51, 52, 53, 54, 61, 62, 63, 64, 65, 66, 67, 68] (by decide +kernel) (by decide +kernel)
set_option maxRecDepth 20000 in
theorem gX8_pieceOf_X8_partsOn : GoodIn wsX8_pieceOf (wsV RX8 178 RX8 yX8_partsOn wsX8_partsOn) := goodIn_app (goodIn_of _ (by decide +kernel)) ggX8_pieceOf_X8_partsOn
set_option maxRecDepth 20000 in
theorem ggX8_pieceOf_X8_herdsOn : GoodIn wsX8_pieceOf wsX8_herdsOn := goodIn_r _ [35, 22, 23, 24, 36, 37, 38, 39, 40, 41, 42, 43, 44, 45, 46, 47, 48, 49, 50, 51, 52, 53, 54, 61, 62, 63, 64, 65, 66, 67, 68] (by decide +kernel) (by decide +kernel)
set_option maxRecDepth 20000 in
theorem gX8_pieceOf_X8_herdsOn : GoodIn wsX8_pieceOf (wsV RX8 207 RX8 yX8_herdsOn wsX8_herdsOn) := goodIn_app (goodIn_of _ (by decide +kernel)) ggX8_pieceOf_X8_herdsOn
set_option maxRecDepth 20000 in
theorem ggX8_rightOf_X8_isRight : GoodIn wsX8_rightOf wsX8_isRight := goodIn_r _ [13, 14, 44, 45, 46, 47, 48, 49, 50, 51, 52, 53, 54, 55, 56, 57, 58, 59, 60, 61, 62] (by decide +kernel) (by decide +kernel)
set_option maxRecDepth 20000 in
theorem gX8_rightOf_X8_isRight : GoodIn wsX8_rightOf (wsV RX8 253 RX8 yX8_isRight wsX8_isRight) := goodIn_app (goodIn_of _ (by decide +kernel)) ggX8_rightOf_X8_isRight
set_option maxRecDepth 20000 in
theorem ggX8_rightOf_X8_refuse : GoodIn wsX8_rightOf wsX8_refuse := goodIn_r _ [18, 19, 44, 45, 46, 47, 48, 49, 50, 51, 52, 53, 54, 55, 56, 57, 58, 59, 60, 61, 62] (by decide +kernel) (by decide +kernel)
set_option maxRecDepth 20000 in
theorem gX8_rightOf_X8_refuse : GoodIn wsX8_rightOf (wsV RX8 100 RX8 yX8_refuse wsX8_refuse) := goodIn_app (goodIn_of _ (by decide +kernel)) ggX8_rightOf_X8_refuse
set_option maxRecDepth 20000 in
theorem ggX8_rightOf_X8_holder : GoodIn wsX8_rightOf wsX8_holder := goodIn_r _ [23, 2, 24, 25, 26, 27, 28, 12, 29, 30, 63, 64, 65, 66, 67, 68, 69, 70, 71, 44, 45, 46, 47, 48, 49, 50, 51, 52, 53, 54, 55, 56, 57, 58, 59, 60, 61, 62] (by decide +kernel) (by decide +kernel)
set_option maxRecDepth 20000 in
theorem gX8_rightOf_X8_holder : GoodIn wsX8_rightOf (wsV RX8 256 RX8 yX8_holder wsX8_holder) := goodIn_app (goodIn_of _ (by decide +kernel)) ggX8_rightOf_X8_holder
