set_option maxRecDepth 20000 in
theorem ggX8_graze_X3_passDay : GoodIn wsX8_graze wsX3_passDay := goodIn_r _ [48, 49, 18, 50, 51, 52, 53, 19, 54, 17, 33, 32, 55, 56, 57, 15, 58, 59, 60, 61, 62, 63, 64, 65, 66, 67, 68, 69, 70, 71, 72, 73, 105, 106, 107, 108, 109, 110, 111, 112, 113, 114, 115, 116, 117] (by decide +kernel) (by decide +kernel)
set_option maxRecDepth 20000 in
theorem gX8_graze_X3_passDay : GoodIn wsX8_graze (wsV RX8 337 RX3 yX3_passDay wsX3_passDay) := goodIn_app (goodIn_of _ (by decide +kernel)) ggX8_graze_X3_passDay
set_option maxRecDepth 20000 in
theorem ggX8_graze_X3_hungerOf : GoodIn wsX8_graze wsX3_hungerOf := goodIn_r _ [77, 17, 31, 33, 111, 112, 113, 114, 115, 116, 117] (by decide +kernel) (by decide +kernel)
set_option maxRecDepth 20000 in
theorem gX8_graze_X3_hungerOf : GoodIn wsX8_graze (wsV RX8 342 RX3 yX3_hungerOf wsX3_hungerOf) := goodIn_app (goodIn_of _ (by decide +kernel)) ggX8_graze_X3_hungerOf
set_option maxRecDepth 20000 in
theorem ggX8_sellFromPound_X2_daysInPound : GoodIn wsX8_sellFromPound wsX2_daysInPound := goodIn_r _ [17, 18, 19, 50, 51, 52, 53, 54, 55, 56, 57] (by decide +kernel) (by decide +kernel)
set_option maxRecDepth 20000 in
theorem gX8_sellFromPound_X2_daysInPound : GoodIn wsX8_sellFromPound (wsV RX8 345 RX2 yX2_daysInPound wsX2_daysInPound) := goodIn_app (goodIn_of _ (by decide +kernel)) ggX8_sellFromPound_X2_daysInPound
set_option maxRecDepth 20000 in
theorem ggX8_sellFromPound_X2_parts : GoodIn wsX8_sellFromPound wsX2_parts := goodIn_r _ [23, 24, 25, 50, 51, 52, 53, 54, 55, 56, 57] (by decide +kernel) (by decide +kernel)
set_option maxRecDepth 20000 in
theorem gX8_sellFromPound_X2_parts : GoodIn wsX8_sellFromPound (wsV RX8 185 RX2 yX2_parts wsX2_parts) := goodIn_app (goodIn_of _ (by decide +kernel)) ggX8_sellFromPound_X2_parts
set_option maxRecDepth 20000 in
theorem ggX8_sellFromPound_X2_fee : GoodIn wsX8_sellFromPound wsX2_fee := goodIn_r _ [29, 25, 30, 14, 15, 16, 17, 18, 19, 50, 51, 52, 53, 54, 55, 56, 57] (by decide +kernel) (by decide +kernel)
set_option maxRecDepth 20000 in
theorem gX8_sellFromPound_X2_fee : GoodIn wsX8_sellFromPound (wsV RX8 225 RX2 yX2_fee wsX2_fee) := goodIn_app (goodIn_of _ (by decide +kernel)) ggX8_sellFromPound_X2_fee
set_option maxRecDepth 20000 in
theorem ggX8_findUsed_X0_isInForce : GoodIn wsX8_findUsed wsX0_isInForce := goodIn_r _ [10, 11, 12, 13, 70, 71, 72, 73, 74, 75, 76, 77, 78] (by decide +kernel) (by decide +kernel)
set_option maxRecDepth 20000 in
theorem gX8_findUsed_X0_isInForce : GoodIn wsX8_findUsed (wsV RX8 143 RX0 yX0_isInForce wsX0_isInForce) := goodIn_app (goodIn_of _ (by decide +kernel)) ggX8_findUsed_X0_isInForce
set_option maxRecDepth 20000 in
theorem ggX8_findUsed_X8_hasHerdFor : GoodIn wsX8_findUsed wsX8_hasHerdFor := goodIn_r _ [18, 19, 20, 21, 22, 23, 24, 17, 25, 26, 27, 28, 29, 30, 31, 32, 33, 34, 35, 36, 9, 37, 38, 39, 40, 41, 51, 52, 53, 54, 55, 56, 57, 58, 59, 60, 61, 62, 63, 64, 65, 66, 67, 68, 69, 79, 80, 81, 82, 83, 84, 85, 86, 70, 71, 72, 73, 74, 75, 76, 77, 78] (by decide +kernel) (by decide +kernel)
set_option maxRecDepth 20000 in
theorem gX8_findUsed_X8_hasHerdFor : GoodIn wsX8_findUsed (wsV RX8 351 RX8 yX8_hasHerdFor wsX8_hasHerdFor) := goodIn_app (goodIn_of _ (by decide +kernel)) ggX8_findUsed_X8_hasHerdFor
set_option maxRecDepth 20000 in
theorem ggX8_findUsed_X8_countingParts : GoodIn wsX8_findUsed wsX8_countingParts := goodIn_r _ [45, 2, 3, 46, 1, 26, 5, 6, 7, 8, 9, 10, 11, 12, 13, 51, 52, 53, 54, 55, 56, 57, 58, 59, 60, 61, 62, 63, 64, 65, 66, 67, 68, 69, 70, 71, 72, 73, 74, 75, 76, 77, 78] (by decide +kernel) (by decide +kernel)
set_option maxRecDepth 20000 in
theorem gX8_findUsed_X8_countingParts : GoodIn wsX8_findUsed (wsV RX8 146 RX8 yX8_countingParts wsX8_countingParts) := goodIn_app (goodIn_of _ (by decide +kernel)) ggX8_findUsed_X8_countingParts
set_option maxRecDepth 20000 in
theorem ggX8_findUsed_X8_isRight : GoodIn wsX8_findUsed wsX8_isRight := goodIn_r _ [50, 1, 51, 52, 53, 54, 55, 56, 57, 58, 59, 60, 61, 62, 63, 64, 65, 66, 67, 68, 69] (by decide +kernel) (by decide +kernel)
set_option maxRecDepth 20000 in
theorem gX8_findUsed_X8_isRight : GoodIn wsX8_findUsed (wsV RX8 253 RX8 yX8_isRight wsX8_isRight) := goodIn_app (goodIn_of _ (by decide +kernel)) ggX8_findUsed_X8_isRight
set_option maxRecDepth 20000 in
theorem ggX8_hasHerdFor_X8_holder : GoodIn wsX8_hasHerdFor wsX8_holder := goodIn_r _ [8, 9, 10, 11, 12, 13, 14, 7, 15, 16, 53, 54, 55, 56, 57, 58, 59, 60, 61, 26, 27, 28, 29, 30, 31, 32, 33, 34, 35, 36, 37, 38, 39, 40, 41, 42, 43, 44] (by decide +kernel) (by decide +kernel)
set_option maxRecDepth 20000 in
theorem gX8_hasHerdFor_X8_holder : GoodIn wsX8_hasHerdFor (wsV RX8 256 RX8 yX8_holder wsX8_holder) := goodIn_app (goodIn_of _ (by decide +kernel)) ggX8_hasHerdFor_X8_holder
set_option maxRecDepth 20000 in
theorem ggX8_hasHerdFor_X0_fits : GoodIn wsX8_hasHerdFor wsX0_fits := goodIn_r _ [21, 22, 23, 24, 25, 45, 46, 47, 48, 49, 50, 51, 52, 53, 54, 55, 56, 57, 58, 59, 60, 61] (by decide +kernel) (by decide +kernel)
set_option maxRecDepth 20000 in
theorem gX8_hasHerdFor_X0_fits : GoodIn wsX8_hasHerdFor (wsV RX8 355 RX0 yX0_fits wsX0_fits) := goodIn_app (goodIn_of _ (by decide +kernel)) ggX8_hasHerdFor_X0_fits
set_option maxRecDepth 20000 in
theorem ggX8_lapse_X0_isInForce : GoodIn wsX8_lapse wsX0_isInForce := goodIn_r _ [12, 13, 14, 15, 35, 36, 37, 38, 39, 40, 41, 42, 43] (by decide +kernel) (by decide +kernel)
set_option maxRecDepth 20000 in
theorem gX8_lapse_X0_isInForce : GoodIn wsX8_lapse (wsV RX8 143 RX0 yX0_isInForce wsX0_isInForce) := goodIn_app (goodIn_of _ (by decide +kernel)) ggX8_lapse_X0_isInForce
set_option maxRecDepth 20000 in
theorem ggX8_shareHay_X8_coverOf : GoodIn wsX8_shareHay wsX8_coverOf := goodIn_r _ [9, 10, 11, 12, 13, 14, 15, 16, 17, 18, 19, 20, 21, 22, 23, 24, 25, 26, 27, 28, 29, 30, 31, 32, 33, 34, 35, 36, 37, 38, 39, 40, 41, 8, 42, 43, 44, 45, 46, 47, 48, 49, 50, 51, 52, 53, 54, 55, 56, 57, 58, 59, 60, 61, 62, 63, 64, 65, 66, 67, 68, 69, 70, 71, 76, 77, 78, 79, 80, 81, 82, 83, 84, 85, 86, 87, 88, 89, 90, 91, 92, 93, 94, 97, 98, 99, 100, 101, 102, 103, 104, 105, 106, 107, 108, 109, 110, 111, 112, 113, 114, 115, 116, 117, 118] (by decide +kernel) (by decide +kernel)
set_option maxRecDepth 20000 in
theorem gX8_shareHay_X8_coverOf : GoodIn wsX8_shareHay (wsV RX8 284 RX8 yX8_coverOf wsX8_coverOf) := goodIn_app (goodIn_of _ (by decide +kernel)) ggX8_shareHay_X8_coverOf
set_option maxRecDepth 20000 in
theorem ggX8_shareHay_X1_partsForHay : GoodIn wsX8_shareHay wsX1_partsForHay := goodIn_r _ [75, 25, 23, 105, 106, 107, 108, 109] (by decide +kernel) (by decide +kernel)
set_option maxRecDepth 20000 in
theorem gX8_shareHay_X1_partsForHay : GoodIn wsX8_shareHay (wsV RX8 359 RX1 yX1_partsForHay wsX1_partsForHay) := goodIn_app (goodIn_of _ (by decide +kernel)) ggX8_shareHay_X1_partsForHay
set_option maxRecDepth 20000 in
theorem ggX8_openPieces_X4_restsOn : GoodIn wsX8_openPieces wsX4_restsOn := goodIn_r _ [7, 8, 28, 29, 30, 31, 32, 33] (by decide +kernel) (by decide +kernel)
set_option maxRecDepth 20000 in
theorem gX8_openPieces_X4_restsOn : GoodIn wsX8_openPieces (wsV RX8 166 RX4 yX4_restsOn wsX4_restsOn) := goodIn_app (goodIn_of _ (by decide +kernel)) ggX8_openPieces_X4_restsOn
set_option maxRecDepth 20000 in
theorem ggX8_reckonTurns_X8_openPieces : GoodIn wsX8_reckonTurns wsX8_openPieces := goodIn_r _ [12, 6, 13, 14, 15, 16, 17, 18, 19, 124, 125, 126, 127, 128, 129, 130, 131, 132, 133, 134, 135, 136, 137, 138, 139, 140, 141, 142, 153, 154, 155, 156, 157, 158] (by decide +kernel) (by decide +kernel)
set_option maxRecDepth 20000 in
theorem gX8_reckonTurns_X8_openPieces : GoodIn wsX8_reckonTurns (wsV RX8 231 RX8 yX8_openPieces wsX8_openPieces) := goodIn_app (goodIn_of _ (by decide +kernel)) ggX8_reckonTurns_X8_openPieces
set_option maxRecDepth 20000 in
theorem ggX8_reckonTurns_X6_waysToVisit : GoodIn wsX8_reckonTurns wsX6_waysToVisit := goodIn_r _ [24, 25, 26, 27, 23, 28, 29, 30, 31, 32, 33, 34, 143, 144, 145, 146, 147, 148, 149, 150, 151, 152] (by decide +kernel) (by decide +kernel)
set_option maxRecDepth 20000 in
theorem gX8_reckonTurns_X6_waysToVisit : GoodIn wsX8_reckonTurns (wsV RX8 371 RX6 yX6_waysToVisit wsX6_waysToVisit) := goodIn_app (goodIn_of _ (by decide +kernel)) ggX8_reckonTurns_X6_waysToVisit
set_option maxRecDepth 20000 in
theorem ggX8_reckonTurns_X8_hungerOfVisits : GoodIn wsX8_reckonTurns wsX8_hungerOfVisits := goodIn_r _ [38, 13, 39, 4, 1, 2, 5, 40, 41, 42, 43, 44, 45, 46, 11, 47, 48, 49, 50, 51, 52, 53, 54, 55, 56, 57, 58, 59, 60, 61, 23, 62, 63, 64, 65, 66, 67, 68, 29, 69, 70, 71, 72, 73, 74, 75, 76, 77, 78, 79, 80, 81, 82, 83, 84, 85, 86, 87, 88, 89, 90, 91, 92, 93, 94, 95, 96, 97, 98, 99, 32, 33, 34, 100, 101, 102, 103, 104, 105, 106, 107, 108, 109, 110, 111, 112, 113, 114, 115, 116, 117, 118, 119, 120, 121, 122, 123, 124, 125, 126, 127, 128, 129, 130, 131, 132, 133, 134, 135, 136, 137, 138, 139, 140, 141, 142, 153, 154, 155, 156, 157, 158, 143, 144, 145, 146, 147, 148, 149, 150, 151, 152, 159, 160, 161, 162, 163, 164, 165, 166, 167, 168, 169, 170, 171, 172, 173, 174, 175] (by decide +kernel) (by decide +kernel)
set_option maxRecDepth 20000 in
theorem gX8_reckonTurns_X8_hungerOfVisits : GoodIn wsX8_reckonTurns (wsV RX8 377 RX8 yX8_hungerOfVisits wsX8_hungerOfVisits) := goodIn_app (goodIn_of _ (by decide +kernel)) ggX8_reckonTurns_X8_hungerOfVisits
set_option maxRecDepth 20000 in
theorem ggX8_hungerOfVisits_X8_gatherForStep : GoodIn wsX8_hungerOfVisits wsX8_gatherForStep := goodIn_r _ [15, 7, 16, 4, 17, 18, 19, 20, 21, 22, 23, 24, 25, 26, 27, 28, 29, 30, 31, 32, 33, 34, 35, 36, 37, 38, 39, 40, 41, 42, 43, 44, 45, 46, 47, 48, 49, 50, 51, 52, 97, 98, 99, 100, 101, 102, 103, 104, 105, 106, 107, 108, 109, 110, 111, 112, 113, 114, 115, 132, 133, 134, 135, 136, 137, 138, 139, 140, 141, 142, 143, 144, 145, 146, 122, 123, 124, 125, 126, 127, 128, 129, 130, 131] (by decide +kernel) (by decide +kernel)
set_option maxRecDepth 20000 in
theorem gX8_hungerOfVisits_X8_gatherForStep : GoodIn wsX8_hungerOfVisits (wsV RX8 380 RX8 yX8_gatherForStep wsX8_gatherForStep) := goodIn_app (goodIn_of _ (by decide +kernel)) ggX8_hungerOfVisits_X8_gatherForStep
set_option maxRecDepth 20000 in
theorem ggX8_hungerOfVisits_X7_rainOn : GoodIn wsX8_hungerOfVisits wsX7_rainOn := goodIn_r _ [57, 58, 147, 148] (by decide +kernel) (by decide +kernel)
set_option maxRecDepth 20000 in
theorem gX8_hungerOfVisits_X7_rainOn : GoodIn wsX8_hungerOfVisits (wsV RX8 331 RX7 yX7_rainOn wsX7_rainOn) := goodIn_app (goodIn_of _ (by decide +kernel)) ggX8_hungerOfVisits_X7_rainOn
set_option maxRecDepth 20000 in
theorem ggX8_hungerOfVisits_X7_rateOn : GoodIn wsX8_hungerOfVisits wsX7_rateOn := goodIn_r _ [62, 63, 58, 147, 148] (by decide +kernel) (by decide +kernel)
set_option maxRecDepth 20000 in
theorem gX8_hungerOfVisits_X7_rateOn : GoodIn wsX8_hungerOfVisits (wsV RX8 334 RX7 yX7_rateOn wsX7_rateOn) := goodIn_app (goodIn_of _ (by decide +kernel)) ggX8_hungerOfVisits_X7_rateOn
set_option maxRecDepth 20000 in
theorem ggX8_hungerOfVisits_X3_passDay : GoodIn wsX8_hungerOfVisits wsX3_passDay := goodIn_r _ [67, 68, 25, 69, 70, 71, 72, 26, 73, 24, 52, 51, 74, 75, 76, 22, 77, 78, 79, 80, 81, 82, 83, 84, 85, 86, 87, 88, 89, 90, 91, 92, 116, 117, 118, 119, 120, 121, 140, 141, 142, 143, 144, 145, 146] (by decide +kernel) (by decide +kernel)
set_option maxRecDepth 20000 in
theorem gX8_hungerOfVisits_X3_passDay : GoodIn wsX8_hungerOfVisits (wsV RX8 337 RX3 yX3_passDay wsX3_passDay) := goodIn_app (goodIn_of _ (by decide +kernel)) ggX8_hungerOfVisits_X3_passDay
set_option maxRecDepth 20000 in
theorem ggX8_hungerOfVisits_X3_hungerOf : GoodIn wsX8_hungerOfVisits wsX3_hungerOf := goodIn_r _ [96, 24, 50, 52, 140, 141, 142, 143, 144, 145, 146] (by decide +kernel) (by decide +kernel)
set_option maxRecDepth 20000 in
theorem gX8_hungerOfVisits_X3_hungerOf : GoodIn wsX8_hungerOfVisits (wsV RX8 342 RX3 yX3_hungerOf wsX3_hungerOf) := goodIn_app (goodIn_of _ (by decide +kernel)) ggX8_hungerOfVisits_X3_hungerOf
set_option maxRecDepth 20000 in
theorem ggX8_gatherForStep_X3_clear : GoodIn wsX8_gatherForStep wsX3_clear := goodIn_r _ [10, 11, 12, 13, 67, 68, 69, 70, 71, 72, 73] (by decide +kernel) (by decide +kernel)
set_option maxRecDepth 20000 in
theorem gX8_gatherForStep_X3_clear : GoodIn wsX8_gatherForStep (wsV RX8 327 RX3 yX3_clear wsX3_clear) := goodIn_app (goodIn_of _ (by decide +kernel)) ggX8_gatherForStep_X3_clear
set_option maxRecDepth 20000 in
theorem ggX8_gatherForStep_X6_isTurning : GoodIn wsX8_gatherForStep wsX6_isTurning := goodIn_r _ [18, 19, 20, 74, 75, 76, 77, 78, 79, 80, 81, 82, 83] (by decide +kernel) (by decide +kernel)
set_option maxRecDepth 20000 in
theorem gX8_gatherForStep_X6_isTurning : GoodIn wsX8_gatherForStep (wsV RX8 389 RX6 yX6_isTurning wsX6_isTurning) := goodIn_app (goodIn_of _ (by decide +kernel)) ggX8_gatherForStep_X6_isTurning
set_option maxRecDepth 20000 in
theorem ggX8_gatherForStep_X6_visitsIn : GoodIn wsX8_gatherForStep wsX6_visitsIn := goodIn_r _ [24, 25, 19, 74, 75, 76, 77, 78, 79, 80, 81, 82, 83] (by decide +kernel) (by decide +kernel)
set_option maxRecDepth 20000 in
theorem gX8_gatherForStep_X6_visitsIn : GoodIn wsX8_gatherForStep (wsV RX8 392 RX6 yX6_visitsIn wsX6_visitsIn) := goodIn_app (goodIn_of _ (by decide +kernel)) ggX8_gatherForStep_X6_visitsIn
set_option maxRecDepth 20000 in
theorem ggX8_gatherForStep_X2_parts : GoodIn wsX8_gatherForStep wsX2_parts := goodIn_r _ [30, 31, 32, 59, 60, 61, 62, 63, 64, 65, 66] (by decide +kernel) (by decide +kernel)
set_option maxRecDepth 20000 in
theorem gX8_gatherForStep_X2_parts : GoodIn wsX8_gatherForStep (wsV RX8 185 RX2 yX2_parts wsX2_parts) := goodIn_app (goodIn_of _ (by decide +kernel)) ggX8_gatherForStep_X2_parts
set_option maxRecDepth 20000 in
theorem ggX8_gatherForStep_X3_add : GoodIn wsX8_gatherForStep wsX3_add := goodIn_r _ [36, 11, 37, 38, 39, 12, 67, 68, 69, 70, 71, 72, 73] (by decide +kernel) (by decide +kernel)
set_option maxRecDepth 20000 in
theorem gX8_gatherForStep_X3_add : GoodIn wsX8_gatherForStep (wsV RX8 328 RX3 yX3_add wsX3_add) := goodIn_app (goodIn_of _ (by decide +kernel)) ggX8_gatherForStep_X3_add
set_option maxRecDepth 20000 in
theorem ggX9_piece_X9_refuse : GoodIn wsX9_piece wsX9_refuse := goodIn_r _ [12, 13, 14, 15, 16, 17, 18, 19, 20, 21, 22, 23, 24, 25, 26, 27, 28, 29, 30, 31, 32, 33, 34, 35, 36, 37, 38, 39, 40, 41, 42, 43, 44, 45, 46, 47, 48, 49, 50, 51, 52, 53, 54, 55, 56, 57, 58, 59, 60, 61, 62, 63, 64] (by decide +kernel) (by decide +kernel)
set_option maxRecDepth 20000 in
theorem gX9_piece_X9_refuse : GoodIn wsX9_piece (wsV RX9 122 RX9 yX9_refuse wsX9_refuse) := goodIn_app (goodIn_of _ (by decide +kernel)) ggX9_piece_X9_refuse
set_option maxRecDepth 20000 in
theorem ggX9_owner_X9_refuse : GoodIn wsX9_owner wsX9_refuse := goodIn_r _ [8, 9, 10, 11, 12, 13, 14, 15, 16, 17, 18, 19, 20, 21, 22, 23, 24, 25, 26, 27, 28, 29, 30, 31, 32, 33, 34, 35, 36, 37, 38, 39, 40, 41, 42, 43, 44, 45, 46, 47, 48, 49, 50, 51, 52, 53, 54, 55, 56, 57, 58, 59, 60] (by decide +kernel) (by decide +kernel)
set_option maxRecDepth 20000 in
theorem gX9_owner_X9_refuse : GoodIn wsX9_owner (wsV RX9 122 RX9 yX9_refuse wsX9_refuse) := goodIn_app (goodIn_of _ (by decide +kernel)) ggX9_owner_X9_refuse
set_option maxRecDepth 20000 in
theorem ggX9_house_X9_isIn : GoodIn wsX9_house wsX9_isIn := goodIn_r _ [7] (by decide +kernel) (by decide +kernel)
set_option maxRecDepth 20000 in
theorem gX9_house_X9_isIn : GoodIn wsX9_house (va_wsS RX9 134 yX9_isIn wsX9_isIn) := goodIn_app (goodIn_of _ (by decide +kernel)) ggX9_house_X9_isIn
set_option maxRecDepth 20000 in
theorem ggX9_house_X9_refuse : GoodIn wsX9_house wsX9_refuse := goodIn_r _ [11, 12, 13, 14, 15, 16, 17, 18, 19, 20, 21, 22, 23, 24, 25, 26, 27, 28, 29, 30, 31, 32, 33, 34, 35, 36, 37, 38, 39, 40, 41, 42, 43, 44, 45, 46, 47, 48, 49, 50, 51, 52, 53, 54, 55, 56, 57, 58, 59, 60, 61, 62, 63] (by decide +kernel) (by decide +kernel)
set_option maxRecDepth 20000 in
theorem gX9_house_X9_refuse : GoodIn wsX9_house (wsV RX9 122 RX9 yX9_refuse wsX9_refuse) := goodIn_app (goodIn_of _ (by decide +kernel)) ggX9_house_X9_refuse
set_option maxRecDepth 20000 in
theorem ggX9_rate_X9_isIn : GoodIn wsX9_rate wsX9_isIn := goodIn_r _ [5] (by decide +kernel) (by decide +kernel)
set_option maxRecDepth 20000 in
theorem gX9_rate_X9_isIn : GoodIn wsX9_rate (va_wsS RX9 134 yX9_isIn wsX9_isIn) := goodIn_app (goodIn_of _ (by decide +kernel)) ggX9_rate_X9_isIn
set_option maxRecDepth 20000 in
theorem ggX9_rate_X9_refuse : GoodIn wsX9_rate wsX9_refuse := goodIn_r _ [9, 10, 11, 12, 13, 14, 15, 16, 17, 18, 19, 20, 21, 22, 23, 24, 25, 26, 27, 28, 29, 30, 31, 32, 33, 34, 35, 36, 37, 38, 39, 40, 41, 42, 43, 44, 45, 46, 47, 48, 49, 50, 51, 52, 53, 54, 55, 56, 57, 58, 59, 60, 61] (by decide +kernel) (by decide +kernel)
set_option maxRecDepth 20000 in
theorem gX9_rate_X9_refuse : GoodIn wsX9_rate (wsV RX9 122 RX9 yX9_refuse wsX9_refuse) := goodIn_app (goodIn_of _ (by decide +kernel)) ggX9_rate_X9_refuse
set_option maxRecDepth 20000 in
theorem ggX9_weather_X9_isIn : GoodIn wsX9_weather wsX9_isIn := goodIn_r _ [6] (by decide +kernel) (by decide +kernel)
set_option maxRecDepth 20000 in
theorem gX9_weather_X9_isIn : GoodIn wsX9_weather (va_wsS RX9 134 yX9_isIn wsX9_isIn) := goodIn_app (goodIn_of _ (by decide +kernel)) ggX9_weather_X9_isIn
