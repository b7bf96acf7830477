set_option maxRecDepth 20000 in
theorem ggX8_rightOf_X8_countingParts : GoodIn wsX8_rightOf wsX8_countingParts := goodIn_r _ [34, 1, 6, 35, 14, 2, 7, 36, 37, 38, 39, 40, 41, 42, 43, 44, 45, 46, 47, 48, 49, 50, 51, 52, 53, 54, 55, 56, 57, 58, 59, 60, 61, 62, 63, 64, 65, 66, 67, 68, 69, 70, 71] (by decide +kernel) (by decide +kernel)
set_option maxRecDepth 20000 in
theorem gX8_rightOf_X8_countingParts : GoodIn wsX8_rightOf (wsV RX8 146 RX8 yX8_countingParts wsX8_countingParts) := goodIn_app (goodIn_of _ (by decide +kernel)) ggX8_rightOf_X8_countingParts
set_option maxRecDepth 20000 in
theorem ggX8_rightOf_X0_isInForce : GoodIn wsX8_rightOf wsX0_isInForce := goodIn_r _ [40, 41, 42, 43, 63, 64, 65, 66, 67, 68, 69, 70, 71] (by decide +kernel) (by decide +kernel)
set_option maxRecDepth 20000 in
theorem gX8_rightOf_X0_isInForce : GoodIn wsX8_rightOf (wsV RX8 143 RX0 yX0_isInForce wsX0_isInForce) := goodIn_app (goodIn_of _ (by decide +kernel)) ggX8_rightOf_X0_isInForce
set_option maxRecDepth 20000 in
theorem ggX8_herdOf_X8_isHerd : GoodIn wsX8_herdOf wsX8_isHerd := goodIn_r _ [13, 14, 32, 33, 34, 35, 36, 37, 38, 39, 40, 41, 42, 43, 44, 45, 46, 47, 48, 49, 50] (by decide +kernel) (by decide +kernel)
set_option maxRecDepth 20000 in
theorem gX8_herdOf_X8_isHerd : GoodIn wsX8_herdOf (wsV RX8 157 RX8 yX8_isHerd wsX8_isHerd) := goodIn_app (goodIn_of _ (by decide +kernel)) ggX8_herdOf_X8_isHerd
set_option maxRecDepth 20000 in
theorem ggX8_herdOf_X8_refuse : GoodIn wsX8_herdOf wsX8_refuse := goodIn_r _ [18, 19, 32, 33, 34, 35, 36, 37, 38, 39, 40, 41, 42, 43, 44, 45, 46, 47, 48, 49, 50] (by decide +kernel) (by decide +kernel)
set_option maxRecDepth 20000 in
theorem gX8_herdOf_X8_refuse : GoodIn wsX8_herdOf (wsV RX8 100 RX8 yX8_refuse wsX8_refuse) := goodIn_app (goodIn_of _ (by decide +kernel)) ggX8_herdOf_X8_refuse
set_option maxRecDepth 20000 in
theorem ggX8_herdOf_X2_fee : GoodIn wsX8_herdOf wsX2_fee := goodIn_r _ [24, 25, 26, 27, 28, 23, 29, 30, 31, 51, 52, 53, 54, 55, 56, 57, 58] (by decide +kernel) (by decide +kernel)
set_option maxRecDepth 20000 in
theorem gX8_herdOf_X2_fee : GoodIn wsX8_herdOf (wsV RX8 225 RX2 yX2_fee wsX2_fee) := goodIn_app (goodIn_of _ (by decide +kernel)) ggX8_herdOf_X2_fee
set_option maxRecDepth 20000 in
theorem ggX8_ownerOf_X8_isOwner : GoodIn wsX8_ownerOf wsX8_isOwner := goodIn_r _ [9, 10, 90, 91, 92, 93, 94, 95, 96, 97, 98, 99, 100, 101, 102, 103, 104, 105, 106, 107, 108] (by decide +kernel) (by decide +kernel)
set_option maxRecDepth 20000 in
theorem gX8_ownerOf_X8_isOwner : GoodIn wsX8_ownerOf (wsV RX8 108 RX8 yX8_isOwner wsX8_isOwner) := goodIn_app (goodIn_of _ (by decide +kernel)) ggX8_ownerOf_X8_isOwner
set_option maxRecDepth 20000 in
theorem ggX8_ownerOf_X8_refuse : GoodIn wsX8_ownerOf wsX8_refuse := goodIn_r _ [14, 15, 90, 91, 92, 93, 94, 95, 96, 97, 98, 99, 100, 101, 102, 103, 104, 105, 106, 107, 108] (by decide +kernel) (by decide +kernel)
set_option maxRecDepth 20000 in
theorem gX8_ownerOf_X8_refuse : GoodIn wsX8_ownerOf (wsV RX8 100 RX8 yX8_refuse wsX8_refuse) := goodIn_app (goodIn_of _ (by decide +kernel)) ggX8_ownerOf_X8_refuse
set_option maxRecDepth 20000 in
theorem ggX8_ownerOf_X8_coverOf : GoodIn wsX8_ownerOf wsX8_coverOf := goodIn_r _ [19, 20, 21, 22, 23, 24, 25, 26, 27, 28, 29, 30, 31, 32, 33, 34, 35, 36, 37, 38, 39, 40, 41, 42, 43, 44, 45, 46, 47, 48, 49, 50, 51, 8, 52, 53, 54, 55, 56, 57, 58, 59, 60, 61, 62, 63, 64, 65, 66, 67, 68, 69, 70, 71, 72, 73, 74, 75, 76, 77, 78, 79, 80, 81, 90, 91, 92, 93, 94, 95, 96, 97, 98, 99, 100, 101, 102, 103, 104, 105, 106, 107, 108, 111, 112, 113, 114, 115, 116, 117, 118, 119, 120, 121, 122, 123, 124, 125, 126, 127, 128, 129, 130, 131, 132] (by decide +kernel) (by decide +kernel)
set_option maxRecDepth 20000 in
theorem gX8_ownerOf_X8_coverOf : GoodIn wsX8_ownerOf (wsV RX8 284 RX8 yX8_coverOf wsX8_coverOf) := goodIn_app (goodIn_of _ (by decide +kernel)) ggX8_ownerOf_X8_coverOf
set_option maxRecDepth 20000 in
theorem ggX8_ownerOf_X1_partsOut : GoodIn wsX8_ownerOf wsX1_partsOut := goodIn_r _ [85, 31, 32, 119, 120, 121, 122, 123] (by decide +kernel) (by decide +kernel)
set_option maxRecDepth 20000 in
theorem gX8_ownerOf_X1_partsOut : GoodIn wsX8_ownerOf (wsV RX8 288 RX1 yX1_partsOut wsX1_partsOut) := goodIn_app (goodIn_of _ (by decide +kernel)) ggX8_ownerOf_X1_partsOut
set_option maxRecDepth 20000 in
theorem ggX8_ownerOf_X1_partsHeld : GoodIn wsX8_ownerOf wsX1_partsHeld := goodIn_r _ [89, 34, 35, 33, 119, 120, 121, 122, 123] (by decide +kernel) (by decide +kernel)
set_option maxRecDepth 20000 in
theorem gX8_ownerOf_X1_partsHeld : GoodIn wsX8_ownerOf (wsV RX8 291 RX1 yX1_partsHeld wsX1_partsHeld) := goodIn_app (goodIn_of _ (by decide +kernel)) ggX8_ownerOf_X1_partsHeld
set_option maxRecDepth 20000 in
theorem ggX8_count_X8_rightsInForce : GoodIn wsX8_count wsX8_rightsInForce := goodIn_r _ [11, 12, 13, 1, 14, 15, 16, 17, 18, 19, 20, 21, 45, 46, 47, 48, 49, 50, 51, 52, 53, 54, 55, 56, 57, 58, 59, 60, 61, 62, 63, 64, 65, 66, 67, 68, 69, 70, 71, 72] (by decide +kernel) (by decide +kernel)
set_option maxRecDepth 20000 in
theorem gX8_count_X8_rightsInForce : GoodIn wsX8_count (wsV RX8 294 RX8 yX8_rightsInForce wsX8_rightsInForce) := goodIn_app (goodIn_of _ (by decide +kernel)) ggX8_count_X8_rightsInForce
set_option maxRecDepth 20000 in
theorem ggX8_count_X8_herdsNotLost : GoodIn wsX8_count wsX8_herdsNotLost := goodIn_r _ [25, 26, 27, 28, 45, 46, 47, 48, 49, 50, 51, 52, 53, 54, 55, 56, 57, 58, 59, 60, 61, 62, 63, 73, 74, 75, 76, 77, 78, 79, 80] (by decide +kernel) (by decide +kernel)
set_option maxRecDepth 20000 in
theorem gX8_count_X8_herdsNotLost : GoodIn wsX8_count (wsV RX8 297 RX8 yX8_herdsNotLost wsX8_herdsNotLost) := goodIn_app (goodIn_of _ (by decide +kernel)) ggX8_count_X8_herdsNotLost
set_option maxRecDepth 20000 in
theorem ggX8_count_X8_allGrass : GoodIn wsX8_count wsX8_allGrass := goodIn_r _ [32, 2, 33, 34, 45, 46, 47, 48, 49, 50, 51, 52, 53, 54, 55, 56, 57, 58, 59, 60, 61, 62, 63, 81, 82, 83, 84, 85, 86] (by decide +kernel) (by decide +kernel)
set_option maxRecDepth 20000 in
theorem gX8_count_X8_allGrass : GoodIn wsX8_count (wsV RX8 300 RX8 yX8_allGrass wsX8_allGrass) := goodIn_app (goodIn_of _ (by decide +kernel)) ggX8_count_X8_allGrass
set_option maxRecDepth 20000 in
theorem ggX8_count_X8_allHunger : GoodIn wsX8_count wsX8_allHunger := goodIn_r _ [38, 26, 27, 39, 45, 46, 47, 48, 49, 50, 51, 52, 53, 54, 55, 56, 57, 58, 59, 60, 61, 62, 63, 73, 74, 75, 76, 77, 78, 79, 80] (by decide +kernel) (by decide +kernel)
set_option maxRecDepth 20000 in
theorem gX8_count_X8_allHunger : GoodIn wsX8_count (wsV RX8 303 RX8 yX8_allHunger wsX8_allHunger) := goodIn_app (goodIn_of _ (by decide +kernel)) ggX8_count_X8_allHunger
set_option maxRecDepth 20000 in
theorem ggX8_count_X8_allEaten : GoodIn wsX8_count wsX8_allEaten := goodIn_r _ [43, 2, 33, 44, 45, 46, 47, 48, 49, 50, 51, 52, 53, 54, 55, 56, 57, 58, 59, 60, 61, 62, 63, 81, 82, 83, 84, 85, 86] (by decide +kernel) (by decide +kernel)
set_option maxRecDepth 20000 in
theorem gX8_count_X8_allEaten : GoodIn wsX8_count (wsV RX8 306 RX8 yX8_allEaten wsX8_allEaten) := goodIn_app (goodIn_of _ (by decide +kernel)) ggX8_count_X8_allEaten
set_option maxRecDepth 20000 in
theorem ggX8_canPass_X8_isRight : GoodIn wsX8_canPass wsX8_isRight := goodIn_r _ [6, 7, 25, 26, 27, 28, 29, 30, 31, 32, 33, 34, 35, 36, 37, 38, 39, 40, 41, 42, 43] (by decide +kernel) (by decide +kernel)
set_option maxRecDepth 20000 in
theorem gX8_canPass_X8_isRight : GoodIn wsX8_canPass (wsV RX8 253 RX8 yX8_isRight wsX8_isRight) := goodIn_app (goodIn_of _ (by decide +kernel)) ggX8_canPass_X8_isRight
set_option maxRecDepth 20000 in
theorem ggX8_canPass_X8_isOwner : GoodIn wsX8_canPass wsX8_isOwner := goodIn_r _ [11, 12, 25, 26, 27, 28, 29, 30, 31, 32, 33, 34, 35, 36, 37, 38, 39, 40, 41, 42, 43] (by decide +kernel) (by decide +kernel)
set_option maxRecDepth 20000 in
theorem gX8_canPass_X8_isOwner : GoodIn wsX8_canPass (wsV RX8 108 RX8 yX8_isOwner wsX8_isOwner) := goodIn_app (goodIn_of _ (by decide +kernel)) ggX8_canPass_X8_isOwner
set_option maxRecDepth 20000 in
theorem ggX8_canPass_X8_holder : GoodIn wsX8_canPass wsX8_holder := goodIn_r _ [16, 17, 18, 19, 20, 21, 22, 5, 23, 24, 44, 45, 46, 47, 48, 49, 50, 51, 52, 25, 26, 27, 28, 29, 30, 31, 32, 33, 34, 35, 36, 37, 38, 39, 40, 41, 42, 43] (by decide +kernel) (by decide +kernel)
set_option maxRecDepth 20000 in
theorem gX8_canPass_X8_holder : GoodIn wsX8_canPass (wsV RX8 256 RX8 yX8_holder wsX8_holder) := goodIn_app (goodIn_of _ (by decide +kernel)) ggX8_canPass_X8_holder
set_option maxRecDepth 20000 in
theorem ggX8_holder_X8_isHouse : GoodIn wsX8_holder wsX8_isHouse := goodIn_r _ [8, 9, 19, 20, 21, 22, 23, 24, 25, 26, 27, 28, 29, 30, 31, 32, 33, 34, 35, 36, 37] (by decide +kernel) (by decide +kernel)
set_option maxRecDepth 20000 in
theorem gX8_holder_X8_isHouse : GoodIn wsX8_holder (wsV RX8 124 RX8 yX8_isHouse wsX8_isHouse) := goodIn_app (goodIn_of _ (by decide +kernel)) ggX8_holder_X8_isHouse
set_option maxRecDepth 20000 in
theorem ggX8_countingParts_X0_isInForce : GoodIn wsX8_countingParts wsX0_isInForce := goodIn_r _ [11, 12, 13, 14, 34, 35, 36, 37, 38, 39, 40, 41, 42] (by decide +kernel) (by decide +kernel)
set_option maxRecDepth 20000 in
theorem gX8_countingParts_X0_isInForce : GoodIn wsX8_countingParts (wsV RX8 143 RX0 yX0_isInForce wsX0_isInForce) := goodIn_app (goodIn_of _ (by decide +kernel)) ggX8_countingParts_X0_isInForce
set_option maxRecDepth 20000 in
theorem ggX8_coverOf_X1_clear : GoodIn wsX8_coverOf wsX1_clear := goodIn_r _ [11, 12, 13, 14, 15, 16, 91, 92, 93, 94, 95] (by decide +kernel) (by decide +kernel)
set_option maxRecDepth 20000 in
theorem gX8_coverOf_X1_clear : GoodIn wsX8_coverOf (wsV RX8 311 RX1 yX1_clear wsX1_clear) := goodIn_app (goodIn_of _ (by decide +kernel)) ggX8_coverOf_X1_clear
set_option maxRecDepth 20000 in
theorem ggX8_coverOf_X1_addHerd : GoodIn wsX8_coverOf wsX1_addHerd := goodIn_r _ [20, 21, 22, 12, 13, 23, 24, 25, 26, 27, 28, 29, 83, 84, 85, 86, 87, 88, 89, 90, 91, 92, 93, 94, 95] (by decide +kernel) (by decide +kernel)
set_option maxRecDepth 20000 in
theorem gX8_coverOf_X1_addHerd : GoodIn wsX8_coverOf (wsV RX8 314 RX1 yX1_addHerd wsX1_addHerd) := goodIn_app (goodIn_of _ (by decide +kernel)) ggX8_coverOf_X1_addHerd
set_option maxRecDepth 20000 in
theorem ggX8_coverOf_X8_holder : GoodIn wsX8_coverOf wsX8_holder := goodIn_r _ [34, 35, 36, 37, 38, 39, 40, 33, 41, 42, 96, 97, 98, 99, 100, 101, 102, 103, 104, 64, 65, 66, 67, 68, 69, 70, 71, 72, 73, 74, 75, 76, 77, 78, 79, 80, 81, 82] (by decide +kernel) (by decide +kernel)
set_option maxRecDepth 20000 in
theorem gX8_coverOf_X8_holder : GoodIn wsX8_coverOf (wsV RX8 256 RX8 yX8_holder wsX8_holder) := goodIn_app (goodIn_of _ (by decide +kernel)) ggX8_coverOf_X8_holder
set_option maxRecDepth 20000 in
theorem ggX8_coverOf_X8_countingParts : GoodIn wsX8_coverOf wsX8_countingParts := goodIn_r _ [46, 6, 47, 48, 5, 35, 49, 50, 51, 52, 53, 54, 55, 56, 57, 64, 65, 66, 67, 68, 69, 70, 71, 72, 73, 74, 75, 76, 77, 78, 79, 80, 81, 82, 96, 97, 98, 99, 100, 101, 102, 103, 104] (by decide +kernel) (by decide +kernel)
set_option maxRecDepth 20000 in
theorem gX8_coverOf_X8_countingParts : GoodIn wsX8_coverOf (wsV RX8 146 RX8 yX8_countingParts wsX8_countingParts) := goodIn_app (goodIn_of _ (by decide +kernel)) ggX8_coverOf_X8_countingParts
set_option maxRecDepth 20000 in
theorem ggX8_coverOf_X1_addRight : GoodIn wsX8_coverOf wsX1_addRight := goodIn_r _ [61, 62, 15, 16, 63, 14, 96, 97, 98, 99, 100, 101, 102, 103, 104, 91, 92, 93, 94, 95] (by decide +kernel) (by decide +kernel)
set_option maxRecDepth 20000 in
theorem gX8_coverOf_X1_addRight : GoodIn wsX8_coverOf (wsV RX8 318 RX1 yX1_addRight wsX1_addRight) := goodIn_app (goodIn_of _ (by decide +kernel)) ggX8_coverOf_X1_addRight
set_option maxRecDepth 20000 in
theorem ggX8_lackOf_X8_coverOf : GoodIn wsX8_lackOf wsX8_coverOf := goodIn_r _ [5, 6, 7, 8, 9, 10, 11, 12, 13, 14, 15, 16, 17, 18, 19, 20, 21, 22, 23, 24, 25, 26, 27, 28, 29, 30, 31, 32, 33, 34, 35, 36, 37, 4, 38, 39, 40, 41, 42, 43, 44, 45, 46, 47, 48, 49, 50, 51, 52, 53, 54, 55, 56, 57, 58, 59, 60, 61, 62, 63, 64, 65, 66, 67, 76, 77, 78, 79, 80, 81, 82, 83, 84, 85, 86, 87, 88, 89, 90, 91, 92, 93, 94, 95, 96, 97, 98, 99, 100, 101, 102, 103, 104, 105, 106, 107, 108, 109, 110, 111, 112, 113, 114, 115, 116] (by decide +kernel) (by decide +kernel)
set_option maxRecDepth 20000 in
theorem gX8_lackOf_X8_coverOf : GoodIn wsX8_lackOf (wsV RX8 284 RX8 yX8_coverOf wsX8_coverOf) := goodIn_app (goodIn_of _ (by decide +kernel)) ggX8_lackOf_X8_coverOf
set_option maxRecDepth 20000 in
theorem ggX8_lackOf_X1_lack : GoodIn wsX8_lackOf wsX1_lack := goodIn_r _ [71, 19, 18, 72, 73, 74, 75, 17, 20, 21, 103, 104, 105, 106, 107] (by decide +kernel) (by decide +kernel)
set_option maxRecDepth 20000 in
theorem gX8_lackOf_X1_lack : GoodIn wsX8_lackOf (wsV RX8 321 RX1 yX1_lack wsX1_lack) := goodIn_app (goodIn_of _ (by decide +kernel)) ggX8_lackOf_X1_lack
set_option maxRecDepth 20000 in
theorem ggX8_rightsInForce_X0_isInForce : GoodIn wsX8_rightsInForce wsX0_isInForce := goodIn_r _ [8, 9, 10, 11, 31, 32, 33, 34, 35, 36, 37, 38, 39] (by decide +kernel) (by decide +kernel)
set_option maxRecDepth 20000 in
theorem gX8_rightsInForce_X0_isInForce : GoodIn wsX8_rightsInForce (wsV RX8 143 RX0 yX0_isInForce wsX0_isInForce) := goodIn_app (goodIn_of _ (by decide +kernel)) ggX8_rightsInForce_X0_isInForce
set_option maxRecDepth 20000 in
theorem ggX8_partsOn_X2_parts : GoodIn wsX8_partsOn wsX2_parts := goodIn_r _ [8, 9, 10, 30, 31, 32, 33, 34, 35, 36, 37] (by decide +kernel) (by decide +kernel)
set_option maxRecDepth 20000 in
theorem gX8_partsOn_X2_parts : GoodIn wsX8_partsOn (wsV RX8 185 RX2 yX2_parts wsX2_parts) := goodIn_app (goodIn_of _ (by decide +kernel)) ggX8_partsOn_X2_parts
set_option maxRecDepth 20000 in
theorem ggX8_grazeAll_X8_graze : GoodIn wsX8_grazeAll wsX8_graze := goodIn_r _ [6, 7, 8, 9, 10, 11, 12, 13, 14, 15, 16, 17, 18, 19, 20, 21, 22, 23, 24, 25, 26, 27, 28, 29, 30, 31, 32, 33, 34, 35, 36, 37, 38, 39, 40, 41, 42, 43, 44, 45, 46, 47, 48, 49, 50, 51, 52, 53, 54, 55, 56, 57, 58, 59, 60, 61, 62, 63, 64, 65, 66, 67, 68, 69, 70, 71, 72, 73, 74, 75, 76, 77, 78, 79, 80, 81, 82, 83, 84, 85, 86, 87, 88, 89, 90, 91, 92, 93, 94, 95, 96, 97, 98, 99, 100, 101, 102, 103, 104, 105, 106, 107, 108, 109, 110, 111, 112, 113, 114, 115, 116, 117, 118, 119, 120, 121, 122, 123, 124, 125] (by decide +kernel) (by decide +kernel)
set_option maxRecDepth 20000 in
theorem gX8_grazeAll_X8_graze : GoodIn wsX8_grazeAll (wsV RX8 324 RX8 yX8_graze wsX8_graze) := goodIn_app (goodIn_of _ (by decide +kernel)) ggX8_grazeAll_X8_graze
set_option maxRecDepth 20000 in
theorem ggX8_graze_X3_clear : GoodIn wsX8_graze wsX3_clear := goodIn_r _ [16, 17, 18, 19, 111, 112, 113, 114, 115, 116, 117] (by decide +kernel) (by decide +kernel)
set_option maxRecDepth 20000 in
theorem gX8_graze_X3_clear : GoodIn wsX8_graze (wsV RX8 327 RX3 yX3_clear wsX3_clear) := goodIn_app (goodIn_of _ (by decide +kernel)) ggX8_graze_X3_clear
set_option maxRecDepth 20000 in
theorem ggX8_graze_X2_parts : GoodIn wsX8_graze wsX2_parts := goodIn_r _ [24, 25, 26, 97, 98, 99, 100, 101, 102, 103, 104] (by decide +kernel) (by decide +kernel)
set_option maxRecDepth 20000 in
theorem gX8_graze_X2_parts : GoodIn wsX8_graze (wsV RX8 185 RX2 yX2_parts wsX2_parts) := goodIn_app (goodIn_of _ (by decide +kernel)) ggX8_graze_X2_parts
set_option maxRecDepth 20000 in
theorem ggX8_graze_X3_add : GoodIn wsX8_graze wsX3_add := goodIn_r _ [30, 17, 31, 32, 33, 18, 111, 112, 113, 114, 115, 116, 117] (by decide +kernel) (by decide +kernel)
set_option maxRecDepth 20000 in
theorem gX8_graze_X3_add : GoodIn wsX8_graze (wsV RX8 328 RX3 yX3_add wsX3_add) := goodIn_app (goodIn_of _ (by decide +kernel)) ggX8_graze_X3_add
set_option maxRecDepth 20000 in
theorem ggX8_graze_X7_rainOn : GoodIn wsX8_graze wsX7_rainOn := goodIn_r _ [38, 39, 118, 119] (by decide +kernel) (by decide +kernel)
set_option maxRecDepth 20000 in
theorem gX8_graze_X7_rainOn : GoodIn wsX8_graze (wsV RX8 331 RX7 yX7_rainOn wsX7_rainOn) := goodIn_app (goodIn_of _ (by decide +kernel)) ggX8_graze_X7_rainOn
set_option maxRecDepth 20000 in
theorem ggX8_graze_X7_rateOn : GoodIn wsX8_graze wsX7_rateOn := goodIn_r _ [43, 44, 39, 118, 119] (by decide +kernel) (by decide +kernel)
set_option maxRecDepth 20000 in
theorem gX8_graze_X7_rateOn : GoodIn wsX8_graze (wsV RX8 334 RX7 yX7_rateOn wsX7_rateOn) := goodIn_app (goodIn_of _ (by decide +kernel)) ggX8_graze_X7_rateOn
