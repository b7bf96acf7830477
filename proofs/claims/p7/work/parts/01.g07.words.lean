set_option maxRecDepth 20000 in
theorem ggX9_pound_X9_isOut : GoodIn wsX9_pound wsX9_isOut := goodIn_r _ [19, 4, 3, 63, 64, 65, 66, 67, 68, 69, 70, 71, 72, 73, 74, 75, 76, 77, 78, 79, 80, 81, 82, 83, 84, 85, 86, 87, 88, 89, 90, 91, 92, 93, 94, 95, 96, 97, 98, 99, 100, 101, 102, 103, 104, 105, 106, 107, 108, 109, 110, 111, 112, 113] (by decide +kernel) (by decide +kernel)
set_option maxRecDepth 20000 in
theorem gX9_pound_X9_isOut : GoodIn wsX9_pound (wsV RX9 167 RX9 yX9_isOut wsX9_isOut) := goodIn_app (goodIn_of _ (by decide +kernel)) ggX9_pound_X9_isOut
set_option maxRecDepth 20000 in
theorem ggX9_pound_X9_lacksOf : GoodIn wsX9_pound wsX9_lacksOf := goodIn_r _ [23, 24, 25, 26, 27, 1, 2, 3, 28, 29, 30, 31, 32, 33, 34, 35, 36, 37, 38, 9, 39, 40, 41, 42, 43, 44, 45, 46, 47, 48, 49, 50, 51, 52, 53, 6, 54, 16, 17, 18, 19, 4, 55, 56, 57, 58, 59, 60, 61, 62, 63, 64, 65, 66, 67, 68, 69, 70, 71, 72, 73, 74, 75, 76, 77, 78, 79, 80, 81, 82, 83, 84, 85, 86, 87, 88, 89, 90, 91, 92, 93, 94, 95, 96, 97, 98, 99, 100, 101, 102, 103, 104, 105, 106, 107, 108, 109, 110, 111, 112, 113] (by decide +kernel) (by decide +kernel)
set_option maxRecDepth 20000 in
theorem gX9_pound_X9_lacksOf : GoodIn wsX9_pound (wsV RX9 185 RX9 yX9_lacksOf wsX9_lacksOf) := goodIn_app (goodIn_of _ (by decide +kernel)) ggX9_pound_X9_lacksOf
set_option maxRecDepth 20000 in
theorem ggX9_free_X9_isIn : GoodIn wsX9_free wsX9_isIn := goodIn_r _ [9] (by decide +kernel) (by decide +kernel)
set_option maxRecDepth 20000 in
theorem gX9_free_X9_isIn : GoodIn wsX9_free (va_wsS RX9 134 yX9_isIn wsX9_isIn) := goodIn_app (goodIn_of _ (by decide +kernel)) ggX9_free_X9_isIn
set_option maxRecDepth 20000 in
theorem ggX9_free_X9_refuse : GoodIn wsX9_free wsX9_refuse := goodIn_r _ [13, 14, 22, 23, 24, 25, 26, 27, 28, 29, 30, 31, 32, 33, 34, 35, 36, 37, 38, 39, 40, 41, 42, 43, 44, 45, 46, 47, 48, 49, 50, 51, 52, 53, 54, 55, 56, 57, 58, 59, 60, 61, 62, 63, 64, 65, 66, 67, 68, 69, 70, 71, 72] (by decide +kernel) (by decide +kernel)
set_option maxRecDepth 20000 in
theorem gX9_free_X9_refuse : GoodIn wsX9_free (wsV RX9 122 RX9 yX9_refuse wsX9_refuse) := goodIn_app (goodIn_of _ (by decide +kernel)) ggX9_free_X9_refuse
set_option maxRecDepth 20000 in
theorem ggX9_free_X9_feeOf : GoodIn wsX9_free wsX9_feeOf := goodIn_r _ [18, 2, 19, 20, 21, 22, 23, 24, 25, 26, 27, 28, 29, 30, 31, 32, 33, 34, 35, 36, 37, 38, 39, 40, 41, 42, 43, 44, 45, 46, 47, 48, 49, 50, 51, 52, 53, 54, 55, 56, 57, 58, 59, 60, 61, 62, 63, 64, 65, 66, 67, 68, 69, 70, 71, 72] (by decide +kernel) (by decide +kernel)
set_option maxRecDepth 20000 in
theorem gX9_free_X9_feeOf : GoodIn wsX9_free (wsV RX9 239 RX9 yX9_feeOf wsX9_feeOf) := goodIn_app (goodIn_of _ (by decide +kernel)) ggX9_free_X9_feeOf
set_option maxRecDepth 20000 in
theorem ggX9_plan_X9_isIn : GoodIn wsX9_plan wsX9_isIn := goodIn_r _ [12] (by decide +kernel) (by decide +kernel)
set_option maxRecDepth 20000 in
theorem gX9_plan_X9_isIn : GoodIn wsX9_plan (va_wsS RX9 134 yX9_isIn wsX9_isIn) := goodIn_app (goodIn_of _ (by decide +kernel)) ggX9_plan_X9_isIn
set_option maxRecDepth 20000 in
theorem ggX9_plan_X9_refuse : GoodIn wsX9_plan wsX9_refuse := goodIn_r _ [16, 17, 77, 78, 79, 80, 81, 82, 83, 84, 85, 86, 87, 88, 89, 90, 91, 92, 93, 94, 95, 96, 97, 98, 99, 100, 101, 102, 103, 104, 105, 106, 107, 108, 109, 110, 111, 112, 113, 114, 115, 116, 117, 118, 119, 120, 121, 122, 123, 124, 125, 126, 127] (by decide +kernel) (by decide +kernel)
set_option maxRecDepth 20000 in
theorem gX9_plan_X9_refuse : GoodIn wsX9_plan (wsV RX9 122 RX9 yX9_refuse wsX9_refuse) := goodIn_app (goodIn_of _ (by decide +kernel)) ggX9_plan_X9_refuse
set_option maxRecDepth 20000 in
theorem ggX9_plan_X9_mayTake : GoodIn wsX9_plan wsX9_mayTake := goodIn_r _ [21, 4, 22, 77, 78, 79, 80, 81, 82, 83, 84, 85, 86, 87, 88, 89, 90, 91, 92, 93, 94, 95, 96, 97, 98, 99, 100, 101, 102, 103, 104, 105, 106, 107, 108, 109, 110, 111, 112, 113, 114, 115, 116, 117, 118, 119, 120, 121, 122, 123, 124, 125, 126, 127] (by decide +kernel) (by decide +kernel)
set_option maxRecDepth 20000 in
theorem gX9_plan_X9_mayTake : GoodIn wsX9_plan (wsV RX9 242 RX9 yX9_mayTake wsX9_mayTake) := goodIn_app (goodIn_of _ (by decide +kernel)) ggX9_plan_X9_mayTake
set_option maxRecDepth 20000 in
theorem ggX9_plan_X9_tries : GoodIn wsX9_plan wsX9_tries := goodIn_r _ [26, 3, 27, 28, 29, 5, 4, 30, 31, 32, 33, 34, 11, 35, 1, 36, 37, 38, 39, 40, 2, 41, 42, 43, 44, 45, 46, 47, 48, 49, 50, 51, 52, 53, 54, 55, 56, 57, 58, 59, 60, 61, 62, 63, 64, 65, 66, 67, 68, 69, 70, 71, 72, 73, 74, 75, 76, 77, 78, 79, 80, 81, 82, 83, 84, 85, 86, 87, 88, 89, 90, 91, 92, 93, 94, 95, 96, 97, 98, 99, 100, 101, 102, 103, 104, 105, 106, 107, 108, 109, 110, 111, 112, 113, 114, 115, 116, 117, 118, 119, 120, 121, 122, 123, 124, 125, 126, 127] (by decide +kernel) (by decide +kernel)
set_option maxRecDepth 20000 in
theorem gX9_plan_X9_tries : GoodIn wsX9_plan (wsV RX9 246 RX9 yX9_tries wsX9_tries) := goodIn_app (goodIn_of _ (by decide +kernel)) ggX9_plan_X9_tries
set_option maxRecDepth 20000 in
theorem ggX9_tries_X9_places : GoodIn wsX9_tries wsX9_places := goodIn_r _ [13, 4, 14, 15, 16, 17, 18, 12, 19, 20, 57, 58, 59, 60, 61, 62, 63, 64, 65, 66, 67, 68, 69, 70, 71, 72, 73, 74, 75, 76, 77, 78, 79, 80, 81, 82, 83, 84, 85, 86, 87, 88, 89, 90, 91, 92, 93, 94, 95, 96, 97, 98, 99, 100, 101, 102, 103, 104, 105, 106, 107] (by decide +kernel) (by decide +kernel)
set_option maxRecDepth 20000 in
theorem gX9_tries_X9_places : GoodIn wsX9_tries (wsV RX9 214 RX9 yX9_places wsX9_places) := goodIn_app (goodIn_of _ (by decide +kernel)) ggX9_tries_X9_places
set_option maxRecDepth 20000 in
theorem ggX9_tries_X9_goes : GoodIn wsX9_tries wsX9_goes := goodIn_r _ [24, 14, 8, 25, 26, 27, 1, 28, 29, 30, 31, 32, 33, 34, 35, 36, 37, 38, 39, 40, 41, 42, 43, 44, 45, 46, 12, 47, 48, 49, 50, 51, 52, 53, 54, 55, 56, 57, 58, 59, 60, 61, 62, 63, 64, 65, 66, 67, 68, 69, 70, 71, 72, 73, 74, 75, 76, 77, 78, 79, 80, 81, 82, 83, 84, 85, 86, 87, 88, 89, 90, 91, 92, 93, 94, 95, 96, 97, 98, 99, 100, 101, 102, 103, 104, 105, 106, 107] (by decide +kernel) (by decide +kernel)
set_option maxRecDepth 20000 in
theorem gX9_tries_X9_goes : GoodIn wsX9_tries (wsV RX9 217 RX9 yX9_goes wsX9_goes) := goodIn_app (goodIn_of _ (by decide +kernel)) ggX9_tries_X9_goes
set_option maxRecDepth 20000 in
theorem ggX9_planned_X9_isIn : GoodIn wsX9_planned wsX9_isIn := goodIn_r _ [7] (by decide +kernel) (by decide +kernel)
set_option maxRecDepth 20000 in
theorem gX9_planned_X9_isIn : GoodIn wsX9_planned (va_wsS RX9 134 yX9_isIn wsX9_isIn) := goodIn_app (goodIn_of _ (by decide +kernel)) ggX9_planned_X9_isIn
set_option maxRecDepth 20000 in
theorem ggX9_pieceOf_X9_isIn : GoodIn wsX9_pieceOf wsX9_isIn := goodIn_r _ [12] (by decide +kernel) (by decide +kernel)
set_option maxRecDepth 20000 in
theorem gX9_pieceOf_X9_isIn : GoodIn wsX9_pieceOf (va_wsS RX9 134 yX9_isIn wsX9_isIn) := goodIn_app (goodIn_of _ (by decide +kernel)) ggX9_pieceOf_X9_isIn
set_option maxRecDepth 20000 in
theorem ggX9_pieceOf_X9_refuse : GoodIn wsX9_pieceOf wsX9_refuse := goodIn_r _ [16, 17, 36, 37, 38, 39, 40, 41, 42, 43, 44, 45, 46, 47, 48, 49, 50, 51, 52, 53, 54, 55, 56, 57, 58, 59, 60, 61, 62, 63, 64, 65, 66, 67, 68, 69, 70, 71, 72, 73, 74, 75, 76, 77, 78, 79, 80, 81, 82, 83, 84, 85, 86] (by decide +kernel) (by decide +kernel)
set_option maxRecDepth 20000 in
theorem gX9_pieceOf_X9_refuse : GoodIn wsX9_pieceOf (wsV RX9 122 RX9 yX9_refuse wsX9_refuse) := goodIn_app (goodIn_of _ (by decide +kernel)) ggX9_pieceOf_X9_refuse
set_option maxRecDepth 20000 in
theorem ggX9_pieceOf_X9_partsOn : GoodIn wsX9_pieceOf wsX9_partsOn := goodIn_r _ [21, 6, 7, 22, 23, 24, 11, 25, 26, 27, 28, 29, 30, 31, 32, 33, 34, 35, 36, 37, 38, 39, 40, 41, 42, 43, 44, 45, 46, 47, 48, 49, 50, 51, 52, 53, 54, 55, 56, 57, 58, 59, 60, 61, 62, 63, 64, 65, 66, 67, 68, 69, 70, 71, 72, 73, 74, 75, 76, 77, 78, 79, 80, 81, 82, 83, 84, 85, 86] (by decide +kernel) (by decide +kernel)
set_option maxRecDepth 20000 in
theorem gX9_pieceOf_X9_partsOn : GoodIn wsX9_pieceOf (wsV RX9 191 RX9 yX9_partsOn wsX9_partsOn) := goodIn_app (goodIn_of _ (by decide +kernel)) ggX9_pieceOf_X9_partsOn
set_option maxRecDepth 20000 in
theorem ggX9_pieceOf_X9_isOut : GoodIn wsX9_pieceOf wsX9_isOut := goodIn_r _ [25, 26, 7, 36, 37, 38, 39, 40, 41, 42, 43, 44, 45, 46, 47, 48, 49, 50, 51, 52, 53, 54, 55, 56, 57, 58, 59, 60, 61, 62, 63, 64, 65, 66, 67, 68, 69, 70, 71, 72, 73, 74, 75, 76, 77, 78, 79, 80, 81, 82, 83, 84, 85, 86] (by decide +kernel) (by decide +kernel)
set_option maxRecDepth 20000 in
theorem gX9_pieceOf_X9_isOut : GoodIn wsX9_pieceOf (wsV RX9 167 RX9 yX9_isOut wsX9_isOut) := goodIn_app (goodIn_of _ (by decide +kernel)) ggX9_pieceOf_X9_isOut
set_option maxRecDepth 20000 in
theorem ggX9_rightOf_X9_isIn : GoodIn wsX9_rightOf wsX9_isIn := goodIn_r _ [11] (by decide +kernel) (by decide +kernel)
set_option maxRecDepth 20000 in
theorem gX9_rightOf_X9_isIn : GoodIn wsX9_rightOf (va_wsS RX9 134 yX9_isIn wsX9_isIn) := goodIn_app (goodIn_of _ (by decide +kernel)) ggX9_rightOf_X9_isIn
set_option maxRecDepth 20000 in
theorem ggX9_rightOf_X9_refuse : GoodIn wsX9_rightOf wsX9_refuse := goodIn_r _ [15, 16, 33, 34, 35, 36, 37, 38, 39, 40, 41, 42, 43, 44, 45, 46, 47, 48, 49, 50, 51, 52, 53, 54, 55, 56, 57, 58, 59, 60, 61, 62, 63, 64, 65, 66, 67, 68, 69, 70, 71, 72, 73, 74, 75, 76, 77, 78, 79, 80, 81, 82, 83] (by decide +kernel) (by decide +kernel)
set_option maxRecDepth 20000 in
theorem gX9_rightOf_X9_refuse : GoodIn wsX9_rightOf (wsV RX9 122 RX9 yX9_refuse wsX9_refuse) := goodIn_app (goodIn_of _ (by decide +kernel)) ggX9_rightOf_X9_refuse
set_option maxRecDepth 20000 in
theorem ggX9_rightOf_X9_ownerOfRight : GoodIn wsX9_rightOf wsX9_ownerOfRight := goodIn_r _ [20, 2, 21, 22, 33, 34, 35, 36, 37, 38, 39, 40, 41, 42, 43, 44, 45, 46, 47, 48, 49, 50, 51, 52, 53, 54, 55, 56, 57, 58, 59, 60, 61, 62, 63, 64, 65, 66, 67, 68, 69, 70, 71, 72, 73, 74, 75, 76, 77, 78, 79, 80, 81, 82, 83] (by decide +kernel) (by decide +kernel)
set_option maxRecDepth 20000 in
theorem gX9_rightOf_X9_ownerOfRight : GoodIn wsX9_rightOf (wsV RX9 155 RX9 yX9_ownerOfRight wsX9_ownerOfRight) := goodIn_app (goodIn_of _ (by decide +kernel)) ggX9_rightOf_X9_ownerOfRight
set_option maxRecDepth 20000 in
theorem ggX9_rightOf_X9_partsOf : GoodIn wsX9_rightOf wsX9_partsOf := goodIn_r _ [26, 27, 1, 6, 28, 29, 30, 10, 31, 5, 3, 32, 4, 33, 34, 35, 36, 37, 38, 39, 40, 41, 42, 43, 44, 45, 46, 47, 48, 49, 50, 51, 52, 53, 54, 55, 56, 57, 58, 59, 60, 61, 62, 63, 64, 65, 66, 67, 68, 69, 70, 71, 72, 73, 74, 75, 76, 77, 78, 79, 80, 81, 82, 83] (by decide +kernel) (by decide +kernel)
set_option maxRecDepth 20000 in
theorem gX9_rightOf_X9_partsOf : GoodIn wsX9_rightOf (wsV RX9 158 RX9 yX9_partsOf wsX9_partsOf) := goodIn_app (goodIn_of _ (by decide +kernel)) ggX9_rightOf_X9_partsOf
set_option maxRecDepth 20000 in
theorem ggX9_rightOf_X9_isInForce : GoodIn wsX9_rightOf wsX9_isInForce := goodIn_r _ [31, 5, 3, 32, 4, 33, 34, 35, 36, 37, 38, 39, 40, 41, 42, 43, 44, 45, 46, 47, 48, 49, 50, 51, 52, 53, 54, 55, 56, 57, 58, 59, 60, 61, 62, 63, 64, 65, 66, 67, 68, 69, 70, 71, 72, 73, 74, 75, 76, 77, 78, 79, 80, 81, 82, 83] (by decide +kernel) (by decide +kernel)
set_option maxRecDepth 20000 in
theorem gX9_rightOf_X9_isInForce : GoodIn wsX9_rightOf (wsV RX9 144 RX9 yX9_isInForce wsX9_isInForce) := goodIn_app (goodIn_of _ (by decide +kernel)) ggX9_rightOf_X9_isInForce
set_option maxRecDepth 20000 in
theorem ggX9_herdOf_X9_isIn : GoodIn wsX9_herdOf wsX9_isIn := goodIn_r _ [11] (by decide +kernel) (by decide +kernel)
set_option maxRecDepth 20000 in
theorem gX9_herdOf_X9_isIn : GoodIn wsX9_herdOf (va_wsS RX9 134 yX9_isIn wsX9_isIn) := goodIn_app (goodIn_of _ (by decide +kernel)) ggX9_herdOf_X9_isIn
set_option maxRecDepth 20000 in
theorem ggX9_herdOf_X9_refuse : GoodIn wsX9_herdOf wsX9_refuse := goodIn_r _ [15, 16, 23, 24, 25, 26, 27, 28, 29, 30, 31, 32, 33, 34, 35, 36, 37, 38, 39, 40, 41, 42, 43, 44, 45, 46, 47, 48, 49, 50, 51, 52, 53, 54, 55, 56, 57, 58, 59, 60, 61, 62, 63, 64, 65, 66, 67, 68, 69, 70, 71, 72, 73] (by decide +kernel) (by decide +kernel)
set_option maxRecDepth 20000 in
theorem gX9_herdOf_X9_refuse : GoodIn wsX9_herdOf (wsV RX9 122 RX9 yX9_refuse wsX9_refuse) := goodIn_app (goodIn_of _ (by decide +kernel)) ggX9_herdOf_X9_refuse
set_option maxRecDepth 20000 in
theorem ggX9_herdOf_X9_feeOf : GoodIn wsX9_herdOf wsX9_feeOf := goodIn_r _ [20, 7, 21, 22, 4, 23, 24, 25, 26, 27, 28, 29, 30, 31, 32, 33, 34, 35, 36, 37, 38, 39, 40, 41, 42, 43, 44, 45, 46, 47, 48, 49, 50, 51, 52, 53, 54, 55, 56, 57, 58, 59, 60, 61, 62, 63, 64, 65, 66, 67, 68, 69, 70, 71, 72, 73] (by decide +kernel) (by decide +kernel)
set_option maxRecDepth 20000 in
theorem gX9_herdOf_X9_feeOf : GoodIn wsX9_herdOf (wsV RX9 239 RX9 yX9_feeOf wsX9_feeOf) := goodIn_app (goodIn_of _ (by decide +kernel)) ggX9_herdOf_X9_feeOf
set_option maxRecDepth 20000 in
theorem ggX9_ownerOf_X9_isIn : GoodIn wsX9_ownerOf wsX9_isIn := goodIn_r _ [12] (by decide +kernel) (by decide +kernel)
set_option maxRecDepth 20000 in
theorem gX9_ownerOf_X9_isIn : GoodIn wsX9_ownerOf (va_wsS RX9 134 yX9_isIn wsX9_isIn) := goodIn_app (goodIn_of _ (by decide +kernel)) ggX9_ownerOf_X9_isIn
set_option maxRecDepth 20000 in
theorem ggX9_ownerOf_X9_refuse : GoodIn wsX9_ownerOf wsX9_refuse := goodIn_r _ [16, 17, 54, 55, 56, 57, 58, 59, 60, 61, 62, 63, 64, 65, 66, 67, 68, 69, 70, 71, 72, 73, 74, 75, 76, 77, 78, 79, 80, 81, 82, 83, 84, 85, 86, 87, 88, 89, 90, 91, 92, 93, 94, 95, 96, 97, 98, 99, 100, 101, 102, 103, 104] (by decide +kernel) (by decide +kernel)
set_option maxRecDepth 20000 in
theorem gX9_ownerOf_X9_refuse : GoodIn wsX9_ownerOf (wsV RX9 122 RX9 yX9_refuse wsX9_refuse) := goodIn_app (goodIn_of _ (by decide +kernel)) ggX9_ownerOf_X9_refuse
set_option maxRecDepth 20000 in
theorem ggX9_ownerOf_X9_isOut : GoodIn wsX9_ownerOf wsX9_isOut := goodIn_r _ [21, 22, 23, 54, 55, 56, 57, 58, 59, 60, 61, 62, 63, 64, 65, 66, 67, 68, 69, 70, 71, 72, 73, 74, 75, 76, 77, 78, 79, 80, 81, 82, 83, 84, 85, 86, 87, 88, 89, 90, 91, 92, 93, 94, 95, 96, 97, 98, 99, 100, 101, 102, 103, 104] (by decide +kernel) (by decide +kernel)
set_option maxRecDepth 20000 in
theorem gX9_ownerOf_X9_isOut : GoodIn wsX9_ownerOf (wsV RX9 167 RX9 yX9_isOut wsX9_isOut) := goodIn_app (goodIn_of _ (by decide +kernel)) ggX9_ownerOf_X9_isOut
set_option maxRecDepth 20000 in
theorem ggX9_ownerOf_X9_partsOfHerd : GoodIn wsX9_ownerOf wsX9_partsOfHerd := goodIn_r _ [27, 28, 29, 30, 31, 11, 32, 54, 55, 56, 57, 58, 59, 60, 61, 62, 63, 64, 65, 66, 67, 68, 69, 70, 71, 72, 73, 74, 75, 76, 77, 78, 79, 80, 81, 82, 83, 84, 85, 86, 87, 88, 89, 90, 91, 92, 93, 94, 95, 96, 97, 98, 99, 100, 101, 102, 103, 104] (by decide +kernel) (by decide +kernel)
set_option maxRecDepth 20000 in
theorem gX9_ownerOf_X9_partsOfHerd : GoodIn wsX9_ownerOf (wsV RX9 170 RX9 yX9_partsOfHerd wsX9_partsOfHerd) := goodIn_app (goodIn_of _ (by decide +kernel)) ggX9_ownerOf_X9_partsOfHerd
set_option maxRecDepth 20000 in
theorem ggX9_ownerOf_X9_ownerOfRight : GoodIn wsX9_ownerOf wsX9_ownerOfRight := goodIn_r _ [36, 37, 38, 39, 54, 55, 56, 57, 58, 59, 60, 61, 62, 63, 64, 65, 66, 67, 68, 69, 70, 71, 72, 73, 74, 75, 76, 77, 78, 79, 80, 81, 82, 83, 84, 85, 86, 87, 88, 89, 90, 91, 92, 93, 94, 95, 96, 97, 98, 99, 100, 101, 102, 103, 104] (by decide +kernel) (by decide +kernel)
set_option maxRecDepth 20000 in
theorem gX9_ownerOf_X9_ownerOfRight : GoodIn wsX9_ownerOf (wsV RX9 155 RX9 yX9_ownerOfRight wsX9_ownerOfRight) := goodIn_app (goodIn_of _ (by decide +kernel)) ggX9_ownerOf_X9_ownerOfRight
set_option maxRecDepth 20000 in
theorem ggX9_ownerOf_X9_partsOf : GoodIn wsX9_ownerOf wsX9_partsOf := goodIn_r _ [43, 44, 8, 45, 46, 47, 48, 11, 49, 50, 51, 52, 53, 54, 55, 56, 57, 58, 59, 60, 61, 62, 63, 64, 65, 66, 67, 68, 69, 70, 71, 72, 73, 74, 75, 76, 77, 78, 79, 80, 81, 82, 83, 84, 85, 86, 87, 88, 89, 90, 91, 92, 93, 94, 95, 96, 97, 98, 99, 100, 101, 102, 103, 104] (by decide +kernel) (by decide +kernel)
set_option maxRecDepth 20000 in
theorem gX9_ownerOf_X9_partsOf : GoodIn wsX9_ownerOf (wsV RX9 158 RX9 yX9_partsOf wsX9_partsOf) := goodIn_app (goodIn_of _ (by decide +kernel)) ggX9_ownerOf_X9_partsOf
set_option maxRecDepth 20000 in
theorem ggX9_count_X9_isInForce : GoodIn wsX9_count wsX9_isInForce := goodIn_r _ [17, 18, 19, 2, 20, 21, 22, 23, 24, 25, 26, 27, 28, 29, 30, 31, 32, 33, 34, 35, 36, 37, 38, 39, 40, 41, 42, 43, 44, 45, 46, 47, 48, 49, 50, 51, 52, 53, 54, 55, 56, 57, 58, 59, 60, 61, 62, 63, 64, 65, 66, 67, 68, 69, 70, 71] (by decide +kernel) (by decide +kernel)
set_option maxRecDepth 20000 in
theorem gX9_count_X9_isInForce : GoodIn wsX9_count (wsV RX9 144 RX9 yX9_isInForce wsX9_isInForce) := goodIn_app (goodIn_of _ (by decide +kernel)) ggX9_count_X9_isInForce
