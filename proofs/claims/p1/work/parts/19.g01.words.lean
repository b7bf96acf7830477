set_option maxRecDepth 20000 in
theorem ggX9_pass_X9_goes : GoodIn wsX9_pass wsX9_goes := goodIn_r _ [31, 8, 10, 32, 33, 34, 5, 35, 36, 37, 38, 39, 40, 41, 42, 43, 44, 45, 46, 47, 48, 49, 50, 51, 52, 53, 15, 54, 55, 56, 57, 58, 59, 60, 61, 62, 63, 105, 106, 107, 108, 109, 110, 111, 112, 113, 114, 115, 116, 117, 118, 119, 120, 121, 122, 123, 124, 125, 126, 127, 128, 129, 130, 131, 132, 133, 134, 135, 136, 137, 138, 139, 140, 141, 142, 143, 144, 145, 146, 147, 148, 149, 150, 151, 152, 153, 154, 155] (by decide +kernel) (by decide +kernel)
set_option maxRecDepth 20000 in
theorem gX9_pass_X9_goes : GoodIn wsX9_pass (wsV RX9 217 RX9 yX9_goes wsX9_goes) := goodIn_app (goodIn_of _ (by decide +kernel)) ggX9_pass_X9_goes
set_option maxRecDepth 20000 in
theorem ggX9_pass_X9_sells : GoodIn wsX9_pass wsX9_sells := goodIn_r _ [67, 8, 27, 1, 68, 55, 47, 48, 37, 49, 69, 70, 71, 51, 52, 53, 15, 54, 56, 57, 58, 59, 105, 106, 107, 108, 109, 110, 111, 112, 113, 114, 115, 116, 117, 118, 119, 120, 121, 122, 123, 124, 125, 126, 127, 128, 129, 130, 131, 132, 133, 134, 135, 136, 137, 138, 139, 140, 141, 142, 143, 144, 145, 146, 147, 148, 149, 150, 151, 152, 153, 154, 155] (by decide +kernel) (by decide +kernel)
set_option maxRecDepth 20000 in
theorem gX9_pass_X9_sells : GoodIn wsX9_pass (wsV RX9 224 RX9 yX9_sells wsX9_sells) := goodIn_app (goodIn_of _ (by decide +kernel)) ggX9_pass_X9_sells
set_option maxRecDepth 20000 in
theorem ggX9_pass_X9_lapses : GoodIn wsX9_pass wsX9_lapses := goodIn_r _ [75, 76, 77, 78, 79, 1, 80, 81, 82, 83, 84, 85, 15, 86, 87, 88, 89, 90, 91, 92, 93, 94, 95, 96, 8, 71, 97, 56, 22, 98, 99, 100, 101, 102, 103, 104, 23, 24, 25, 26, 27, 105, 106, 107, 108, 109, 110, 111, 112, 113, 114, 115, 116, 117, 118, 119, 120, 121, 122, 123, 124, 125, 126, 127, 128, 129, 130, 131, 132, 133, 134, 135, 136, 137, 138, 139, 140, 141, 142, 143, 144, 145, 146, 147, 148, 149, 150, 151, 152, 153, 154, 155] (by decide +kernel) (by decide +kernel)
set_option maxRecDepth 20000 in
theorem gX9_pass_X9_lapses : GoodIn wsX9_pass (wsV RX9 227 RX9 yX9_lapses wsX9_lapses) := goodIn_app (goodIn_of _ (by decide +kernel)) ggX9_pass_X9_lapses
set_option maxRecDepth 20000 in
theorem ggX9_rest_X9_isIn : GoodIn wsX9_rest wsX9_isIn := goodIn_r _ [7] (by decide +kernel) (by decide +kernel)
set_option maxRecDepth 20000 in
theorem gX9_rest_X9_isIn : GoodIn wsX9_rest (va_wsS RX9 134 yX9_isIn wsX9_isIn) := goodIn_app (goodIn_of _ (by decide +kernel)) ggX9_rest_X9_isIn
set_option maxRecDepth 20000 in
theorem ggX9_rest_X9_refuse : GoodIn wsX9_rest wsX9_refuse := goodIn_r _ [11, 12, 13, 14, 15, 16, 17, 18, 19, 20, 21, 22, 23, 24, 25, 26, 27, 28, 29, 30, 31, 32, 33, 34, 35, 36, 37, 38, 39, 40, 41, 42, 43, 44, 45, 46, 47, 48, 49, 50, 51, 52, 53, 54, 55, 56, 57, 58, 59, 60, 61, 62, 63] (by decide +kernel) (by decide +kernel)
set_option maxRecDepth 20000 in
theorem gX9_rest_X9_refuse : GoodIn wsX9_rest (wsV RX9 122 RX9 yX9_refuse wsX9_refuse) := goodIn_app (goodIn_of _ (by decide +kernel)) ggX9_rest_X9_refuse
set_option maxRecDepth 20000 in
theorem ggX9_cut_X9_isIn : GoodIn wsX9_cut wsX9_isIn := goodIn_r _ [18] (by decide +kernel) (by decide +kernel)
set_option maxRecDepth 20000 in
theorem gX9_cut_X9_isIn : GoodIn wsX9_cut (va_wsS RX9 134 yX9_isIn wsX9_isIn) := goodIn_app (goodIn_of _ (by decide +kernel)) ggX9_cut_X9_isIn
set_option maxRecDepth 20000 in
theorem ggX9_cut_X9_refuse : GoodIn wsX9_cut wsX9_refuse := goodIn_r _ [22, 23, 58, 59, 60, 61, 62, 63, 64, 65, 66, 67, 68, 69, 70, 71, 72, 73, 74, 75, 76, 77, 78, 79, 80, 81, 82, 83, 84, 85, 86, 87, 88, 89, 90, 91, 92, 93, 94, 95, 96, 97, 98, 99, 100, 101, 102, 103, 104, 105, 106, 107, 108] (by decide +kernel) (by decide +kernel)
set_option maxRecDepth 20000 in
theorem gX9_cut_X9_refuse : GoodIn wsX9_cut (wsV RX9 122 RX9 yX9_refuse wsX9_refuse) := goodIn_app (goodIn_of _ (by decide +kernel)) ggX9_cut_X9_refuse
set_option maxRecDepth 20000 in
theorem ggX9_pound_X9_isIn : GoodIn wsX9_pound wsX9_isIn := goodIn_r _ [10] (by decide +kernel) (by decide +kernel)
set_option maxRecDepth 20000 in
theorem gX9_pound_X9_isIn : GoodIn wsX9_pound (va_wsS RX9 134 yX9_isIn wsX9_isIn) := goodIn_app (goodIn_of _ (by decide +kernel)) ggX9_pound_X9_isIn
set_option maxRecDepth 20000 in
theorem ggX9_pound_X9_refuse : GoodIn wsX9_pound wsX9_refuse := goodIn_r _ [14, 15, 63, 64, 65, 66, 67, 68, 69, 70, 71, 72, 73, 74, 75, 76, 77, 78, 79, 80, 81, 82, 83, 84, 85, 86, 87, 88, 89, 90, 91, 92, 93, 94, 95, 96, 97, 98, 99, 100, 101, 102, 103, 104, 105, 106, 107, 108, 109, 110, 111, 112, 113] (by decide +kernel) (by decide +kernel)
set_option maxRecDepth 20000 in
theorem gX9_pound_X9_refuse : GoodIn wsX9_pound (wsV RX9 122 RX9 yX9_refuse wsX9_refuse) := goodIn_app (goodIn_of _ (by decide +kernel)) ggX9_pound_X9_refuse
set_option maxRecDepth 20000 in
theorem ggX9_free_X9_isIn : GoodIn wsX9_free wsX9_isIn := goodIn_r _ [9] (by decide +kernel) (by decide +kernel)
set_option maxRecDepth 20000 in
theorem gX9_free_X9_isIn : GoodIn wsX9_free (va_wsS RX9 134 yX9_isIn wsX9_isIn) := goodIn_app (goodIn_of _ (by decide +kernel)) ggX9_free_X9_isIn
set_option maxRecDepth 20000 in
theorem ggX9_free_X9_refuse : GoodIn wsX9_free wsX9_refuse := goodIn_r _ [13, 14, 22, 23, 24, 25, 26, 27, 28, 29, 30, 31, 32, 33, 34, 35, 36, 37, 38, 39, 40, 41, 42, 43, 44, 45, 46, 47, 48, 49, 50, 51, 52, 53, 54, 55, 56, 57, 58, 59, 60, 61, 62, 63, 64, 65, 66, 67, 68, 69, 70, 71, 72] (by decide +kernel) (by decide +kernel)
set_option maxRecDepth 20000 in
theorem gX9_free_X9_refuse : GoodIn wsX9_free (wsV RX9 122 RX9 yX9_refuse wsX9_refuse) := goodIn_app (goodIn_of _ (by decide +kernel)) ggX9_free_X9_refuse
set_option maxRecDepth 20000 in
theorem ggX9_plan_X9_isIn : GoodIn wsX9_plan wsX9_isIn := goodIn_r _ [12] (by decide +kernel) (by decide +kernel)
set_option maxRecDepth 20000 in
theorem gX9_plan_X9_isIn : GoodIn wsX9_plan (va_wsS RX9 134 yX9_isIn wsX9_isIn) := goodIn_app (goodIn_of _ (by decide +kernel)) ggX9_plan_X9_isIn
set_option maxRecDepth 20000 in
theorem ggX9_plan_X9_refuse : GoodIn wsX9_plan wsX9_refuse := goodIn_r _ [16, 17, 77, 78, 79, 80, 81, 82, 83, 84, 85, 86, 87, 88, 89, 90, 91, 92, 93, 94, 95, 96, 97, 98, 99, 100, 101, 102, 103, 104, 105, 106, 107, 108, 109, 110, 111, 112, 113, 114, 115, 116, 117, 118, 119, 120, 121, 122, 123, 124, 125, 126, 127] (by decide +kernel) (by decide +kernel)
set_option maxRecDepth 20000 in
theorem gX9_plan_X9_refuse : GoodIn wsX9_plan (wsV RX9 122 RX9 yX9_refuse wsX9_refuse) := goodIn_app (goodIn_of _ (by decide +kernel)) ggX9_plan_X9_refuse
set_option maxRecDepth 20000 in
theorem ggX9_planned_X9_isIn : GoodIn wsX9_planned wsX9_isIn := goodIn_r _ [7] (by decide +kernel) (by decide +kernel)
set_option maxRecDepth 20000 in
theorem gX9_planned_X9_isIn : GoodIn wsX9_planned (va_wsS RX9 134 yX9_isIn wsX9_isIn) := goodIn_app (goodIn_of _ (by decide +kernel)) ggX9_planned_X9_isIn
set_option maxRecDepth 20000 in
theorem ggX9_pieceOf_X9_isIn : GoodIn wsX9_pieceOf wsX9_isIn := goodIn_r _ [12] (by decide +kernel) (by decide +kernel)
set_option maxRecDepth 20000 in
theorem gX9_pieceOf_X9_isIn : GoodIn wsX9_pieceOf (va_wsS RX9 134 yX9_isIn wsX9_isIn) := goodIn_app (goodIn_of _ (by decide +kernel)) ggX9_pieceOf_X9_isIn
set_option maxRecDepth 20000 in
theorem ggX9_pieceOf_X9_refuse : GoodIn wsX9_pieceOf wsX9_refuse := goodIn_r _ [16, 17, 36, 37, 38, 39, 40, 41, 42, 43, 44, 45, 46, 47, 48, 49, 50, 51, 52, 53, 54, 55, 56, 57, 58, 59, 60, 61, 62, 63, 64, 65, 66, 67, 68, 69, 70, 71, 72, 73, 74, 75, 76, 77, 78, 79, 80, 81, 82, 83, 84, 85, 86] (by decide +kernel) (by decide +kernel)
set_option maxRecDepth 20000 in
theorem gX9_pieceOf_X9_refuse : GoodIn wsX9_pieceOf (wsV RX9 122 RX9 yX9_refuse wsX9_refuse) := goodIn_app (goodIn_of _ (by decide +kernel)) ggX9_pieceOf_X9_refuse
set_option maxRecDepth 20000 in
theorem ggX9_rightOf_X9_isIn : GoodIn wsX9_rightOf wsX9_isIn := goodIn_r _ [11] (by decide +kernel) (by decide +kernel)
set_option maxRecDepth 20000 in
theorem gX9_rightOf_X9_isIn : GoodIn wsX9_rightOf (va_wsS RX9 134 yX9_isIn wsX9_isIn) := goodIn_app (goodIn_of _ (by decide +kernel)) ggX9_rightOf_X9_isIn
set_option maxRecDepth 20000 in
theorem ggX9_rightOf_X9_refuse : GoodIn wsX9_rightOf wsX9_refuse := goodIn_r _ [15, 16, 33, 34, 35, 36, 37, 38, 39, 40, 41, 42, 43, 44, 45, 46, 47, 48, 49, 50, 51, 52, 53, 54, 55, 56, 57, 58, 59, 60, 61, 62, 63, 64, 65, 66, 67, 68, 69, 70, 71, 72, 73, 74, 75, 76, 77, 78, 79, 80, 81, 82, 83] (by decide +kernel) (by decide +kernel)
set_option maxRecDepth 20000 in
theorem gX9_rightOf_X9_refuse : GoodIn wsX9_rightOf (wsV RX9 122 RX9 yX9_refuse wsX9_refuse) := goodIn_app (goodIn_of _ (by decide +kernel)) ggX9_rightOf_X9_refuse
set_option maxRecDepth 20000 in
theorem ggX9_herdOf_X9_isIn : GoodIn wsX9_herdOf wsX9_isIn := goodIn_r _ [11] (by decide +kernel) (by decide +kernel)
set_option maxRecDepth 20000 in
theorem gX9_herdOf_X9_isIn : GoodIn wsX9_herdOf (va_wsS RX9 134 yX9_isIn wsX9_isIn) := goodIn_app (goodIn_of _ (by decide +kernel)) ggX9_herdOf_X9_isIn
set_option maxRecDepth 20000 in
theorem ggX9_herdOf_X9_refuse : GoodIn wsX9_herdOf wsX9_refuse := goodIn_r _ [15, 16, 23, 24, 25, 26, 27, 28, 29, 30, 31, 32, 33, 34, 35, 36, 37, 38, 39, 40, 41, 42, 43, 44, 45, 46, 47, 48, 49, 50, 51, 52, 53, 54, 55, 56, 57, 58, 59, 60, 61, 62, 63, 64, 65, 66, 67, 68, 69, 70, 71, 72, 73] (by decide +kernel) (by decide +kernel)
set_option maxRecDepth 20000 in
theorem gX9_herdOf_X9_refuse : GoodIn wsX9_herdOf (wsV RX9 122 RX9 yX9_refuse wsX9_refuse) := goodIn_app (goodIn_of _ (by decide +kernel)) ggX9_herdOf_X9_refuse
set_option maxRecDepth 20000 in
theorem ggX9_ownerOf_X9_isIn : GoodIn wsX9_ownerOf wsX9_isIn := goodIn_r _ [12] (by decide +kernel) (by decide +kernel)
set_option maxRecDepth 20000 in
theorem gX9_ownerOf_X9_isIn : GoodIn wsX9_ownerOf (va_wsS RX9 134 yX9_isIn wsX9_isIn) := goodIn_app (goodIn_of _ (by decide +kernel)) ggX9_ownerOf_X9_isIn
set_option maxRecDepth 20000 in
theorem ggX9_ownerOf_X9_refuse : GoodIn wsX9_ownerOf wsX9_refuse := goodIn_r _ [16, 17, 54, 55, 56, 57, 58, 59, 60, 61, 62, 63, 64, 65, 66, 67, 68, 69, 70, 71, 72, 73, 74, 75, 76, 77, 78, 79, 80, 81, 82, 83, 84, 85, 86, 87, 88, 89, 90, 91, 92, 93, 94, 95, 96, 97, 98, 99, 100, 101, 102, 103, 104] (by decide +kernel) (by decide +kernel)
set_option maxRecDepth 20000 in
theorem gX9_ownerOf_X9_refuse : GoodIn wsX9_ownerOf (wsV RX9 122 RX9 yX9_refuse wsX9_refuse) := goodIn_app (goodIn_of _ (by decide +kernel)) ggX9_ownerOf_X9_refuse
