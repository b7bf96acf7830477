set_option maxRecDepth 20000 in
theorem ggX9_lacks_X9_lacksOf : GoodIn wsX9_lacks wsX9_lacksOf := goodIn_r _ [9, 10, 11, 12, 13, 14, 15, 16, 17, 18, 19, 20, 21, 22, 23, 24, 25, 26, 27, 4, 28, 29, 30, 31, 32, 33, 34, 35, 36, 37, 38, 39, 40, 41, 42, 43, 44, 45, 46, 47, 48, 49, 50, 51, 52, 53, 54, 55, 56, 57, 63, 64, 65, 66, 67, 68, 69, 70, 71, 72, 73, 74, 75, 76, 77, 78, 79, 80, 81, 82, 83, 84, 85, 86, 87, 88, 89, 90, 91, 92, 93, 94, 95, 96, 97, 98, 99, 100, 101, 102, 103, 104, 105, 106, 107, 108, 109, 110, 111, 112, 113] (by decide +kernel) (by decide +kernel)
set_option maxRecDepth 20000 in
theorem gX9_lacks_X9_lacksOf : GoodIn wsX9_lacks (wsV RX9 185 RX9 yX9_lacksOf wsX9_lacksOf) := goodIn_app (goodIn_of _ (by decide +kernel)) ggX9_lacks_X9_lacksOf
set_option maxRecDepth 20000 in
theorem ggX9_lacks_X9_refuse : GoodIn wsX9_lacks wsX9_refuse := goodIn_r _ [61, 62, 63, 64, 65, 66, 67, 68, 69, 70, 71, 72, 73, 74, 75, 76, 77, 78, 79, 80, 81, 82, 83, 84, 85, 86, 87, 88, 89, 90, 91, 92, 93, 94, 95, 96, 97, 98, 99, 100, 101, 102, 103, 104, 105, 106, 107, 108, 109, 110, 111, 112, 113] (by decide +kernel) (by decide +kernel)
set_option maxRecDepth 20000 in
theorem gX9_lacks_X9_refuse : GoodIn wsX9_lacks (wsV RX9 122 RX9 yX9_refuse wsX9_refuse) := goodIn_app (goodIn_of _ (by decide +kernel)) ggX9_lacks_X9_refuse
set_option maxRecDepth 20000 in
theorem ggX9_partsOn_X9_isOut : GoodIn wsX9_partsOn wsX9_isOut := goodIn_r _ [7, 8, 2, 18, 19, 20, 21, 22, 23, 24, 25, 26, 27, 28, 29, 30, 31, 32, 33, 34, 35, 36, 37, 38, 39, 40, 41, 42, 43, 44, 45, 46, 47, 48, 49, 50, 51, 52, 53, 54, 55, 56, 57, 58, 59, 60, 61, 62, 63, 64, 65, 66, 67, 68] (by decide +kernel) (by decide +kernel)
set_option maxRecDepth 20000 in
theorem gX9_partsOn_X9_isOut : GoodIn wsX9_partsOn (wsV RX9 167 RX9 yX9_isOut wsX9_isOut) := goodIn_app (goodIn_of _ (by decide +kernel)) ggX9_partsOn_X9_isOut
set_option maxRecDepth 20000 in
theorem ggX9_partsOn_X9_partsOfHerd : GoodIn wsX9_partsOn wsX9_partsOfHerd := goodIn_r _ [12, 13, 14, 15, 16, 6, 17, 18, 19, 20, 21, 22, 23, 24, 25, 26, 27, 28, 29, 30, 31, 32, 33, 34, 35, 36, 37, 38, 39, 40, 41, 42, 43, 44, 45, 46, 47, 48, 49, 50, 51, 52, 53, 54, 55, 56, 57, 58, 59, 60, 61, 62, 63, 64, 65, 66, 67, 68] (by decide +kernel) (by decide +kernel)
set_option maxRecDepth 20000 in
theorem gX9_partsOn_X9_partsOfHerd : GoodIn wsX9_partsOn (wsV RX9 170 RX9 yX9_partsOfHerd wsX9_partsOfHerd) := goodIn_app (goodIn_of _ (by decide +kernel)) ggX9_partsOn_X9_partsOfHerd
set_option maxRecDepth 20000 in
theorem ggX9_over_X9_isIn : GoodIn wsX9_over wsX9_isIn := goodIn_r _ [10] (by decide +kernel) (by decide +kernel)
set_option maxRecDepth 20000 in
theorem gX9_over_X9_isIn : GoodIn wsX9_over (va_wsS RX9 134 yX9_isIn wsX9_isIn) := goodIn_app (goodIn_of _ (by decide +kernel)) ggX9_over_X9_isIn
set_option maxRecDepth 20000 in
theorem ggX9_over_X9_refuse : GoodIn wsX9_over wsX9_refuse := goodIn_r _ [14, 15, 34, 35, 36, 37, 38, 39, 40, 41, 42, 43, 44, 45, 46, 47, 48, 49, 50, 51, 52, 53, 54, 55, 56, 57, 58, 59, 60, 61, 62, 63, 64, 65, 66, 67, 68, 69, 70, 71, 72, 73, 74, 75, 76, 77, 78, 79, 80, 81, 82, 83, 84] (by decide +kernel) (by decide +kernel)
set_option maxRecDepth 20000 in
theorem gX9_over_X9_refuse : GoodIn wsX9_over (wsV RX9 122 RX9 yX9_refuse wsX9_refuse) := goodIn_app (goodIn_of _ (by decide +kernel)) ggX9_over_X9_refuse
set_option maxRecDepth 20000 in
theorem ggX9_over_X9_partsOn : GoodIn wsX9_over wsX9_partsOn := goodIn_r _ [19, 4, 5, 20, 21, 22, 9, 23, 24, 25, 26, 27, 28, 29, 30, 31, 32, 33, 34, 35, 36, 37, 38, 39, 40, 41, 42, 43, 44, 45, 46, 47, 48, 49, 50, 51, 52, 53, 54, 55, 56, 57, 58, 59, 60, 61, 62, 63, 64, 65, 66, 67, 68, 69, 70, 71, 72, 73, 74, 75, 76, 77, 78, 79, 80, 81, 82, 83, 84] (by decide +kernel) (by decide +kernel)
set_option maxRecDepth 20000 in
theorem gX9_over_X9_partsOn : GoodIn wsX9_over (wsV RX9 191 RX9 yX9_partsOn wsX9_partsOn) := goodIn_app (goodIn_of _ (by decide +kernel)) ggX9_over_X9_partsOn
set_option maxRecDepth 20000 in
theorem ggX9_over_X9_isOut : GoodIn wsX9_over wsX9_isOut := goodIn_r _ [23, 24, 5, 34, 35, 36, 37, 38, 39, 40, 41, 42, 43, 44, 45, 46, 47, 48, 49, 50, 51, 52, 53, 54, 55, 56, 57, 58, 59, 60, 61, 62, 63, 64, 65, 66, 67, 68, 69, 70, 71, 72, 73, 74, 75, 76, 77, 78, 79, 80, 81, 82, 83, 84] (by decide +kernel) (by decide +kernel)
set_option maxRecDepth 20000 in
theorem gX9_over_X9_isOut : GoodIn wsX9_over (wsV RX9 167 RX9 yX9_isOut wsX9_isOut) := goodIn_app (goodIn_of _ (by decide +kernel)) ggX9_over_X9_isOut
set_option maxRecDepth 20000 in
theorem ggX9_over_X9_partsOfHerd : GoodIn wsX9_over wsX9_partsOfHerd := goodIn_r _ [28, 29, 30, 31, 32, 9, 33, 34, 35, 36, 37, 38, 39, 40, 41, 42, 43, 44, 45, 46, 47, 48, 49, 50, 51, 52, 53, 54, 55, 56, 57, 58, 59, 60, 61, 62, 63, 64, 65, 66, 67, 68, 69, 70, 71, 72, 73, 74, 75, 76, 77, 78, 79, 80, 81, 82, 83, 84] (by decide +kernel) (by decide +kernel)
set_option maxRecDepth 20000 in
theorem gX9_over_X9_partsOfHerd : GoodIn wsX9_over (wsV RX9 170 RX9 yX9_partsOfHerd wsX9_partsOfHerd) := goodIn_app (goodIn_of _ (by decide +kernel)) ggX9_over_X9_partsOfHerd
set_option maxRecDepth 20000 in
theorem ggX9_goes_X9_partsOfHerd : GoodIn wsX9_goes wsX9_partsOfHerd := goodIn_r _ [27, 28, 29, 30, 31, 26, 32, 37, 38, 39, 40, 41, 42, 43, 44, 45, 46, 47, 48, 49, 50, 51, 52, 53, 54, 55, 56, 57, 58, 59, 60, 61, 62, 63, 64, 65, 66, 67, 68, 69, 70, 71, 72, 73, 74, 75, 76, 77, 78, 79, 80, 81, 82, 83, 84, 85, 86, 87] (by decide +kernel) (by decide +kernel)
set_option maxRecDepth 20000 in
theorem gX9_goes_X9_partsOfHerd : GoodIn wsX9_goes (wsV RX9 170 RX9 yX9_partsOfHerd wsX9_partsOfHerd) := goodIn_app (goodIn_of _ (by decide +kernel)) ggX9_goes_X9_partsOfHerd
set_option maxRecDepth 20000 in
theorem ggX9_goes_X9_shares : GoodIn wsX9_goes wsX9_shares := goodIn_r _ [36, 1, 2, 23, 24, 25, 26, 27, 28, 29, 30, 31, 32, 37, 38, 39, 40, 41, 42, 43, 44, 45, 46, 47, 48, 49, 50, 51, 52, 53, 54, 55, 56, 57, 58, 59, 60, 61, 62, 63, 64, 65, 66, 67, 68, 69, 70, 71, 72, 73, 74, 75, 76, 77, 78, 79, 80, 81, 82, 83, 84, 85, 86, 87] (by decide +kernel) (by decide +kernel)
set_option maxRecDepth 20000 in
theorem gX9_goes_X9_shares : GoodIn wsX9_goes (wsV RX9 201 RX9 yX9_shares wsX9_shares) := goodIn_app (goodIn_of _ (by decide +kernel)) ggX9_goes_X9_shares
set_option maxRecDepth 20000 in
theorem ggX9_shares_X9_partsOfHerd : GoodIn wsX9_shares wsX9_partsOfHerd := goodIn_r _ [7, 8, 9, 10, 11, 6, 12, 13, 14, 15, 16, 17, 18, 19, 20, 21, 22, 23, 24, 25, 26, 27, 28, 29, 30, 31, 32, 33, 34, 35, 36, 37, 38, 39, 40, 41, 42, 43, 44, 45, 46, 47, 48, 49, 50, 51, 52, 53, 54, 55, 56, 57, 58, 59, 60, 61, 62, 63] (by decide +kernel) (by decide +kernel)
set_option maxRecDepth 20000 in
theorem gX9_shares_X9_partsOfHerd : GoodIn wsX9_shares (wsV RX9 170 RX9 yX9_partsOfHerd wsX9_partsOfHerd) := goodIn_app (goodIn_of _ (by decide +kernel)) ggX9_shares_X9_partsOfHerd
set_option maxRecDepth 20000 in
theorem ggX9_places_X9_isOut : GoodIn wsX9_places wsX9_isOut := goodIn_r _ [8, 9, 3, 10, 11, 12, 13, 14, 15, 16, 17, 18, 19, 20, 21, 22, 23, 24, 25, 26, 27, 28, 29, 30, 31, 32, 33, 34, 35, 36, 37, 38, 39, 40, 41, 42, 43, 44, 45, 46, 47, 48, 49, 50, 51, 52, 53, 54, 55, 56, 57, 58, 59, 60] (by decide +kernel) (by decide +kernel)
set_option maxRecDepth 20000 in
theorem gX9_places_X9_isOut : GoodIn wsX9_places (wsV RX9 167 RX9 yX9_isOut wsX9_isOut) := goodIn_app (goodIn_of _ (by decide +kernel)) ggX9_places_X9_isOut
set_option maxRecDepth 20000 in
theorem ggX9_sells_X9_partsOfHerd : GoodIn wsX9_sells wsX9_partsOfHerd := goodIn_r _ [17, 5, 18, 19, 20, 16, 21, 22, 23, 24, 25, 26, 27, 28, 29, 30, 31, 32, 33, 34, 35, 36, 37, 38, 39, 40, 41, 42, 43, 44, 45, 46, 47, 48, 49, 50, 51, 52, 53, 54, 55, 56, 57, 58, 59, 60, 61, 62, 63, 64, 65, 66, 67, 68, 69, 70, 71, 72] (by decide +kernel) (by decide +kernel)
set_option maxRecDepth 20000 in
theorem gX9_sells_X9_partsOfHerd : GoodIn wsX9_sells (wsV RX9 170 RX9 yX9_partsOfHerd wsX9_partsOfHerd) := goodIn_app (goodIn_of _ (by decide +kernel)) ggX9_sells_X9_partsOfHerd
set_option maxRecDepth 20000 in
theorem ggX9_isAsked_X9_ownerOfRight : GoodIn wsX9_isAsked wsX9_ownerOfRight := goodIn_r _ [11, 3, 12, 13, 19, 20, 21, 22, 23, 24, 25, 26, 27, 28, 29, 30, 31, 32, 33, 34, 35, 36, 37, 38, 39, 40, 41, 42, 43, 44, 45, 46, 47, 48, 49, 50, 51, 52, 53, 54, 55, 56, 57, 58, 59, 60, 61, 62, 63, 64, 65, 66, 67, 68, 69] (by decide +kernel) (by decide +kernel)
set_option maxRecDepth 20000 in
theorem gX9_isAsked_X9_ownerOfRight : GoodIn wsX9_isAsked (wsV RX9 155 RX9 yX9_ownerOfRight wsX9_ownerOfRight) := goodIn_app (goodIn_of _ (by decide +kernel)) ggX9_isAsked_X9_ownerOfRight
set_option maxRecDepth 20000 in
theorem ggX9_isAsked_X9_isOut : GoodIn wsX9_isAsked wsX9_isOut := goodIn_r _ [17, 18, 5, 19, 20, 21, 22, 23, 24, 25, 26, 27, 28, 29, 30, 31, 32, 33, 34, 35, 36, 37, 38, 39, 40, 41, 42, 43, 44, 45, 46, 47, 48, 49, 50, 51, 52, 53, 54, 55, 56, 57, 58, 59, 60, 61, 62, 63, 64, 65, 66, 67, 68, 69] (by decide +kernel) (by decide +kernel)
set_option maxRecDepth 20000 in
theorem gX9_isAsked_X9_isOut : GoodIn wsX9_isAsked (wsV RX9 167 RX9 yX9_isOut wsX9_isOut) := goodIn_app (goodIn_of _ (by decide +kernel)) ggX9_isAsked_X9_isOut
set_option maxRecDepth 20000 in
theorem ggX9_lapses_X9_partsOf : GoodIn wsX9_lapses wsX9_partsOf := goodIn_r _ [13, 14, 1, 3, 15, 16, 17, 12, 18, 7, 6, 5, 19, 41, 42, 43, 44, 45, 46, 47, 48, 49, 50, 51, 52, 53, 54, 55, 56, 57, 58, 59, 60, 61, 62, 63, 64, 65, 66, 67, 68, 69, 70, 71, 72, 73, 74, 75, 76, 77, 78, 79, 80, 81, 82, 83, 84, 85, 86, 87, 88, 89, 90, 91] (by decide +kernel) (by decide +kernel)
set_option maxRecDepth 20000 in
theorem gX9_lapses_X9_partsOf : GoodIn wsX9_lapses (wsV RX9 158 RX9 yX9_partsOf wsX9_partsOf) := goodIn_app (goodIn_of _ (by decide +kernel)) ggX9_lapses_X9_partsOf
set_option maxRecDepth 20000 in
theorem ggX9_lapses_X9_isAsked : GoodIn wsX9_lapses wsX9_isAsked := goodIn_r _ [23, 24, 25, 26, 27, 28, 29, 30, 31, 32, 12, 33, 34, 35, 36, 37, 38, 39, 40, 41, 42, 43, 44, 45, 46, 47, 48, 49, 50, 51, 52, 53, 54, 55, 56, 57, 58, 59, 60, 61, 62, 63, 64, 65, 66, 67, 68, 69, 70, 71, 72, 73, 74, 75, 76, 77, 78, 79, 80, 81, 82, 83, 84, 85, 86, 87, 88, 89, 90, 91] (by decide +kernel) (by decide +kernel)
set_option maxRecDepth 20000 in
theorem gX9_lapses_X9_isAsked : GoodIn wsX9_lapses (wsV RX9 208 RX9 yX9_isAsked wsX9_isAsked) := goodIn_app (goodIn_of _ (by decide +kernel)) ggX9_lapses_X9_isAsked
set_option maxRecDepth 20000 in
theorem ggX9_lapses_X9_isInForce : GoodIn wsX9_lapses wsX9_isInForce := goodIn_r _ [18, 7, 6, 5, 19, 41, 42, 43, 44, 45, 46, 47, 48, 49, 50, 51, 52, 53, 54, 55, 56, 57, 58, 59, 60, 61, 62, 63, 64, 65, 66, 67, 68, 69, 70, 71, 72, 73, 74, 75, 76, 77, 78, 79, 80, 81, 82, 83, 84, 85, 86, 87, 88, 89, 90, 91] (by decide +kernel) (by decide +kernel)
set_option maxRecDepth 20000 in
theorem gX9_lapses_X9_isInForce : GoodIn wsX9_lapses (wsV RX9 144 RX9 yX9_isInForce wsX9_isInForce) := goodIn_app (goodIn_of _ (by decide +kernel)) ggX9_lapses_X9_isInForce
set_option maxRecDepth 20000 in
theorem ggX9_pass_X9_refuse : GoodIn wsX9_pass wsX9_refuse := goodIn_r _ [16, 17, 105, 106, 107, 108, 109, 110, 111, 112, 113, 114, 115, 116, 117, 118, 119, 120, 121, 122, 123, 124, 125, 126, 127, 128, 129, 130, 131, 132, 133, 134, 135, 136, 137, 138, 139, 140, 141, 142, 143, 144, 145, 146, 147, 148, 149, 150, 151, 152, 153, 154, 155] (by decide +kernel) (by decide +kernel)
set_option maxRecDepth 20000 in
theorem gX9_pass_X9_refuse : GoodIn wsX9_pass (wsV RX9 122 RX9 yX9_refuse wsX9_refuse) := goodIn_app (goodIn_of _ (by decide +kernel)) ggX9_pass_X9_refuse
set_option maxRecDepth 20000 in
theorem ggX9_pass_X9_places : GoodIn wsX9_pass wsX9_places := goodIn_r _ [21, 4, 8, 22, 23, 24, 25, 15, 26, 27, 105, 106, 107, 108, 109, 110, 111, 112, 113, 114, 115, 116, 117, 118, 119, 120, 121, 122, 123, 124, 125, 126, 127, 128, 129, 130, 131, 132, 133, 134, 135, 136, 137, 138, 139, 140, 141, 142, 143, 144, 145, 146, 147, 148, 149, 150, 151, 152, 153, 154, 155] (by decide +kernel) (by decide +kernel)
set_option maxRecDepth 20000 in
theorem gX9_pass_X9_places : GoodIn wsX9_pass (wsV RX9 214 RX9 yX9_places wsX9_places) := goodIn_app (goodIn_of _ (by decide +kernel)) ggX9_pass_X9_places
set_option maxRecDepth 20000 in
theorem ggX9_pass_X9_goes : GoodIn wsX9_pass wsX9_goes := goodIn_r _ [31, 8, 10, 32, 33, 34, 5, 35, 36, 37, 38, 39, 40, 41, 42, 43, 44, 45, 46, 47, 48, 49, 50, 51, 52, 53, 15, 54, 55, 56, 57, 58, 59, 60, 61, 62, 63, 105, 106, 107, 108, 109, 110, 111, 112, 113, 114, 115, 116, 117, 118, 119, 120, 121, 122, 123, 124, 125, 126, 127, 128, 129, 130, 131, 132, 133, 134, 135, 136, 137, 138, 139, 140, 141, 142, 143, 144, 145, 146, 147, 148, 149, 150, 151, 152, 153, 154, 155] (by decide +kernel) (by decide +kernel)
set_option maxRecDepth 20000 in
theorem gX9_pass_X9_goes : GoodIn wsX9_pass (wsV RX9 217 RX9 yX9_goes wsX9_goes) := goodIn_app (goodIn_of _ (by decide +kernel)) ggX9_pass_X9_goes
set_option maxRecDepth 20000 in
theorem ggX9_pass_X9_sells : GoodIn wsX9_pass wsX9_sells := goodIn_r _ [67, 8, 27, 1, 68, 55, 47, 48, 37, 49, 69, 70, 71, 51, 52, 53, 15, 54, 56, 57, 58, 59, 105, 106, 107, 108, 109, 110, 111, 112, 113, 114, 115, 116, 117, 118, 119, 120, 121, 122, 123, 124, 125, 126, 127, 128, 129, 130, 131, 132, 133, 134, 135, 136, 137, 138, 139, 140, 141, 142, 143, 144, 145, 146, 147, 148, 149, 150, 151, 152, 153, 154, 155] (by decide +kernel) (by decide +kernel)
set_option maxRecDepth 20000 in
theorem gX9_pass_X9_sells : GoodIn wsX9_pass (wsV RX9 224 RX9 yX9_sells wsX9_sells) := goodIn_app (goodIn_of _ (by decide +kernel)) ggX9_pass_X9_sells
set_option maxRecDepth 20000 in
theorem ggX9_pass_X9_lapses : GoodIn wsX9_pass wsX9_lapses := goodIn_r _ [75, 76, 77, 78, 79, 1, 80, 81, 82, 83, 84, 85, 15, 86, 87, 88, 89, 90, 91, 92, 93, 94, 95, 96, 8, 71, 97, 56, 22, 98, 99, 100, 101, 102, 103, 104, 23, 24, 25, 26, 27, 105, 106, 107, 108, 109, 110, 111, 112, 113, 114, 115, 116, 117, 118, 119, 120, 121, 122, 123, 124, 125, 126, 127, 128, 129, 130, 131, 132, 133, 134, 135, 136, 137, 138, 139, 140, 141, 142, 143, 144, 145, 146, 147, 148, 149, 150, 151, 152, 153, 154, 155] (by decide +kernel) (by decide +kernel)
set_option maxRecDepth 20000 in
theorem gX9_pass_X9_lapses : GoodIn wsX9_pass (wsV RX9 227 RX9 yX9_lapses wsX9_lapses) := goodIn_app (goodIn_of _ (by decide +kernel)) ggX9_pass_X9_lapses
set_option maxRecDepth 20000 in
theorem ggX9_rest_X9_isIn : GoodIn wsX9_rest wsX9_isIn := goodIn_r _ [7] (by decide +kernel) (by decide +kernel)
set_option maxRecDepth 20000 in
theorem gX9_rest_X9_isIn : GoodIn wsX9_rest (va_wsS RX9 134 yX9_isIn wsX9_isIn) := goodIn_app (goodIn_of _ (by decide +kernel)) ggX9_rest_X9_isIn
set_option maxRecDepth 20000 in
theorem ggX9_rest_X9_refuse : GoodIn wsX9_rest wsX9_refuse := goodIn_r _ [11, 12, 13, 14, 15, 16, 17, 18, 19, 20, 21, 22, 23, 24, 25, 26, 27, 28, 29, 30, 31, 32, 33, 34, 35, 36, 37, 38, 39, 40, 41, 42, 43, 44, 45, 46, 47, 48, 49, 50, 51, 52, 53, 54, 55, 56, 57, 58, 59, 60, 61, 62, 63] (by decide +kernel) (by decide +kernel)
set_option maxRecDepth 20000 in
theorem gX9_rest_X9_refuse : GoodIn wsX9_rest (wsV RX9 122 RX9 yX9_refuse wsX9_refuse) := goodIn_app (goodIn_of _ (by decide +kernel)) ggX9_rest_X9_refuse
set_option maxRecDepth 20000 in
theorem ggX9_cut_X9_isIn : GoodIn wsX9_cut wsX9_isIn := goodIn_r _ [18] (by decide +kernel) (by decide +kernel)
set_option maxRecDepth 20000 in
theorem gX9_cut_X9_isIn : GoodIn wsX9_cut (va_wsS RX9 134 yX9_isIn wsX9_isIn) := goodIn_app (goodIn_of _ (by decide +kernel)) ggX9_cut_X9_isIn
set_option maxRecDepth 20000 in
theorem ggX9_cut_X9_refuse : GoodIn wsX9_cut wsX9_refuse := goodIn_r _ [22, 23, 58, 59, 60, 61, 62, 63, 64, 65, 66, 67, 68, 69, 70, 71, 72, 73, 74, 75, 76, 77, 78, 79, 80, 81, 82, 83, 84, 85, 86, 87, 88, 89, 90, 91, 92, 93, 94, 95, 96, 97, 98, 99, 100, 101, 102, 103, 104, 105, 106, 107, 108] (by decide +kernel) (by decide +kernel)
set_option maxRecDepth 20000 in
theorem gX9_cut_X9_refuse : GoodIn wsX9_cut (wsV RX9 122 RX9 yX9_refuse wsX9_refuse) := goodIn_app (goodIn_of _ (by decide +kernel)) ggX9_cut_X9_refuse
set_option maxRecDepth 20000 in
theorem ggX9_cut_X9_isOut : GoodIn wsX9_cut wsX9_isOut := goodIn_r _ [27, 28, 3, 58, 59, 60, 61, 62, 63, 64, 65, 66, 67, 68, 69, 70, 71, 72, 73, 74, 75, 76, 77, 78, 79, 80, 81, 82, 83, 84, 85, 86, 87, 88, 89, 90, 91, 92, 93, 94, 95, 96, 97, 98, 99, 100, 101, 102, 103, 104, 105, 106, 107, 108] (by decide +kernel) (by decide +kernel)
set_option maxRecDepth 20000 in
theorem gX9_cut_X9_isOut : GoodIn wsX9_cut (wsV RX9 167 RX9 yX9_isOut wsX9_isOut) := goodIn_app (goodIn_of _ (by decide +kernel)) ggX9_cut_X9_isOut
set_option maxRecDepth 20000 in
theorem ggX9_cut_X9_rests : GoodIn wsX9_cut wsX9_rests := goodIn_r _ [32, 10, 9, 58, 59, 60, 61, 62, 63, 64, 65, 66, 67, 68, 69, 70, 71, 72, 73, 74, 75, 76, 77, 78, 79, 80, 81, 82, 83, 84, 85, 86, 87, 88, 89, 90, 91, 92, 93, 94, 95, 96, 97, 98, 99, 100, 101, 102, 103, 104, 105, 106, 107, 108] (by decide +kernel) (by decide +kernel)
set_option maxRecDepth 20000 in
theorem gX9_cut_X9_rests : GoodIn wsX9_cut (wsV RX9 182 RX9 yX9_rests wsX9_rests) := goodIn_app (goodIn_of _ (by decide +kernel)) ggX9_cut_X9_rests
set_option maxRecDepth 20000 in
theorem ggX9_cut_X9_counts : GoodIn wsX9_cut wsX9_counts := goodIn_r _ [36, 37, 38, 39, 40, 41, 17, 42, 43, 11, 44, 45, 46, 47, 48, 49, 50, 10, 51, 58, 59, 60, 61, 62, 63, 64, 65, 66, 67, 68, 69, 70, 71, 72, 73, 74, 75, 76, 77, 78, 79, 80, 81, 82, 83, 84, 85, 86, 87, 88, 89, 90, 91, 92, 93, 94, 95, 96, 97, 98, 99, 100, 101, 102, 103, 104, 105, 106, 107, 108] (by decide +kernel) (by decide +kernel)
set_option maxRecDepth 20000 in
theorem gX9_cut_X9_counts : GoodIn wsX9_cut (wsV RX9 233 RX9 yX9_counts wsX9_counts) := goodIn_app (goodIn_of _ (by decide +kernel)) ggX9_cut_X9_counts
set_option maxRecDepth 20000 in
theorem ggX9_cut_X9_ownerOfRight : GoodIn wsX9_cut wsX9_ownerOfRight := goodIn_r _ [55, 37, 56, 57, 58, 59, 60, 61, 62, 63, 64, 65, 66, 67, 68, 69, 70, 71, 72, 73, 74, 75, 76, 77, 78, 79, 80, 81, 82, 83, 84, 85, 86, 87, 88, 89, 90, 91, 92, 93, 94, 95, 96, 97, 98, 99, 100, 101, 102, 103, 104, 105, 106, 107, 108] (by decide +kernel) (by decide +kernel)
set_option maxRecDepth 20000 in
theorem gX9_cut_X9_ownerOfRight : GoodIn wsX9_cut (wsV RX9 155 RX9 yX9_ownerOfRight wsX9_ownerOfRight) := goodIn_app (goodIn_of _ (by decide +kernel)) ggX9_cut_X9_ownerOfRight
set_option maxRecDepth 20000 in
theorem ggX9_counts_X9_partsOf : GoodIn wsX9_counts wsX9_partsOf := goodIn_r _ [7, 8, 9, 10, 11, 12, 13, 6, 14, 15, 16, 17, 18, 19, 20, 21, 22, 23, 24, 25, 26, 27, 28, 29, 30, 31, 32, 33, 34, 35, 36, 37, 38, 39, 40, 41, 42, 43, 44, 45, 46, 47, 48, 49, 50, 51, 52, 53, 54, 55, 56, 57, 58, 59, 60, 61, 62, 63, 64, 65, 66, 67, 68, 69] (by decide +kernel) (by decide +kernel)
set_option maxRecDepth 20000 in
theorem gX9_counts_X9_partsOf : GoodIn wsX9_counts (wsV RX9 158 RX9 yX9_partsOf wsX9_partsOf) := goodIn_app (goodIn_of _ (by decide +kernel)) ggX9_counts_X9_partsOf
set_option maxRecDepth 20000 in
theorem ggX9_pound_X9_isIn : GoodIn wsX9_pound wsX9_isIn := goodIn_r _ [10] (by decide +kernel) (by decide +kernel)
set_option maxRecDepth 20000 in
theorem gX9_pound_X9_isIn : GoodIn wsX9_pound (va_wsS RX9 134 yX9_isIn wsX9_isIn) := goodIn_app (goodIn_of _ (by decide +kernel)) ggX9_pound_X9_isIn
set_option maxRecDepth 20000 in
theorem ggX9_pound_X9_refuse : GoodIn wsX9_pound wsX9_refuse := goodIn_r _ [14, 15, 63, 64, 65, 66, 67, 68, 69, 70, 71, 72, 73, 74, 75, 76, 77, 78, 79, 80, 81, 82, 83, 84, 85, 86, 87, 88, 89, 90, 91, 92, 93, 94, 95, 96, 97, 98, 99, 100, 101, 102, 103, 104, 105, 106, 107, 108, 109, 110, 111, 112, 113] (by decide +kernel) (by decide +kernel)
set_option maxRecDepth 20000 in
theorem gX9_pound_X9_refuse : GoodIn wsX9_pound (wsV RX9 122 RX9 yX9_refuse wsX9_refuse) := goodIn_app (goodIn_of _ (by decide +kernel)) ggX9_pound_X9_refuse
