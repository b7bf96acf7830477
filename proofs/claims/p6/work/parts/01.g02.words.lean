set_option maxRecDepth 20000 in
theorem ggX9_ownerOf_X9_isOut : GoodIn wsX9_ownerOf wsX9_isOut := goodIn_r _ [21, 22, 23, 54, 55, 56, 57, 58, 59, 60, 61, 62, 63, 64, 65, 66, 67, 68, 69, 70, 71, 72, 73, 74, 75, 76, 77, 78, 79, 80, 81, 82, 83, 84, 85, 86, 87, 88, 89, 90, 91, 92, 93, 94, 95, 96, 97, 98, 99, 100, 101, 102, 103, 104] (by decide +kernel) (by decide +kernel)
set_option maxRecDepth 20000 in
theorem gX9_ownerOf_X9_isOut : GoodIn wsX9_ownerOf (wsV RX9 167 RX9 yX9_isOut wsX9_isOut) := goodIn_app (goodIn_of _ (by decide +kernel)) ggX9_ownerOf_X9_isOut
set_option maxRecDepth 20000 in
theorem ggX9_ownerOf_X9_partsOfHerd : GoodIn wsX9_ownerOf wsX9_partsOfHerd := goodIn_r _ [27, 28, 29, 30, 31, 11, 32, 54, 55, 56, 57, 58, 59, 60, 61, 62, 63, 64, 65, 66, 67, 68, 69, 70, 71, 72, 73, 74, 75, 76, 77, 78, 79, 80, 81, 82, 83, 84, 85, 86, 87, 88, 89, 90, 91, 92, 93, 94, 95, 96, 97, 98, 99, 100, 101, 102, 103, 104] (by decide +kernel) (by decide +kernel)
set_option maxRecDepth 20000 in
theorem gX9_ownerOf_X9_partsOfHerd : GoodIn wsX9_ownerOf (wsV RX9 170 RX9 yX9_partsOfHerd wsX9_partsOfHerd) := goodIn_app (goodIn_of _ (by decide +kernel)) ggX9_ownerOf_X9_partsOfHerd
set_option maxRecDepth 20000 in
theorem ggX9_ownerOf_X9_ownerOfRight : GoodIn wsX9_ownerOf wsX9_ownerOfRight := goodIn_r _ [36, 37, 38, 39, 54, 55, 56, 57, 58, 59, 60, 61, 62, 63, 64, 65, 66, 67, 68, 69, 70, 71, 72, 73, 74, 75, 76, 77, 78, 79, 80, 81, 82, 83, 84, 85, 86, 87, 88, 89, 90, 91, 92, 93, 94, 95, 96, 97, 98, 99, 100, 101, 102, 103, 104] (by decide +kernel) (by decide +kernel)
set_option maxRecDepth 20000 in
theorem gX9_ownerOf_X9_ownerOfRight : GoodIn wsX9_ownerOf (wsV RX9 155 RX9 yX9_ownerOfRight wsX9_ownerOfRight) := goodIn_app (goodIn_of _ (by decide +kernel)) ggX9_ownerOf_X9_ownerOfRight
set_option maxRecDepth 20000 in
theorem ggX9_ownerOf_X9_partsOf : GoodIn wsX9_ownerOf wsX9_partsOf := goodIn_r _ [43, 44, 8, 45, 46, 47, 48, 11, 49, 50, 51, 52, 53, 54, 55, 56, 57, 58, 59, 60, 61, 62, 63, 64, 65, 66, 67, 68, 69, 70, 71, 72, 73, 74, 75, 76, 77, 78, 79, 80, 81, 82, 83, 84, 85, 86, 87, 88, 89, 90, 91, 92, 93, 94, 95, 96, 97, 98, 99, 100, 101, 102, 103, 104] (by decide +kernel) (by decide +kernel)
set_option maxRecDepth 20000 in
theorem gX9_ownerOf_X9_partsOf : GoodIn wsX9_ownerOf (wsV RX9 158 RX9 yX9_partsOf wsX9_partsOf) := goodIn_app (goodIn_of _ (by decide +kernel)) ggX9_ownerOf_X9_partsOf
set_option maxRecDepth 20000 in
theorem ggX9_count_X9_isInForce : GoodIn wsX9_count wsX9_isInForce := goodIn_r _ [17, 18, 19, 2, 20, 21, 22, 23, 24, 25, 26, 27, 28, 29, 30, 31, 32, 33, 34, 35, 36, 37, 38, 39, 40, 41, 42, 43, 44, 45, 46, 47, 48, 49, 50, 51, 52, 53, 54, 55, 56, 57, 58, 59, 60, 61, 62, 63, 64, 65, 66, 67, 68, 69, 70, 71] (by decide +kernel) (by decide +kernel)
set_option maxRecDepth 20000 in
theorem gX9_count_X9_isInForce : GoodIn wsX9_count (wsV RX9 144 RX9 yX9_isInForce wsX9_isInForce) := goodIn_app (goodIn_of _ (by decide +kernel)) ggX9_count_X9_isInForce
