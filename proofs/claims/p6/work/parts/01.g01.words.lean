set_option maxRecDepth 20000 in
theorem ggX9_herdOf_X9_refuse : GoodIn wsX9_herdOf wsX9_refuse := goodIn_r _ [15, 16, 23, 24, 25, 26, 27, 28, 29, 30, 31, 32, 33, 34, 35, 36, 37, 38, 39, 40, 41, 42, 43, 44, 45, 46, 47, 48, 49, 50, 51, 52, 53, 54, 55, 56, 57, 58, 59, 60, 61, 62, 63, 64, 65, 66, 67, 68, 69, 70, 71, 72, 73] (by decide +kernel) (by decide +kernel)
set_option maxRecDepth 20000 in
theorem gX9_herdOf_X9_refuse : GoodIn wsX9_herdOf (wsV RX9 122 RX9 yX9_refuse wsX9_refuse) := goodIn_app (goodIn_of _ (by decide +kernel)) ggX9_herdOf_X9_refuse
set_option maxRecDepth 20000 in
theorem ggX9_herdOf_X9_feeOf : GoodIn wsX9_herdOf wsX9_feeOf := goodIn_r _ [20, 7, 21, 22, 4, 23, 24, 25, 26, 27, 28, 29, 30, 31, 32, 33, 34, 35, 36, 37, 38, 39, 40, 41, 42, 43, 44, 45, 46, 47, 48, 49, 50, 51, 52, 53, 54, 55, 56, 57, 58, 59, 60, 61, 62, 63, 64, 65, 66, 67, 68, 69, 70, 71, 72, 73] (by decide +kernel) (by decide +kernel)
set_option maxRecDepth 20000 in
theorem gX9_herdOf_X9_feeOf : GoodIn wsX9_herdOf (wsV RX9 239 RX9 yX9_feeOf wsX9_feeOf) := goodIn_app (goodIn_of _ (by decide +kernel)) ggX9_herdOf_X9_feeOf
