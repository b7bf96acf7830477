set_option maxRecDepth 20000 in
theorem wr_10 : ∀ w ∈ wsL_law_r10, w ∈ lw_tbl := mem_r [963, 964, 965, 340, 341, 342, 343, 352, 66, 344, 346, 2, 347, 348, 350, 3, 351, 353, 354, 355, 356, 372, 374, 357] (by decide +kernel)
set_option maxRecDepth 20000 in
theorem wr_11 : ∀ w ∈ wsL_law_r11, w ∈ lw_tbl := mem_r [370, 360, 362, 364, 366, 368, 395, 397, 4, 398, 966, 967, 968, 969, 784, 788, 970, 972, 38, 973, 399, 400, 401, 402] (by decide +kernel)
set_option maxRecDepth 20000 in
theorem wr_12 : ∀ w ∈ wsL_law_r12, w ∈ lw_tbl := mem_r [359, 365, 403, 405, 5, 406, 407, 409, 6, 410, 411, 413, 7, 414, 371, 415, 416, 417, 418, 419, 421, 8, 422, 361] (by decide +kernel)
set_option maxRecDepth 20000 in
theorem wr_13 : ∀ w ∈ wsL_law_r13, w ∈ lw_tbl := mem_r [369, 974, 975, 976, 977, 978, 980, 39, 981, 982, 984, 40, 985, 986, 988, 41, 989, 423, 424, 425, 426, 990, 991, 992] (by decide +kernel)
set_option maxRecDepth 20000 in
theorem wr_14 : ∀ w ∈ wsL_law_r14, w ∈ lw_tbl := mem_r [993, 427, 428, 429, 430, 994, 995, 996, 997, 431, 432, 433, 434, 435, 67, 436, 437, 438, 439, 448, 452, 454, 456, 458] (by decide +kernel)
set_option maxRecDepth 20000 in
theorem wr_15 : ∀ w ∈ wsL_law_r15, w ∈ lw_tbl := mem_r [440, 442, 446, 998, 999, 1000, 1001, 789, 477, 478, 479, 480, 457, 451, 441, 453, 481, 483, 9, 484, 485, 486, 487, 488] (by decide +kernel)
set_option maxRecDepth 20000 in
theorem wr_16 : ∀ w ∈ wsL_law_r16, w ∈ lw_tbl := mem_r [489, 491, 10, 492, 493, 495, 11, 496, 497, 498, 499, 500, 501, 502, 503, 504, 449, 443, 505, 506, 507, 508, 511, 512] (by decide +kernel)
set_option maxRecDepth 20000 in
theorem wr_17 : ∀ w ∈ wsL_law_r17, w ∈ lw_tbl := mem_r [513, 514, 358, 367, 515, 516, 517, 518, 519, 520, 68, 521, 1002, 1003, 1004, 1005, 790, 1006, 1008, 42, 1009, 1010, 1012, 43] (by decide +kernel)
set_option maxRecDepth 20000 in
theorem wr_18 : ∀ w ∈ wsL_law_r18, w ∈ lw_tbl := mem_r [1013, 1025, 588, 589, 1026, 1014, 1016, 44, 1017, 1018, 1020, 45, 1021, 1022, 1023, 1024, 522, 523, 524, 525, 1027, 1028, 1029, 1030] (by decide +kernel)
