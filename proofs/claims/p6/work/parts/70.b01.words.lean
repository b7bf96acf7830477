set_option maxRecDepth 20000 in
theorem wr_1 : ∀ w ∈ wsL_law_r1, w ∈ lw_tbl := mem_r [70, 71, 58, 777, 778, 64, 72, 73, 74, 75, 76, 77, 78, 210, 80, 211, 82, 59, 212, 113, 213, 96, 214, 98] (by decide +kernel)
set_option maxRecDepth 20000 in
theorem wr_2 : ∀ w ∈ wsL_law_r2, w ∈ lw_tbl := mem_r [215, 100, 101, 60, 216, 114, 115, 61, 217, 136, 137, 62, 218, 165, 166, 63, 219, 220, 221, 222, 223, 224, 225, 226] (by decide +kernel)
set_option maxRecDepth 20000 in
theorem wr_3 : ∀ w ∈ wsL_law_r3, w ∈ lw_tbl := mem_r [227, 228, 83, 84, 85, 86, 89, 87, 103, 104, 105, 106, 107, 117, 118, 119, 120, 121, 122, 123, 124, 139, 140, 141] (by decide +kernel)
set_option maxRecDepth 20000 in
theorem wr_4 : ∀ w ∈ wsL_law_r4, w ∈ lw_tbl := mem_r [142, 143, 144, 145, 146, 147, 148, 168, 169, 170, 171, 173, 175, 177, 178, 179, 180, 182, 184, 185, 187, 779, 780, 781] (by decide +kernel)
set_option maxRecDepth 20000 in
theorem wr_5 : ∀ w ∈ wsL_law_r5, w ∈ lw_tbl := mem_r [782, 783, 796, 797, 798, 799, 800, 937, 801, 802, 803, 804, 805, 806, 807, 808, 809, 810, 811, 812, 813, 814, 815, 816] (by decide +kernel)
set_option maxRecDepth 20000 in
theorem wr_6 : ∀ w ∈ wsL_law_r6, w ∈ lw_tbl := mem_r [817, 818, 819, 820, 821, 822, 823, 824, 825, 826, 827, 828, 829, 830, 831, 268, 269, 270, 271, 276, 277, 65, 272, 274] (by decide +kernel)
set_option maxRecDepth 20000 in
theorem wr_7 : ∀ w ∈ wsL_law_r7, w ∈ lw_tbl := mem_r [0, 275, 278, 279, 280, 281, 291, 293, 289, 282, 285, 287, 938, 939, 940, 941, 946, 785, 942, 944, 37, 945, 308, 309] (by decide +kernel)
set_option maxRecDepth 20000 in
theorem wr_8 : ∀ w ∈ wsL_law_r8, w ∈ lw_tbl := mem_r [310, 311, 947, 948, 949, 950, 786, 312, 313, 314, 315, 316, 318, 1, 319, 951, 952, 953, 954, 787, 955, 956, 957, 320] (by decide +kernel)
set_option maxRecDepth 20000 in
theorem wr_9 : ∀ w ∈ wsL_law_r9, w ∈ lw_tbl := mem_r [321, 322, 323, 324, 325, 326, 327, 328, 329, 330, 331, 958, 959, 960, 961, 332, 333, 334, 335, 336, 337, 338, 339, 962] (by decide +kernel)
