set_option maxRecDepth 20000 in
theorem gL_law_X9_pieceOf : GoodIn wsL_law (wsV RL 110 RX9 yX9_pieceOf wsX9_pieceOf) := goodIn_app (goodIn_of _ (by decide +kernel)) ggL_law_X9_pieceOf
set_option maxRecDepth 20000 in
theorem ggL_law_X8_rightOf : GoodIn wsL_law wsX8_rightOf := goodIn_r _ [766, 22, 264, 563, 265, 564, 47, 288, 548, 270, 271, 272, 2, 273, 45, 142, 143, 144, 145, 41, 274, 275, 276, 277, 278, 20, 225, 226, 227, 228, 44, 283, 284, 285, 286, 287, 279, 280, 281, 224, 282, 238, 242, 243, 825, 826, 827, 828, 829, 830, 831, 832, 833, 834, 835, 836, 837, 838, 839, 840, 841, 842, 843, 927, 928, 929, 930, 931, 932, 933, 934, 935] (by decide +kernel) (by decide +kernel)
set_option maxRecDepth 20000 in
theorem gL_law_X8_rightOf : GoodIn wsL_law (wsV RL 111 RX8 yX8_rightOf wsX8_rightOf) := goodIn_app (goodIn_of _ (by decide +kernel)) ggL_law_X8_rightOf
set_option maxRecDepth 20000 in
theorem ggL_law_X9_rightOf : GoodIn wsL_law wsX9_rightOf := goodIn_r _ [770, 255, 111, 114, 115, 119, 117, 118, 188, 189, 5, 190, 162, 163, 164, 165, 97, 293, 294, 295, 296, 107, 112, 301, 302, 303, 304, 113, 297, 298, 299, 300, 254, 844, 845, 846, 847, 848, 849, 850, 851, 852, 853, 854, 855, 856, 857, 858, 859, 860, 861, 862, 863, 864, 865, 866, 867, 868, 869, 870, 871, 872, 873, 874, 875, 876, 877, 878, 879, 880, 881, 882, 883, 884, 885, 886, 887, 888, 889, 890, 891, 892, 893, 894] (by decide +kernel) (by decide +kernel)
set_option maxRecDepth 20000 in
theorem gL_law_X9_rightOf : GoodIn wsL_law (wsV RL 114 RX9 yX9_rightOf wsX9_rightOf) := goodIn_app (goodIn_of _ (by decide +kernel)) ggL_law_X9_rightOf
set_option maxRecDepth 20000 in
theorem ggL_law_X8_herdOf : GoodIn wsL_law wsX8_herdOf := goodIn_r _ [774, 24, 350, 775, 776, 349, 485, 348, 47, 352, 353, 354, 2, 355, 46, 142, 143, 144, 145, 41, 539, 540, 541, 326, 542, 338, 543, 536, 537, 538, 334, 335, 825, 826, 827, 828, 829, 830, 831, 832, 833, 834, 835, 836, 837, 838, 839, 840, 841, 842, 843, 936, 937, 938, 939, 940, 941, 942, 943] (by decide +kernel) (by decide +kernel)
set_option maxRecDepth 20000 in
theorem gL_law_X8_herdOf : GoodIn wsL_law (wsV RL 115 RX8 yX8_herdOf wsX8_herdOf) := goodIn_app (goodIn_of _ (by decide +kernel)) ggL_law_X8_herdOf
set_option maxRecDepth 20000 in
theorem ggL_law_X9_herdOf : GoodIn wsL_law wsX9_herdOf := goodIn_r _ [780, 343, 121, 122, 123, 124, 126, 127, 188, 189, 5, 190, 162, 163, 164, 165, 97, 657, 658, 659, 660, 254, 128, 844, 845, 846, 847, 848, 849, 850, 851, 852, 853, 854, 855, 856, 857, 858, 859, 860, 861, 862, 863, 864, 865, 866, 867, 868, 869, 870, 871, 872, 873, 874, 875, 876, 877, 878, 879, 880, 881, 882, 883, 884, 885, 886, 887, 888, 889, 890, 891, 892, 893, 894] (by decide +kernel) (by decide +kernel)
