set_option maxRecDepth 20000 in
theorem ggL_law_X8_right : GoodIn wsL_law wsX8_right := goodIn_r _ [222, 47, 45, 21, 223, 224, 142, 143, 144, 2, 145, 41, 225, 226, 227, 228, 44, 179, 180, 181, 182, 43, 229, 230, 231, 232, 42, 233, 234, 235, 236, 10, 11, 237, 238, 239, 240, 241, 242, 243, 244, 245, 246, 247, 248, 249, 22, 825, 826, 827, 828, 829, 830, 831, 832, 833, 834, 835, 836, 837, 838, 839, 840, 841, 842, 843, 927, 928, 929, 930, 931, 932, 933, 934, 935] (by decide +kernel) (by decide +kernel)
set_option maxRecDepth 20000 in
theorem gL_law_X8_right : GoodIn wsL_law (wsV RL 36 RX8 yX8_right wsX8_right) := goodIn_app (goodIn_of _ (by decide +kernel)) ggL_law_X8_right
set_option maxRecDepth 20000 in
theorem ggL_law_X9_right : GoodIn wsL_law wsX9_right := goodIn_r _ [253, 187, 174, 161, 254, 255, 188, 189, 5, 190, 162, 163, 164, 165, 97, 256, 257, 258, 259, 111, 112, 113, 114, 115, 116, 117, 118, 844, 845, 846, 847, 848, 849, 850, 851, 852, 853, 854, 855, 856, 857, 858, 859, 860, 861, 862, 863, 864, 865, 866, 867, 868, 869, 870, 871, 872, 873, 874, 875, 876, 877, 878, 879, 880, 881, 882, 883, 884, 885, 886, 887, 888, 889, 890, 891, 892, 893, 894] (by decide +kernel) (by decide +kernel)
set_option maxRecDepth 20000 in
theorem gL_law_X9_right : GoodIn wsL_law (wsV RL 40 RX9 yX9_right wsX9_right) := goodIn_app (goodIn_of _ (by decide +kernel)) ggL_law_X9_right
set_option maxRecDepth 20000 in
theorem ggL_law_X8_lend : GoodIn wsL_law wsX8_lend := goodIn_r _ [263, 22, 264, 47, 265, 45, 21, 223, 224, 266, 267, 268, 2, 269, 270, 271, 272, 273, 179, 180, 181, 182, 43, 274, 275, 276, 277, 278, 20, 225, 226, 227, 228, 44, 142, 143, 144, 145, 41, 279, 280, 281, 282, 238, 242, 243, 283, 284, 285, 286, 287, 288, 233, 234, 235, 236, 10, 11, 237, 239, 240, 241, 244, 245, 246, 247, 248, 249, 825, 826, 827, 828, 829, 830, 831, 832, 833, 834, 835, 836, 837, 838, 839, 840, 841, 842, 843, 927, 928, 929, 930, 931, 932, 933, 934, 935] (by decide +kernel) (by decide +kernel)
set_option maxRecDepth 20000 in
theorem gL_law_X8_lend : GoodIn wsL_law (wsV RL 41 RX8 yX8_lend wsX8_lend) := goodIn_app (goodIn_of _ (by decide +kernel)) ggL_law_X8_lend
set_option maxRecDepth 20000 in
theorem ggL_law_X9_lend : GoodIn wsL_law wsX9_lend := goodIn_r _ [292, 255, 174, 111, 254, 115, 188, 189, 5, 190, 293, 294, 295, 296, 107, 112, 162, 163, 164, 165, 97, 297, 298, 299, 300, 119, 114, 301, 302, 303, 304, 113, 117, 256, 257, 258, 259, 116, 118, 844, 845, 846, 847, 848, 849, 850, 851, 852, 853, 854, 855, 856, 857, 858, 859, 860, 861, 862, 863, 864, 865, 866, 867, 868, 869, 870, 871, 872, 873, 874, 875, 876, 877, 878, 879, 880, 881, 882, 883, 884, 885, 886, 887, 888, 889, 890, 891, 892, 893, 894] (by decide +kernel) (by decide +kernel)
set_option maxRecDepth 20000 in
theorem gL_law_X9_lend : GoodIn wsL_law (wsV RL 45 RX9 yX9_lend wsX9_lend) := goodIn_app (goodIn_of _ (by decide +kernel)) ggL_law_X9_lend
