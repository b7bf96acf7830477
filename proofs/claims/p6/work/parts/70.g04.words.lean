set_option maxRecDepth 20000 in
theorem ggL_law_X8_sell : GoodIn wsL_law wsX8_sell := goodIn_r _ [308, 22, 264, 47, 278, 266, 267, 268, 2, 269, 270, 271, 272, 273, 45, 179, 180, 181, 182, 43, 274, 275, 276, 277, 20, 225, 226, 227, 228, 44, 142, 143, 144, 145, 41, 279, 280, 281, 224, 282, 238, 242, 243, 825, 826, 827, 828, 829, 830, 831, 832, 833, 834, 835, 836, 837, 838, 839, 840, 841, 842, 843, 927, 928, 929, 930, 931, 932, 933, 934, 935] (by decide +kernel) (by decide +kernel)
set_option maxRecDepth 20000 in
theorem gL_law_X8_sell : GoodIn wsL_law (wsV RL 46 RX8 yX8_sell wsX8_sell) := goodIn_app (goodIn_of _ (by decide +kernel)) ggL_law_X8_sell
set_option maxRecDepth 20000 in
theorem ggL_law_X9_sell : GoodIn wsL_law wsX9_sell := goodIn_r _ [312, 255, 174, 111, 112, 188, 189, 5, 190, 293, 294, 295, 296, 107, 162, 163, 164, 165, 97, 297, 298, 299, 300, 119, 114, 254, 115, 844, 845, 846, 847, 848, 849, 850, 851, 852, 853, 854, 855, 856, 857, 858, 859, 860, 861, 862, 863, 864, 865, 866, 867, 868, 869, 870, 871, 872, 873, 874, 875, 876, 877, 878, 879, 880, 881, 882, 883, 884, 885, 886, 887, 888, 889, 890, 891, 892, 893, 894] (by decide +kernel) (by decide +kernel)
set_option maxRecDepth 20000 in
theorem gL_law_X9_sell : GoodIn wsL_law (wsV RL 50 RX9 yX9_sell wsX9_sell) := goodIn_app (goodIn_of _ (by decide +kernel)) ggL_law_X9_sell
set_option maxRecDepth 20000 in
theorem ggL_law_X8_move : GoodIn wsL_law wsX8_move := goodIn_r _ [316, 20, 225, 226, 227, 2, 228, 44, 179, 180, 181, 182, 43, 142, 143, 144, 145, 41, 825, 826, 827, 828, 829, 830, 831, 832, 833, 834, 835, 836, 837, 838, 839, 840, 841, 842, 843] (by decide +kernel) (by decide +kernel)
set_option maxRecDepth 20000 in
theorem gL_law_X8_move : GoodIn wsL_law (wsV RL 51 RX8 yX8_move wsX8_move) := goodIn_app (goodIn_of _ (by decide +kernel)) ggL_law_X8_move
set_option maxRecDepth 20000 in
theorem ggL_law_X9_move : GoodIn wsL_law wsX9_move := goodIn_r _ [320, 187, 174, 107, 188, 189, 5, 190, 162, 163, 164, 165, 97, 844, 845, 846, 847, 848, 849, 850, 851, 852, 853, 854, 855, 856, 857, 858, 859, 860, 861, 862, 863, 864, 865, 866, 867, 868, 869, 870, 871, 872, 873, 874, 875, 876, 877, 878, 879, 880, 881, 882, 883, 884, 885, 886, 887, 888, 889, 890, 891, 892, 893, 894] (by decide +kernel) (by decide +kernel)
set_option maxRecDepth 20000 in
theorem gL_law_X9_move : GoodIn wsL_law (wsV RL 54 RX9 yX9_move wsX9_move) := goodIn_app (goodIn_of _ (by decide +kernel)) ggL_law_X9_move
