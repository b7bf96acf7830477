set_option maxRecDepth 20000 in
theorem gL_law_X9_pass : GoodIn wsL_law (wsV RL 82 RX9 yX9_pass wsX9_pass) := goodIn_app (goodIn_of _ (by decide +kernel)) ggL_law_X9_pass
set_option maxRecDepth 20000 in
theorem ggL_law_X8_rest : GoodIn wsL_law wsX8_rest := goodIn_r _ [607, 47, 13, 608, 229, 230, 231, 2, 232, 42, 142, 143, 144, 145, 41, 825, 826, 827, 828, 829, 830, 831, 832, 833, 834, 835, 836, 837, 838, 839, 840, 841, 842, 843, 921, 922, 923, 924, 925, 926] (by decide +kernel) (by decide +kernel)
set_option maxRecDepth 20000 in
theorem gL_law_X8_rest : GoodIn wsL_law (wsV RL 83 RX8 yX8_rest wsX8_rest) := goodIn_app (goodIn_of _ (by decide +kernel)) ggL_law_X8_rest
set_option maxRecDepth 20000 in
theorem ggL_law_X9_rest : GoodIn wsL_law wsX9_rest := goodIn_r _ [612, 161, 254, 101, 188, 189, 5, 190, 162, 163, 164, 165, 97, 844, 845, 846, 847, 848, 849, 850, 851, 852, 853, 854, 855, 856, 857, 858, 859, 860, 861, 862, 863, 864, 865, 866, 867, 868, 869, 870, 871, 872, 873, 874, 875, 876, 877, 878, 879, 880, 881, 882, 883, 884, 885, 886, 887, 888, 889, 890, 891, 892, 893, 894] (by decide +kernel) (by decide +kernel)
set_option maxRecDepth 20000 in
theorem gL_law_X9_rest : GoodIn wsL_law (wsV RL 86 RX9 yX9_rest wsX9_rest) := goodIn_app (goodIn_of _ (by decide +kernel)) ggL_law_X9_rest
set_option maxRecDepth 20000 in
theorem ggL_law_X8_cut : GoodIn wsL_law wsX8_cut := goodIn_r _ [616, 13, 47, 482, 617, 393, 394, 395, 608, 229, 230, 231, 2, 232, 42, 142, 143, 144, 145, 41, 356, 357, 358, 141, 359, 150, 618, 619, 620, 621, 46, 24, 349, 622, 623, 624, 625, 43, 15, 626, 18, 364, 365, 366, 367, 32, 350, 45, 22, 368, 369, 370, 31, 371, 64, 65, 66, 67, 68, 372, 373, 374, 375, 376, 377, 378, 379, 380, 326, 381, 337, 338, 274, 275, 276, 277, 264, 278, 20, 225, 226, 227, 228, 44, 283, 284, 285, 286, 287, 288, 279, 280, 281, 224, 282, 238, 242, 243, 382, 383, 384, 385, 386, 387, 627, 628, 629, 630, 825, 826, 827, 828, 829, 830, 831, 832, 833, 834, 835, 836, 837, 838, 839, 840, 841, 842, 843, 921, 922, 923, 924, 925, 926, 936, 937, 938, 939, 940, 941, 942, 943, 895, 896, 899, 900, 901, 902, 903, 927, 928, 929, 930, 931, 932, 933, 934, 935] (by decide +kernel) (by decide +kernel)
set_option maxRecDepth 20000 in
theorem gL_law_X8_cut : GoodIn wsL_law (wsV RL 87 RX8 yX8_cut wsX8_cut) := goodIn_app (goodIn_of _ (by decide +kernel)) ggL_law_X8_cut
set_option maxRecDepth 20000 in
theorem ggL_law_X9_cut : GoodIn wsL_law wsX9_cut := goodIn_r _ [634, 161, 343, 124, 98, 412, 393, 394, 395, 101, 254, 255, 174, 106, 635, 188, 189, 5, 190, 162, 163, 164, 165, 97, 413, 414, 415, 416, 127, 401, 402, 403, 404, 636, 637, 638, 639, 111, 116, 301, 302, 303, 304, 113, 117, 297, 298, 299, 300, 119, 114, 115, 293, 294, 295, 296, 107, 112, 844, 845, 846, 847, 848, 849, 850, 851, 852, 853, 854, 855, 856, 857, 858, 859, 860, 861, 862, 863, 864, 865, 866, 867, 868, 869, 870, 871, 872, 873, 874, 875, 876, 877, 878, 879, 880, 881, 882, 883, 884, 885, 886, 887, 888, 889, 890, 891, 892, 893, 894] (by decide +kernel) (by decide +kernel)
