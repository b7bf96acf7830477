set_option maxRecDepth 20000 in
theorem ggL_law_X8_herd : GoodIn wsL_law wsX8_herd := goodIn_r _ [324, 46, 24, 23, 325, 326, 179, 180, 181, 2, 182, 43, 142, 143, 144, 145, 41, 327, 328, 329, 330, 10, 11, 331, 332, 333, 334, 335, 336, 337, 338, 825, 826, 827, 828, 829, 830, 831, 832, 833, 834, 835, 836, 837, 838, 839, 840, 841, 842, 843, 936, 937, 938, 939, 940, 941, 942, 943] (by decide +kernel) (by decide +kernel)
set_option maxRecDepth 20000 in
theorem gL_law_X8_herd : GoodIn wsL_law (wsV RL 55 RX8 yX8_herd wsX8_herd) := goodIn_app (goodIn_of _ (by decide +kernel)) ggL_law_X8_herd
set_option maxRecDepth 20000 in
theorem ggL_law_X9_herd : GoodIn wsL_law wsX9_herd := goodIn_r _ [342, 174, 343, 121, 122, 123, 124, 188, 189, 5, 190, 162, 163, 164, 165, 97, 844, 845, 846, 847, 848, 849, 850, 851, 852, 853, 854, 855, 856, 857, 858, 859, 860, 861, 862, 863, 864, 865, 866, 867, 868, 869, 870, 871, 872, 873, 874, 875, 876, 877, 878, 879, 880, 881, 882, 883, 884, 885, 886, 887, 888, 889, 890, 891, 892, 893, 894] (by decide +kernel) (by decide +kernel)
set_option maxRecDepth 20000 in
theorem gL_law_X9_herd : GoodIn wsL_law (wsV RL 58 RX9 yX9_herd wsX9_herd) := goodIn_app (goodIn_of _ (by decide +kernel)) ggL_law_X9_herd
set_option maxRecDepth 20000 in
theorem ggL_law_X8_put : GoodIn wsL_law wsX8_put := goodIn_r _ [347, 24, 348, 349, 13, 47, 350, 48, 351, 352, 353, 354, 2, 355, 46, 229, 230, 231, 232, 42, 142, 143, 144, 145, 41, 356, 357, 358, 141, 359, 150, 360, 361, 362, 363, 364, 365, 366, 367, 32, 45, 22, 368, 369, 370, 31, 371, 64, 65, 66, 67, 68, 372, 373, 374, 375, 376, 377, 378, 379, 380, 326, 381, 337, 338, 274, 275, 276, 277, 264, 278, 20, 225, 226, 227, 228, 44, 283, 284, 285, 286, 287, 288, 279, 280, 281, 224, 282, 238, 242, 243, 382, 383, 384, 385, 386, 387, 388, 389, 390, 391, 392, 393, 394, 395, 825, 826, 827, 828, 829, 830, 831, 832, 833, 834, 835, 836, 837, 838, 839, 840, 841, 842, 843, 936, 937, 938, 939, 940, 941, 942, 943, 921, 922, 923, 924, 925, 926, 899, 900, 901, 902, 903, 927, 928, 929, 930, 931, 932, 933, 934, 935] (by decide +kernel) (by decide +kernel)
set_option maxRecDepth 20000 in
theorem gL_law_X8_put : GoodIn wsL_law (wsV RL 59 RX8 yX8_put wsX8_put) := goodIn_app (goodIn_of _ (by decide +kernel)) ggL_law_X8_put
set_option maxRecDepth 20000 in
theorem ggL_law_X9_put : GoodIn wsL_law wsX9_put := goodIn_r _ [399, 343, 161, 127, 124, 121, 125, 400, 188, 189, 5, 190, 162, 163, 164, 165, 97, 401, 402, 403, 404, 254, 101, 405, 406, 407, 408, 255, 111, 116, 122, 409, 410, 394, 411, 412, 393, 395, 293, 294, 295, 296, 107, 112, 301, 302, 303, 304, 113, 117, 297, 298, 299, 300, 119, 114, 115, 413, 414, 415, 416, 417, 418, 419, 420, 123, 421, 422, 423, 844, 845, 846, 847, 848, 849, 850, 851, 852, 853, 854, 855, 856, 857, 858, 859, 860, 861, 862, 863, 864, 865, 866, 867, 868, 869, 870, 871, 872, 873, 874, 875, 876, 877, 878, 879, 880, 881, 882, 883, 884, 885, 886, 887, 888, 889, 890, 891, 892, 893, 894] (by decide +kernel) (by decide +kernel)
set_option maxRecDepth 20000 in
theorem gL_law_X9_put : GoodIn wsL_law (wsV RL 62 RX9 yX9_put wsX9_put) := goodIn_app (goodIn_of _ (by decide +kernel)) ggL_law_X9_put
