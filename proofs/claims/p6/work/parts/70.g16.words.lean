set_option maxRecDepth 20000 in
theorem gL_law_X9_cut : GoodIn wsL_law (wsV RL 90 RX9 yX9_cut wsX9_cut) := goodIn_app (goodIn_of _ (by decide +kernel)) ggL_law_X9_cut
set_option maxRecDepth 20000 in
theorem ggL_law_X8_pound : GoodIn wsL_law wsX8_pound := goodIn_r _ [643, 24, 349, 350, 348, 47, 644, 352, 353, 354, 2, 355, 46, 142, 143, 144, 145, 41, 360, 361, 362, 363, 364, 365, 366, 367, 32, 45, 22, 368, 369, 370, 31, 371, 64, 65, 66, 67, 68, 372, 373, 374, 375, 376, 377, 378, 379, 380, 326, 381, 337, 338, 274, 275, 276, 277, 264, 278, 20, 225, 226, 227, 228, 44, 283, 284, 285, 286, 287, 288, 279, 280, 281, 224, 282, 238, 242, 243, 382, 383, 384, 385, 386, 387, 388, 389, 390, 391, 392, 393, 394, 395, 825, 826, 827, 828, 829, 830, 831, 832, 833, 834, 835, 836, 837, 838, 839, 840, 841, 842, 843, 936, 937, 938, 939, 940, 941, 942, 943, 899, 900, 901, 902, 903, 927, 928, 929, 930, 931, 932, 933, 934, 935] (by decide +kernel) (by decide +kernel)
set_option maxRecDepth 20000 in
theorem gL_law_X8_pound : GoodIn wsL_law (wsV RL 91 RX8 yX8_pound wsX8_pound) := goodIn_app (goodIn_of _ (by decide +kernel)) ggL_law_X8_pound
set_option maxRecDepth 20000 in
theorem ggL_law_X9_pound : GoodIn wsL_law wsX9_pound := goodIn_r _ [648, 343, 121, 124, 127, 128, 254, 188, 189, 5, 190, 162, 163, 164, 165, 97, 413, 414, 415, 416, 405, 406, 407, 408, 161, 255, 111, 116, 122, 409, 410, 394, 411, 412, 393, 395, 293, 294, 295, 296, 107, 112, 301, 302, 303, 304, 113, 117, 297, 298, 299, 300, 119, 114, 115, 417, 418, 419, 420, 123, 421, 422, 423, 844, 845, 846, 847, 848, 849, 850, 851, 852, 853, 854, 855, 856, 857, 858, 859, 860, 861, 862, 863, 864, 865, 866, 867, 868, 869, 870, 871, 872, 873, 874, 875, 876, 877, 878, 879, 880, 881, 882, 883, 884, 885, 886, 887, 888, 889, 890, 891, 892, 893, 894] (by decide +kernel) (by decide +kernel)
set_option maxRecDepth 20000 in
theorem gL_law_X9_pound : GoodIn wsL_law (wsV RL 94 RX9 yX9_pound wsX9_pound) := goodIn_app (goodIn_of _ (by decide +kernel)) ggL_law_X9_pound
set_option maxRecDepth 20000 in
theorem ggL_law_X8_free : GoodIn wsL_law wsX8_free := goodIn_r _ [652, 24, 348, 47, 15, 350, 534, 18, 352, 353, 354, 2, 355, 46, 142, 143, 144, 145, 41, 539, 540, 541, 326, 542, 338, 543, 536, 537, 538, 334, 335, 825, 826, 827, 828, 829, 830, 831, 832, 833, 834, 835, 836, 837, 838, 839, 840, 841, 842, 843, 936, 937, 938, 939, 940, 941, 942, 943, 895, 896] (by decide +kernel) (by decide +kernel)
set_option maxRecDepth 20000 in
theorem gL_law_X8_free : GoodIn wsL_law (wsV RL 95 RX8 yX8_free wsX8_free) := goodIn_app (goodIn_of _ (by decide +kernel)) ggL_law_X8_free
set_option maxRecDepth 20000 in
theorem ggL_law_X9_free : GoodIn wsL_law wsX9_free := goodIn_r _ [656, 343, 127, 105, 121, 594, 188, 189, 5, 190, 162, 163, 164, 165, 97, 657, 658, 659, 660, 254, 128, 123, 844, 845, 846, 847, 848, 849, 850, 851, 852, 853, 854, 855, 856, 857, 858, 859, 860, 861, 862, 863, 864, 865, 866, 867, 868, 869, 870, 871, 872, 873, 874, 875, 876, 877, 878, 879, 880, 881, 882, 883, 884, 885, 886, 887, 888, 889, 890, 891, 892, 893, 894] (by decide +kernel) (by decide +kernel)
