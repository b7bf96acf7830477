set_option maxRecDepth 20000 in
theorem ggL_law_X8_init : GoodIn wsL_law wsX8_init := goodIn_r _ [8, 9, 10, 11, 12, 13, 14, 15, 16, 17, 18, 19, 20, 21, 22, 23, 24, 25, 26, 27, 28, 29, 30, 31, 32, 33, 34, 35, 36, 37, 38, 39, 40, 41, 42, 43, 44, 45, 46, 47, 48, 49, 50, 51, 52, 53, 54, 55, 56, 57, 58, 59, 60, 61, 62, 63, 64, 65, 66, 67, 68, 69, 70, 71, 72, 73, 74, 75, 76, 77, 78, 79, 80, 81, 82, 83, 84, 85, 86, 87, 88, 89, 90, 91, 92, 825, 826, 827, 828, 829, 830, 831, 832, 833, 834, 835, 836, 837, 838, 839, 840, 841, 842, 843, 895, 896, 897, 898, 899, 900, 901, 902, 903, 904, 905, 906, 907, 908, 909, 910, 911, 912, 913, 914, 915, 916, 917, 918, 919, 920] (by decide +kernel) (by decide +kernel)
set_option maxRecDepth 20000 in
theorem gL_law_X8_init : GoodIn wsL_law (wsX8_init) := ggL_law_X8_init
set_option maxRecDepth 20000 in
theorem ggL_law_X9_init : GoodIn wsL_law wsX9_init := goodIn_r _ [95, 96, 10, 11, 19, 97, 98, 99, 100, 101, 102, 103, 104, 105, 106, 107, 108, 109, 110, 111, 112, 113, 114, 115, 116, 117, 118, 119, 120, 121, 122, 123, 124, 125, 126, 127, 128, 129, 130, 131, 132, 133, 134, 844, 845, 846, 847, 848, 849, 850, 851, 852, 853, 854, 855, 856, 857, 858, 859, 860, 861, 862, 863, 864, 865, 866, 867, 868, 869, 870, 871, 872, 873, 874, 875, 876, 877, 878, 879, 880, 881, 882, 883, 884, 885, 886, 887, 888, 889, 890, 891, 892, 893, 894] (by decide +kernel) (by decide +kernel)
set_option maxRecDepth 20000 in
theorem gL_law_X9_init : GoodIn wsL_law (wsX9_init) := ggL_law_X9_init
set_option maxRecDepth 20000 in
theorem ggL_law_X8_piece : GoodIn wsL_law wsX8_piece := goodIn_r _ [138, 139, 42, 13, 12, 140, 141, 142, 143, 144, 2, 145, 41, 146, 147, 148, 149, 10, 11, 150, 151, 152, 153, 154, 155, 825, 826, 827, 828, 829, 830, 831, 832, 833, 834, 835, 836, 837, 838, 839, 840, 841, 842, 843, 921, 922, 923, 924, 925, 926] (by decide +kernel) (by decide +kernel)
set_option maxRecDepth 20000 in
theorem gL_law_X8_piece : GoodIn wsL_law (wsV RL 13 RX8 yX8_piece wsX8_piece) := goodIn_app (goodIn_of _ (by decide +kernel)) ggL_law_X8_piece
set_option maxRecDepth 20000 in
theorem ggL_law_X9_piece : GoodIn wsL_law wsX9_piece := goodIn_r _ [159, 160, 161, 98, 99, 100, 104, 101, 162, 163, 164, 5, 165, 97, 844, 845, 846, 847, 848, 849, 850, 851, 852, 853, 854, 855, 856, 857, 858, 859, 860, 861, 862, 863, 864, 865, 866, 867, 868, 869, 870, 871, 872, 873, 874, 875, 876, 877, 878, 879, 880, 881, 882, 883, 884, 885, 886, 887, 888, 889, 890, 891, 892, 893, 894] (by decide +kernel) (by decide +kernel)
set_option maxRecDepth 20000 in
theorem gL_law_X9_piece : GoodIn wsL_law (wsV RL 17 RX9 yX9_piece wsX9_piece) := goodIn_app (goodIn_of _ (by decide +kernel)) ggL_law_X9_piece
set_option maxRecDepth 20000 in
theorem ggL_law_X8_owner : GoodIn wsL_law wsX8_owner := goodIn_r _ [169, 139, 43, 15, 14, 16, 17, 142, 143, 144, 2, 145, 41, 50, 51, 52, 53, 10, 11, 54, 55, 825, 826, 827, 828, 829, 830, 831, 832, 833, 834, 835, 836, 837, 838, 839, 840, 841, 842, 843, 895, 896] (by decide +kernel) (by decide +kernel)
set_option maxRecDepth 20000 in
theorem gL_law_X8_owner : GoodIn wsL_law (wsV RL 18 RX8 yX8_owner wsX8_owner) := goodIn_app (goodIn_of _ (by decide +kernel)) ggL_law_X8_owner
set_option maxRecDepth 20000 in
theorem ggL_law_X9_owner : GoodIn wsL_law wsX9_owner := goodIn_r _ [173, 160, 174, 105, 162, 163, 164, 5, 165, 97, 844, 845, 846, 847, 848, 849, 850, 851, 852, 853, 854, 855, 856, 857, 858, 859, 860, 861, 862, 863, 864, 865, 866, 867, 868, 869, 870, 871, 872, 873, 874, 875, 876, 877, 878, 879, 880, 881, 882, 883, 884, 885, 886, 887, 888, 889, 890, 891, 892, 893, 894] (by decide +kernel) (by decide +kernel)
set_option maxRecDepth 20000 in
theorem gL_law_X9_owner : GoodIn wsL_law (wsV RL 22 RX9 yX9_owner wsX9_owner) := goodIn_app (goodIn_of _ (by decide +kernel)) ggL_law_X9_owner
set_option maxRecDepth 20000 in
theorem ggL_law_X8_house : GoodIn wsL_law wsX8_house := goodIn_r _ [178, 44, 20, 179, 180, 181, 2, 182, 43, 142, 143, 144, 145, 41, 825, 826, 827, 828, 829, 830, 831, 832, 833, 834, 835, 836, 837, 838, 839, 840, 841, 842, 843] (by decide +kernel) (by decide +kernel)
set_option maxRecDepth 20000 in
theorem gL_law_X8_house : GoodIn wsL_law (wsV RL 23 RX8 yX8_house wsX8_house) := goodIn_app (goodIn_of _ (by decide +kernel)) ggL_law_X8_house
set_option maxRecDepth 20000 in
theorem ggL_law_X9_house : GoodIn wsL_law wsX9_house := goodIn_r _ [186, 174, 187, 107, 188, 189, 5, 190, 162, 163, 164, 165, 97, 844, 845, 846, 847, 848, 849, 850, 851, 852, 853, 854, 855, 856, 857, 858, 859, 860, 861, 862, 863, 864, 865, 866, 867, 868, 869, 870, 871, 872, 873, 874, 875, 876, 877, 878, 879, 880, 881, 882, 883, 884, 885, 886, 887, 888, 889, 890, 891, 892, 893, 894] (by decide +kernel) (by decide +kernel)
set_option maxRecDepth 20000 in
theorem gL_law_X9_house : GoodIn wsL_law (wsV RL 26 RX9 yX9_house wsX9_house) := goodIn_app (goodIn_of _ (by decide +kernel)) ggL_law_X9_house
set_option maxRecDepth 20000 in
theorem ggL_law_X8_rate : GoodIn wsL_law wsX8_rate := goodIn_r _ [194, 28, 195, 196, 27, 197, 142, 143, 144, 2, 145, 41, 198, 199, 200, 201, 59, 202, 825, 826, 827, 828, 829, 830, 831, 832, 833, 834, 835, 836, 837, 838, 839, 840, 841, 842, 843, 897, 898] (by decide +kernel) (by decide +kernel)
set_option maxRecDepth 20000 in
theorem gL_law_X8_rate : GoodIn wsL_law (wsV RL 27 RX8 yX8_rate wsX8_rate) := goodIn_app (goodIn_of _ (by decide +kernel)) ggL_law_X8_rate
set_option maxRecDepth 20000 in
theorem ggL_law_X9_rate : GoodIn wsL_law wsX9_rate := goodIn_r _ [206, 108, 188, 189, 5, 190, 162, 163, 164, 165, 97, 844, 845, 846, 847, 848, 849, 850, 851, 852, 853, 854, 855, 856, 857, 858, 859, 860, 861, 862, 863, 864, 865, 866, 867, 868, 869, 870, 871, 872, 873, 874, 875, 876, 877, 878, 879, 880, 881, 882, 883, 884, 885, 886, 887, 888, 889, 890, 891, 892, 893, 894] (by decide +kernel) (by decide +kernel)
set_option maxRecDepth 20000 in
theorem gL_law_X9_rate : GoodIn wsL_law (wsV RL 31 RX9 yX9_rate wsX9_rate) := goodIn_app (goodIn_of _ (by decide +kernel)) ggL_law_X9_rate
set_option maxRecDepth 20000 in
theorem ggL_law_X8_weather : GoodIn wsL_law wsX8_weather := goodIn_r _ [210, 28, 195, 196, 27, 197, 142, 143, 144, 2, 145, 41, 211, 212, 213, 214, 60, 202, 825, 826, 827, 828, 829, 830, 831, 832, 833, 834, 835, 836, 837, 838, 839, 840, 841, 842, 843, 897, 898] (by decide +kernel) (by decide +kernel)
set_option maxRecDepth 20000 in
theorem gL_law_X8_weather : GoodIn wsL_law (wsV RL 32 RX8 yX8_weather wsX8_weather) := goodIn_app (goodIn_of _ (by decide +kernel)) ggL_law_X8_weather
set_option maxRecDepth 20000 in
theorem ggL_law_X9_weather : GoodIn wsL_law wsX9_weather := goodIn_r _ [218, 109, 110, 188, 189, 5, 190, 162, 163, 164, 165, 97, 844, 845, 846, 847, 848, 849, 850, 851, 852, 853, 854, 855, 856, 857, 858, 859, 860, 861, 862, 863, 864, 865, 866, 867, 868, 869, 870, 871, 872, 873, 874, 875, 876, 877, 878, 879, 880, 881, 882, 883, 884, 885, 886, 887, 888, 889, 890, 891, 892, 893, 894] (by decide +kernel) (by decide +kernel)
set_option maxRecDepth 20000 in
theorem gL_law_X9_weather : GoodIn wsL_law (wsV RL 35 RX9 yX9_weather wsX9_weather) := goodIn_app (goodIn_of _ (by decide +kernel)) ggL_law_X9_weather
set_option maxRecDepth 20000 in
theorem ggL_law_X8_right : GoodIn wsL_law wsX8_right := goodIn_r _ [222, 47, 45, 21, 223, 224, 142, 143, 144, 2, 145, 41, 225, 226, 227, 228, 44, 179, 180, 181, 182, 43, 229, 230, 231, 232, 42, 233, 234, 235, 236, 10, 11, 237, 238, 239, 240, 241, 242, 243, 244, 245, 246, 247, 248, 249, 22, 825, 826, 827, 828, 829, 830, 831, 832, 833, 834, 835, 836, 837, 838, 839, 840, 841, 842, 843, 927, 928, 929, 930, 931, 932, 933, 934, 935] (by decide +kernel) (by decide +kernel)
set_option maxRecDepth 20000 in
theorem gL_law_X8_right : GoodIn wsL_law (wsV RL 36 RX8 yX8_right wsX8_right) := goodIn_app (goodIn_of _ (by decide +kernel)) ggL_law_X8_right
set_option maxRecDepth 20000 in
theorem ggL_law_X9_right : GoodIn wsL_law wsX9_right := goodIn_r _ [253, 187, 174, 161, 254, 255, 188, 189, 5, 190, 162, 163, 164, 165, 97, 256, 257, 258, 259, 111, 112, 113, 114, 115, 116, 117, 118, 844, 845, 846, 847, 848, 849, 850, 851, 852, 853, 854, 855, 856, 857, 858, 859, 860, 861, 862, 863, 864, 865, 866, 867, 868, 869, 870, 871, 872, 873, 874, 875, 876, 877, 878, 879, 880, 881, 882, 883, 884, 885, 886, 887, 888, 889, 890, 891, 892, 893, 894] (by decide +kernel) (by decide +kernel)
set_option maxRecDepth 20000 in
theorem gL_law_X9_right : GoodIn wsL_law (wsV RL 40 RX9 yX9_right wsX9_right) := goodIn_app (goodIn_of _ (by decide +kernel)) ggL_law_X9_right
set_option maxRecDepth 20000 in
theorem ggL_law_X8_lend : GoodIn wsL_law wsX8_lend := goodIn_r _ [263, 22, 264, 47, 265, 45, 21, 223, 224, 266, 267, 268, 2, 269, 270, 271, 272, 273, 179, 180, 181, 182, 43, 274, 275, 276, 277, 278, 20, 225, 226, 227, 228, 44, 142, 143, 144, 145, 41, 279, 280, 281, 282, 238, 242, 243, 283, 284, 285, 286, 287, 288, 233, 234, 235, 236, 10, 11, 237, 239, 240, 241, 244, 245, 246, 247, 248, 249, 825, 826, 827, 828, 829, 830, 831, 832, 833, 834, 835, 836, 837, 838, 839, 840, 841, 842, 843, 927, 928, 929, 930, 931, 932, 933, 934, 935] (by decide +kernel) (by decide +kernel)
set_option maxRecDepth 20000 in
theorem gL_law_X8_lend : GoodIn wsL_law (wsV RL 41 RX8 yX8_lend wsX8_lend) := goodIn_app (goodIn_of _ (by decide +kernel)) ggL_law_X8_lend
set_option maxRecDepth 20000 in
theorem ggL_law_X9_lend : GoodIn wsL_law wsX9_lend := goodIn_r _ [292, 255, 174, 111, 254, 115, 188, 189, 5, 190, 293, 294, 295, 296, 107, 112, 162, 163, 164, 165, 97, 297, 298, 299, 300, 119, 114, 301, 302, 303, 304, 113, 117, 256, 257, 258, 259, 116, 118, 844, 845, 846, 847, 848, 849, 850, 851, 852, 853, 854, 855, 856, 857, 858, 859, 860, 861, 862, 863, 864, 865, 866, 867, 868, 869, 870, 871, 872, 873, 874, 875, 876, 877, 878, 879, 880, 881, 882, 883, 884, 885, 886, 887, 888, 889, 890, 891, 892, 893, 894] (by decide +kernel) (by decide +kernel)
set_option maxRecDepth 20000 in
theorem gL_law_X9_lend : GoodIn wsL_law (wsV RL 45 RX9 yX9_lend wsX9_lend) := goodIn_app (goodIn_of _ (by decide +kernel)) ggL_law_X9_lend
set_option maxRecDepth 20000 in
theorem ggL_law_X8_sell : GoodIn wsL_law wsX8_sell := goodIn_r _ [308, 22, 264, 47, 278, 266, 267, 268, 2, 269, 270, 271, 272, 273, 45, 179, 180, 181, 182, 43, 274, 275, 276, 277, 20, 225, 226, 227, 228, 44, 142, 143, 144, 145, 41, 279, 280, 281, 224, 282, 238, 242, 243, 825, 826, 827, 828, 829, 830, 831, 832, 833, 834, 835, 836, 837, 838, 839, 840, 841, 842, 843, 927, 928, 929, 930, 931, 932, 933, 934, 935] (by decide +kernel) (by decide +kernel)
set_option maxRecDepth 20000 in
theorem gL_law_X8_sell : GoodIn wsL_law (wsV RL 46 RX8 yX8_sell wsX8_sell) := goodIn_app (goodIn_of _ (by decide +kernel)) ggL_law_X8_sell
set_option maxRecDepth 20000 in
theorem ggL_law_X9_sell : GoodIn wsL_law wsX9_sell := goodIn_r _ [312, 255, 174, 111, 112, 188, 189, 5, 190, 293, 294, 295, 296, 107, 162, 163, 164, 165, 97, 297, 298, 299, 300, 119, 114, 254, 115, 844, 845, 846, 847, 848, 849, 850, 851, 852, 853, 854, 855, 856, 857, 858, 859, 860, 861, 862, 863, 864, 865, 866, 867, 868, 869, 870, 871, 872, 873, 874, 875, 876, 877, 878, 879, 880, 881, 882, 883, 884, 885, 886, 887, 888, 889, 890, 891, 892, 893, 894] (by decide +kernel) (by decide +kernel)
set_option maxRecDepth 20000 in
theorem gL_law_X9_sell : GoodIn wsL_law (wsV RL 50 RX9 yX9_sell wsX9_sell) := goodIn_app (goodIn_of _ (by decide +kernel)) ggL_law_X9_sell
set_option maxRecDepth 20000 in
theorem ggL_law_X8_move : GoodIn wsL_law wsX8_move := goodIn_r _ [316, 20, 225, 226, 227, 2, 228, 44, 179, 180, 181, 182, 43, 142, 143, 144, 145, 41, 825, 826, 827, 828, 829, 830, 831, 832, 833, 834, 835, 836, 837, 838, 839, 840, 841, 842, 843] (by decide +kernel) (by decide +kernel)
set_option maxRecDepth 20000 in
theorem gL_law_X8_move : GoodIn wsL_law (wsV RL 51 RX8 yX8_move wsX8_move) := goodIn_app (goodIn_of _ (by decide +kernel)) ggL_law_X8_move
set_option maxRecDepth 20000 in
theorem ggL_law_X9_move : GoodIn wsL_law wsX9_move := goodIn_r _ [320, 187, 174, 107, 188, 189, 5, 190, 162, 163, 164, 165, 97, 844, 845, 846, 847, 848, 849, 850, 851, 852, 853, 854, 855, 856, 857, 858, 859, 860, 861, 862, 863, 864, 865, 866, 867, 868, 869, 870, 871, 872, 873, 874, 875, 876, 877, 878, 879, 880, 881, 882, 883, 884, 885, 886, 887, 888, 889, 890, 891, 892, 893, 894] (by decide +kernel) (by decide +kernel)
set_option maxRecDepth 20000 in
theorem gL_law_X9_move : GoodIn wsL_law (wsV RL 54 RX9 yX9_move wsX9_move) := goodIn_app (goodIn_of _ (by decide +kernel)) ggL_law_X9_move
set_option maxRecDepth 20000 in
theorem ggL_law_X8_herd : GoodIn wsL_law wsX8_herd := goodIn_r _ [324, 46, 24, 23, 325, 326, 179, 180, 181, 2, 182, 43, 142, 143, 144, 145, 41, 327, 328, 329, 330, 10, 11, 331, 332, 333, 334, 335, 336, 337, 338, 825, 826, 827, 828, 829, 830, 831, 832, 833, 834, 835, 836, 837, 838, 839, 840, 841, 842, 843, 936, 937, 938, 939, 940, 941, 942, 943] (by decide +kernel) (by decide +kernel)
set_option maxRecDepth 20000 in
theorem gL_law_X8_herd : GoodIn wsL_law (wsV RL 55 RX8 yX8_herd wsX8_herd) := goodIn_app (goodIn_of _ (by decide +kernel)) ggL_law_X8_herd
set_option maxRecDepth 20000 in
theorem ggL_law_X9_herd : GoodIn wsL_law wsX9_herd := goodIn_r _ [342, 174, 343, 121, 122, 123, 124, 188, 189, 5, 190, 162, 163, 164, 165, 97, 844, 845, 846, 847, 848, 849, 850, 851, 852, 853, 854, 855, 856, 857, 858, 859, 860, 861, 862, 863, 864, 865, 866, 867, 868, 869, 870, 871, 872, 873, 874, 875, 876, 877, 878, 879, 880, 881, 882, 883, 884, 885, 886, 887, 888, 889, 890, 891, 892, 893, 894] (by decide +kernel) (by decide +kernel)
set_option maxRecDepth 20000 in
theorem gL_law_X9_herd : GoodIn wsL_law (wsV RL 58 RX9 yX9_herd wsX9_herd) := goodIn_app (goodIn_of _ (by decide +kernel)) ggL_law_X9_herd
set_option maxRecDepth 20000 in
theorem ggL_law_X8_put : GoodIn wsL_law wsX8_put := goodIn_r _ [347, 24, 348, 349, 13, 47, 350, 48, 351, 352, 353, 354, 2, 355, 46, 229, 230, 231, 232, 42, 142, 143, 144, 145, 41, 356, 357, 358, 141, 359, 150, 360, 361, 362, 363, 364, 365, 366, 367, 32, 45, 22, 368, 369, 370, 31, 371, 64, 65, 66, 67, 68, 372, 373, 374, 375, 376, 377, 378, 379, 380, 326, 381, 337, 338, 274, 275, 276, 277, 264, 278, 20, 225, 226, 227, 228, 44, 283, 284, 285, 286, 287, 288, 279, 280, 281, 224, 282, 238, 242, 243, 382, 383, 384, 385, 386, 387, 388, 389, 390, 391, 392, 393, 394, 395, 825, 826, 827, 828, 829, 830, 831, 832, 833, 834, 835, 836, 837, 838, 839, 840, 841, 842, 843, 936, 937, 938, 939, 940, 941, 942, 943, 921, 922, 923, 924, 925, 926, 899, 900, 901, 902, 903, 927, 928, 929, 930, 931, 932, 933, 934, 935] (by decide +kernel) (by decide +kernel)
set_option maxRecDepth 20000 in
theorem gL_law_X8_put : GoodIn wsL_law (wsV RL 59 RX8 yX8_put wsX8_put) := goodIn_app (goodIn_of _ (by decide +kernel)) ggL_law_X8_put
set_option maxRecDepth 20000 in
theorem ggL_law_X9_put : GoodIn wsL_law wsX9_put := goodIn_r _ [399, 343, 161, 127, 124, 121, 125, 400, 188, 189, 5, 190, 162, 163, 164, 165, 97, 401, 402, 403, 404, 254, 101, 405, 406, 407, 408, 255, 111, 116, 122, 409, 410, 394, 411, 412, 393, 395, 293, 294, 295, 296, 107, 112, 301, 302, 303, 304, 113, 117, 297, 298, 299, 300, 119, 114, 115, 413, 414, 415, 416, 417, 418, 419, 420, 123, 421, 422, 423, 844, 845, 846, 847, 848, 849, 850, 851, 852, 853, 854, 855, 856, 857, 858, 859, 860, 861, 862, 863, 864, 865, 866, 867, 868, 869, 870, 871, 872, 873, 874, 875, 876, 877, 878, 879, 880, 881, 882, 883, 884, 885, 886, 887, 888, 889, 890, 891, 892, 893, 894] (by decide +kernel) (by decide +kernel)
set_option maxRecDepth 20000 in
theorem gL_law_X9_put : GoodIn wsL_law (wsV RL 62 RX9 yX9_put wsX9_put) := goodIn_app (goodIn_of _ (by decide +kernel)) ggL_law_X9_put
set_option maxRecDepth 20000 in
theorem ggL_law_X8_drive : GoodIn wsL_law wsX8_drive := goodIn_r _ [427, 24, 349, 13, 47, 48, 351, 352, 353, 354, 2, 355, 46, 229, 230, 231, 232, 42, 142, 143, 144, 145, 41, 356, 357, 358, 141, 359, 150, 825, 826, 827, 828, 829, 830, 831, 832, 833, 834, 835, 836, 837, 838, 839, 840, 841, 842, 843, 936, 937, 938, 939, 940, 941, 942, 943, 921, 922, 923, 924, 925, 926] (by decide +kernel) (by decide +kernel)
set_option maxRecDepth 20000 in
theorem gL_law_X8_drive : GoodIn wsL_law (wsV RL 63 RX8 yX8_drive wsX8_drive) := goodIn_app (goodIn_of _ (by decide +kernel)) ggL_law_X8_drive
set_option maxRecDepth 20000 in
theorem ggL_law_X9_drive : GoodIn wsL_law wsX9_drive := goodIn_r _ [431, 343, 161, 127, 124, 125, 400, 188, 189, 5, 190, 162, 163, 164, 165, 97, 401, 402, 403, 404, 254, 101, 844, 845, 846, 847, 848, 849, 850, 851, 852, 853, 854, 855, 856, 857, 858, 859, 860, 861, 862, 863, 864, 865, 866, 867, 868, 869, 870, 871, 872, 873, 874, 875, 876, 877, 878, 879, 880, 881, 882, 883, 884, 885, 886, 887, 888, 889, 890, 891, 892, 893, 894] (by decide +kernel) (by decide +kernel)
set_option maxRecDepth 20000 in
theorem gL_law_X9_drive : GoodIn wsL_law (wsV RL 66 RX9 yX9_drive wsX9_drive) := goodIn_app (goodIn_of _ (by decide +kernel)) ggL_law_X9_drive
set_option maxRecDepth 20000 in
theorem ggL_law_X8_covered : GoodIn wsL_law wsX8_covered := goodIn_r _ [435, 179, 180, 181, 2, 182, 43, 142, 143, 144, 145, 41, 360, 361, 362, 363, 364, 365, 366, 367, 32, 46, 24, 350, 45, 22, 368, 369, 370, 31, 371, 64, 65, 66, 67, 68, 372, 373, 374, 375, 376, 377, 378, 379, 380, 326, 381, 337, 338, 274, 275, 276, 277, 264, 278, 20, 225, 226, 227, 228, 44, 283, 284, 285, 286, 47, 287, 288, 279, 280, 281, 224, 282, 238, 242, 243, 382, 383, 384, 385, 386, 387, 388, 389, 390, 391, 392, 393, 394, 395, 825, 826, 827, 828, 829, 830, 831, 832, 833, 834, 835, 836, 837, 838, 839, 840, 841, 842, 843, 936, 937, 938, 939, 940, 941, 942, 943, 899, 900, 901, 902, 903, 927, 928, 929, 930, 931, 932, 933, 934, 935] (by decide +kernel) (by decide +kernel)
set_option maxRecDepth 20000 in
theorem gL_law_X8_covered : GoodIn wsL_law (wsV RL 67 RX8 yX8_covered wsX8_covered) := goodIn_app (goodIn_of _ (by decide +kernel)) ggL_law_X8_covered
set_option maxRecDepth 20000 in
theorem ggL_law_X9_covered : GoodIn wsL_law wsX9_covered := goodIn_r _ [439, 174, 188, 189, 5, 190, 405, 406, 407, 408, 161, 255, 111, 116, 343, 121, 124, 122, 409, 410, 394, 411, 412, 393, 395, 293, 294, 295, 296, 107, 112, 301, 302, 303, 304, 113, 117, 297, 298, 299, 300, 119, 114, 254, 115, 413, 414, 415, 416, 127, 417, 418, 419, 420, 123, 421, 422, 423, 162, 163, 164, 165, 97, 844, 845, 846, 847, 848, 849, 850, 851, 852, 853, 854, 855, 856, 857, 858, 859, 860, 861, 862, 863, 864, 865, 866, 867, 868, 869, 870, 871, 872, 873, 874, 875, 876, 877, 878, 879, 880, 881, 882, 883, 884, 885, 886, 887, 888, 889, 890, 891, 892, 893, 894] (by decide +kernel) (by decide +kernel)
set_option maxRecDepth 20000 in
theorem gL_law_X9_covered : GoodIn wsL_law (wsV RL 70 RX9 yX9_covered wsX9_covered) := goodIn_app (goodIn_of _ (by decide +kernel)) ggL_law_X9_covered
set_option maxRecDepth 20000 in
theorem ggL_law_X8_lacks : GoodIn wsL_law wsX8_lacks := goodIn_r _ [443, 179, 180, 181, 2, 182, 43, 142, 143, 144, 145, 41, 360, 361, 362, 363, 364, 365, 366, 367, 32, 46, 24, 350, 45, 22, 368, 369, 370, 31, 371, 64, 65, 66, 67, 68, 372, 373, 374, 375, 376, 377, 378, 379, 380, 326, 381, 337, 338, 274, 275, 276, 277, 264, 278, 20, 225, 226, 227, 228, 44, 283, 284, 285, 286, 47, 287, 288, 279, 280, 281, 224, 282, 238, 242, 243, 382, 383, 384, 385, 386, 387, 388, 389, 390, 391, 392, 393, 394, 395, 825, 826, 827, 828, 829, 830, 831, 832, 833, 834, 835, 836, 837, 838, 839, 840, 841, 842, 843, 936, 937, 938, 939, 940, 941, 942, 943, 899, 900, 901, 902, 903, 927, 928, 929, 930, 931, 932, 933, 934, 935] (by decide +kernel) (by decide +kernel)
set_option maxRecDepth 20000 in
theorem gL_law_X8_lacks : GoodIn wsL_law (wsV RL 71 RX8 yX8_lacks wsX8_lacks) := goodIn_app (goodIn_of _ (by decide +kernel)) ggL_law_X8_lacks
set_option maxRecDepth 20000 in
theorem ggL_law_X9_lacks : GoodIn wsL_law wsX9_lacks := goodIn_r _ [447, 174, 188, 189, 5, 190, 405, 406, 407, 408, 161, 255, 111, 116, 343, 121, 124, 122, 409, 410, 394, 411, 412, 393, 395, 293, 294, 295, 296, 107, 112, 301, 302, 303, 304, 113, 117, 297, 298, 299, 300, 119, 114, 254, 115, 413, 414, 415, 416, 127, 417, 418, 419, 420, 123, 421, 422, 423, 162, 163, 164, 165, 97, 844, 845, 846, 847, 848, 849, 850, 851, 852, 853, 854, 855, 856, 857, 858, 859, 860, 861, 862, 863, 864, 865, 866, 867, 868, 869, 870, 871, 872, 873, 874, 875, 876, 877, 878, 879, 880, 881, 882, 883, 884, 885, 886, 887, 888, 889, 890, 891, 892, 893, 894] (by decide +kernel) (by decide +kernel)
set_option maxRecDepth 20000 in
theorem gL_law_X9_lacks : GoodIn wsL_law (wsV RL 74 RX9 yX9_lacks wsX9_lacks) := goodIn_app (goodIn_of _ (by decide +kernel)) ggL_law_X9_lacks
