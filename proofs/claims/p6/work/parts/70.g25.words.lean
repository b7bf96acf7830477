set_option maxRecDepth 20000 in
theorem gL_law_X9_plan : GoodIn wsL_law (wsV RL 102 RX9 yX9_plan wsX9_plan) := goodIn_app (goodIn_of _ (by decide +kernel)) ggL_law_X9_plan
set_option maxRecDepth 20000 in
theorem ggL_law_X8_planned : GoodIn wsL_law wsX8_planned := goodIn_r _ [745, 40, 746, 747, 748, 39, 749, 91, 90, 86, 825, 826, 827, 828, 829, 830, 831, 832, 833, 834, 835, 836, 837, 838, 839, 840, 841, 842, 843, 911, 912, 913, 914, 915, 916, 917, 918, 919, 920] (by decide +kernel) (by decide +kernel)
set_option maxRecDepth 20000 in
theorem gL_law_X8_planned : GoodIn wsL_law (wsV RL 103 RX8 yX8_planned wsX8_planned) := goodIn_app (goodIn_of _ (by decide +kernel)) ggL_law_X8_planned
set_option maxRecDepth 20000 in
theorem ggL_law_X9_planned : GoodIn wsL_law wsX9_planned := goodIn_r _ [753, 732, 733, 134, 188, 189, 5, 190, 844, 845, 846, 847, 848, 849, 850, 851, 852, 853, 854, 855, 856, 857, 858, 859, 860, 861, 862, 863, 864, 865, 866, 867, 868, 869, 870, 871, 872, 873, 874, 875, 876, 877, 878, 879, 880, 881, 882, 883, 884, 885, 886, 887, 888, 889, 890, 891, 892, 893, 894] (by decide +kernel) (by decide +kernel)
set_option maxRecDepth 20000 in
theorem gL_law_X9_planned : GoodIn wsL_law (wsV RL 106 RX9 yX9_planned wsX9_planned) := goodIn_app (goodIn_of _ (by decide +kernel)) ggL_law_X9_planned
set_option maxRecDepth 20000 in
theorem ggL_law_X8_pieceOf : GoodIn wsL_law wsX8_pieceOf := goodIn_r _ [757, 13, 482, 758, 452, 608, 483, 229, 230, 231, 2, 232, 42, 142, 143, 144, 145, 41, 453, 454, 455, 456, 46, 24, 349, 457, 379, 380, 326, 381, 337, 338, 618, 619, 620, 621, 825, 826, 827, 828, 829, 830, 831, 832, 833, 834, 835, 836, 837, 838, 839, 840, 841, 842, 843, 921, 922, 923, 924, 925, 926, 936, 937, 938, 939, 940, 941, 942, 943] (by decide +kernel) (by decide +kernel)
set_option maxRecDepth 20000 in
theorem gL_law_X8_pieceOf : GoodIn wsL_law (wsV RL 107 RX8 yX8_pieceOf wsX8_pieceOf) := goodIn_app (goodIn_of _ (by decide +kernel)) ggL_law_X8_pieceOf
set_option maxRecDepth 20000 in
theorem ggL_law_X9_pieceOf : GoodIn wsL_law wsX9_pieceOf := goodIn_r _ [762, 161, 98, 99, 100, 101, 343, 124, 102, 188, 189, 5, 190, 162, 163, 164, 165, 97, 466, 467, 468, 469, 413, 414, 415, 416, 127, 417, 418, 419, 420, 123, 122, 421, 422, 423, 844, 845, 846, 847, 848, 849, 850, 851, 852, 853, 854, 855, 856, 857, 858, 859, 860, 861, 862, 863, 864, 865, 866, 867, 868, 869, 870, 871, 872, 873, 874, 875, 876, 877, 878, 879, 880, 881, 882, 883, 884, 885, 886, 887, 888, 889, 890, 891, 892, 893, 894] (by decide +kernel) (by decide +kernel)
