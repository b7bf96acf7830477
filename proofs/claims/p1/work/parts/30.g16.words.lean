set_option maxRecDepth 20000 in
theorem gL_law_X9_ownerOf : GoodIn wsL_law (wsV RL 122 RX9 yX9_ownerOf wsX9_ownerOf) := goodIn_app (goodIn_of _ (by decide +kernel)) ggL_law_X9_ownerOf
set_option maxRecDepth 20000 in
theorem ggL_law_X8_count : GoodIn wsL_law wsX8_count := goodIn_r _ [800, 47, 42, 43, 44, 49, 41, 801, 802, 803, 2, 804, 45, 22, 279, 280, 281, 224, 282, 238, 242, 243, 805, 806, 807, 808, 46, 24, 348, 809, 810, 811, 812, 13, 482, 813, 814, 815, 816, 485, 817, 818, 819, 820, 483, 825, 826, 827, 828, 829, 830, 831, 832, 833, 834, 835, 836, 837, 838, 839, 840, 841, 842, 843, 927, 928, 929, 930, 931, 932, 933, 934, 935, 936, 937, 938, 939, 940, 941, 942, 943, 921, 922, 923, 924, 925, 926] (by decide +kernel) (by decide +kernel)
set_option maxRecDepth 20000 in
theorem gL_law_X8_count : GoodIn wsL_law (wsV RL 123 RX8 yX8_count wsX8_count) := goodIn_app (goodIn_of _ (by decide +kernel)) ggL_law_X8_count
set_option maxRecDepth 20000 in
theorem ggL_law_X9_count : GoodIn wsL_law wsX9_count := goodIn_r _ [824, 97, 254, 161, 174, 187, 255, 343, 127, 98, 570, 569, 599, 297, 298, 299, 5, 300, 119, 114, 115, 844, 845, 846, 847, 848, 849, 850, 851, 852, 853, 854, 855, 856, 857, 858, 859, 860, 861, 862, 863, 864, 865, 866, 867, 868, 869, 870, 871, 872, 873, 874, 875, 876, 877, 878, 879, 880, 881, 882, 883, 884, 885, 886, 887, 888, 889, 890, 891, 892, 893, 894] (by decide +kernel) (by decide +kernel)
