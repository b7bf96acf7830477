set_option maxRecDepth 20000 in
theorem ggL_law_X8_owner : GoodIn wsL_law wsX8_owner := goodIn_r _ [169, 139, 43, 15, 14, 16, 17, 142, 143, 144, 2, 145, 41, 50, 51, 52, 53, 10, 11, 54, 55, 825, 826, 827, 828, 829, 830, 831, 832, 833, 834, 835, 836, 837, 838, 839, 840, 841, 842, 843, 895, 896] (by decide +kernel) (by decide +kernel)
set_option maxRecDepth 20000 in
theorem gL_law_X8_owner : GoodIn wsL_law (wsV RL 18 RX8 yX8_owner wsX8_owner) := goodIn_app (goodIn_of _ (by decide +kernel)) ggL_law_X8_owner
set_option maxRecDepth 20000 in
theorem ggL_law_X9_owner : GoodIn wsL_law wsX9_owner := goodIn_r _ [173, 160, 174, 105, 162, 163, 164, 5, 165, 97, 844, 845, 846, 847, 848, 849, 850, 851, 852, 853, 854, 855, 856, 857, 858, 859, 860, 861, 862, 863, 864, 865, 866, 867, 868, 869, 870, 871, 872, 873, 874, 875, 876, 877, 878, 879, 880, 881, 882, 883, 884, 885, 886, 887, 888, 889, 890, 891, 892, 893, 894] (by decide +kernel) (by decide +kernel)
set_option maxRecDepth 20000 in
theorem gL_law_X9_owner : GoodIn wsL_law (wsV RL 22 RX9 yX9_owner wsX9_owner) := goodIn_app (goodIn_of _ (by decide +kernel)) ggL_law_X9_owner
set_option maxRecDepth 20000 in
theorem ggL_law_X8_house : GoodIn wsL_law wsX8_house := goodIn_r _ [178, 44, 20, 179, 180, 181, 2, 182, 43, 142, 143, 144, 145, 41, 825, 826, 827, 828, 829, 830, 831, 832, 833, 834, 835, 836, 837, 838, 839, 840, 841, 842, 843] (by decide +kernel) (by decide +kernel)
set_option maxRecDepth 20000 in
theorem gL_law_X8_house : GoodIn wsL_law (wsV RL 23 RX8 yX8_house wsX8_house) := goodIn_app (goodIn_of _ (by decide +kernel)) ggL_law_X8_house
set_option maxRecDepth 20000 in
theorem ggL_law_X9_house : GoodIn wsL_law wsX9_house := goodIn_r _ [186, 174, 187, 107, 188, 189, 5, 190, 162, 163, 164, 165, 97, 844, 845, 846, 847, 848, 849, 850, 851, 852, 853, 854, 855, 856, 857, 858, 859, 860, 861, 862, 863, 864, 865, 866, 867, 868, 869, 870, 871, 872, 873, 874, 875, 876, 877, 878, 879, 880, 881, 882, 883, 884, 885, 886, 887, 888, 889, 890, 891, 892, 893, 894] (by decide +kernel) (by decide +kernel)
set_option maxRecDepth 20000 in
theorem gL_law_X9_house : GoodIn wsL_law (wsV RL 26 RX9 yX9_house wsX9_house) := goodIn_app (goodIn_of _ (by decide +kernel)) ggL_law_X9_house
