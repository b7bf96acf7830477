set_option maxRecDepth 20000 in
theorem wr_19 : ∀ w ∈ wsL_law_r19, w ∈ lw_tbl := mem_r [526, 527, 528, 529, 1031, 1032, 1033, 1034, 530, 531, 532, 533, 1035, 1036, 1037, 1038, 534, 535, 536, 537, 286, 538, 540, 12] (by decide +kernel)
set_option maxRecDepth 20000 in
theorem wr_20 : ∀ w ∈ wsL_law_r20, w ∈ lw_tbl := mem_r [541, 542, 543, 545, 13, 546, 1039, 1040, 1041, 1042, 1043, 1045, 46, 1046, 547, 548, 549, 550, 551, 553, 14, 554, 555, 557] (by decide +kernel)
set_option maxRecDepth 20000 in
theorem wr_21 : ∀ w ∈ wsL_law_r21, w ∈ lw_tbl := mem_r [15, 558, 290, 294, 149, 455, 559, 560, 561, 562, 563, 564, 565, 566, 567, 568, 569, 570, 571, 572, 573, 574, 575, 576] (by decide +kernel)
set_option maxRecDepth 20000 in
theorem wr_22 : ∀ w ∈ wsL_law_r22, w ∈ lw_tbl := mem_r [577, 578, 283, 587, 288, 579, 581, 16, 582, 583, 584, 585, 586, 590, 592, 17, 593, 594, 596, 18, 597, 598, 599, 600] (by decide +kernel)
set_option maxRecDepth 20000 in
theorem wr_23 : ∀ w ∈ wsL_law_r23, w ∈ lw_tbl := mem_r [601, 602, 604, 19, 605, 615, 88, 606, 607, 608, 609, 610, 611, 612, 613, 614, 616, 618, 20, 619, 373, 620, 622, 21] (by decide +kernel)
set_option maxRecDepth 20000 in
theorem wr_24 : ∀ w ∈ wsL_law_r24, w ∈ lw_tbl := mem_r [623, 624, 625, 626, 627, 450, 444, 628, 630, 22, 631, 363, 375, 1047, 1048, 1049, 1050, 794, 793, 1051, 1053, 47, 1054, 1055] (by decide +kernel)
set_option maxRecDepth 20000 in
theorem wr_25 : ∀ w ∈ wsL_law_r25, w ∈ lw_tbl := mem_r [1057, 48, 1058, 1059, 1060, 1061, 1062, 1063, 1064, 1065, 1066, 1068, 49, 1069, 1070, 1072, 50, 1073, 791, 1074, 1076, 51, 1077, 795] (by decide +kernel)
set_option maxRecDepth 20000 in
theorem wr_26 : ∀ w ∈ wsL_law_r26, w ∈ lw_tbl := mem_r [1078, 1080, 52, 1081, 632, 633, 634, 635, 292, 1082, 1083, 1084, 1085, 636, 637, 638, 639, 644, 640, 642, 23, 643, 645, 647] (by decide +kernel)
set_option maxRecDepth 20000 in
theorem wr_27 : ∀ w ∈ wsL_law_r27, w ∈ lw_tbl := mem_r [24, 648, 90, 649, 650, 651, 652, 1086, 1087, 1088, 1089, 792, 1090, 1092, 53, 1093, 653, 654, 655, 656, 459, 1094, 1095, 1096] (by decide +kernel)
