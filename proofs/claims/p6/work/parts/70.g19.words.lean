set_option maxRecDepth 20000 in
theorem sp_wsX8_plan_r4 : GoodIn wsL_law wsX8_plan_r4 := goodIn_r _ [487, 488, 35, 489, 76, 77, 78, 700, 701, 702, 703, 704, 705, 706, 707, 457, 379, 380, 326, 381, 337, 338, 490, 491] (by decide +kernel) (by decide +kernel)
set_option maxRecDepth 20000 in
theorem sp_wsX8_plan_r5 : GoodIn wsL_law wsX8_plan_r5 := goodIn_r _ [492, 493, 72, 73, 74, 494, 495, 496, 27, 497, 60, 498, 499, 500, 501, 59, 502, 503, 504, 505, 506, 507, 508, 509] (by decide +kernel) (by decide +kernel)
set_option maxRecDepth 20000 in
theorem sp_wsX8_plan_r6 : GoodIn wsL_law wsX8_plan_r6 := goodIn_r _ [510, 511, 512, 513, 393, 395, 514, 515, 516, 517, 518, 519, 520, 75, 521, 522, 523, 524, 525, 526, 527, 528, 708, 709] (by decide +kernel) (by decide +kernel)
set_option maxRecDepth 20000 in
theorem sp_wsX8_plan_r7 : GoodIn wsL_law wsX8_plan_r7 := goodIn_r _ [710, 711, 85, 86, 712, 713, 714, 715, 716, 717, 718, 719, 84, 720, 721, 722, 723, 87, 83, 724, 725, 726, 727] (by decide +kernel) (by decide +kernel)
theorem spX8_plan_x8 : GoodIn wsL_law wsX80 := goodIn_sub inlX8 (by decide +kernel)
