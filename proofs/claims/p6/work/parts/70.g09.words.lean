set_option maxRecDepth 20000 in
theorem sp_wsX8_pass_r4 : GoodIn wsL_law wsX8_pass_r4 := goodIn_r _ [512, 513, 393, 395, 514, 515, 516, 517, 518, 519, 520, 75, 521, 522, 523, 524, 525, 526, 527, 528, 529, 530, 531, 532] (by decide +kernel) (by decide +kernel)
set_option maxRecDepth 20000 in
theorem sp_wsX8_pass_r5 : GoodIn wsL_law wsX8_pass_r5 := goodIn_r _ [348, 533, 15, 350, 534, 18, 535, 536, 537, 538, 334, 335, 539, 540, 541, 542, 543, 544, 545, 546, 547, 45, 22, 548] (by decide +kernel) (by decide +kernel)
set_option maxRecDepth 20000 in
theorem sp_wsX8_pass_r6 : GoodIn wsL_law wsX8_pass_r6 := goodIn_r _ [288, 279, 280, 281, 224, 282, 238, 242, 243, 549, 550, 551, 552, 274, 275, 276, 277, 264, 278, 20, 225, 226, 227, 228] (by decide +kernel) (by decide +kernel)
set_option maxRecDepth 20000 in
theorem sp_wsX8_pass_r7 : GoodIn wsL_law wsX8_pass_r7 := goodIn_r _ [44, 553, 554, 555, 556, 557, 239, 558, 244, 283, 284, 285, 286, 287, 270, 271, 272, 273, 559, 560, 561, 562, 563, 564] (by decide +kernel) (by decide +kernel)
set_option maxRecDepth 20000 in
theorem sp_wsX8_pass_r8 : GoodIn wsL_law wsX8_pass_r8 := goodIn_r _ [49] (by decide +kernel) (by decide +kernel)
