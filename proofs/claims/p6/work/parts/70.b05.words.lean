set_option maxRecDepth 20000 in
theorem wx_1 : ∀ w ∈ wsX10, w ∈ lw_tbl := mem_r [125, 127, 129, 131, 133] (by decide +kernel)
set_option maxRecDepth 20000 in
theorem wx_2 : ∀ w ∈ wsX20, w ∈ lw_tbl := mem_r [460, 462, 464, 466, 468, 470, 472, 474] (by decide +kernel)
set_option maxRecDepth 20000 in
theorem wx_3 : ∀ w ∈ wsX30, w ∈ lw_tbl := mem_r [150, 152, 154, 156, 158, 160, 162] (by decide +kernel)
set_option maxRecDepth 20000 in
theorem wx_4 : ∀ w ∈ wsX40, w ∈ lw_tbl := mem_r [295, 297, 299, 301, 303, 305] (by decide +kernel)
set_option maxRecDepth 20000 in
theorem wx_5 : ∀ w ∈ wsX50, w ∈ lw_tbl := mem_r [91, 93] (by decide +kernel)
set_option maxRecDepth 20000 in
theorem wx_6 : ∀ w ∈ wsX60, w ∈ lw_tbl := mem_r [189, 191, 193, 195, 197, 199, 201, 203, 205, 207] (by decide +kernel)
set_option maxRecDepth 20000 in
theorem wx_7 : ∀ w ∈ wsX70, w ∈ lw_tbl := mem_r [108, 110] (by decide +kernel)
set_option maxRecDepth 20000 in
theorem wx_8 : ∀ w ∈ wsX80, w ∈ lw_tbl := mem_r [229, 231, 233, 235, 237, 239, 241, 243, 245, 247, 249, 251, 253, 255, 257, 259, 261, 263, 265] (by decide +kernel)
set_option maxRecDepth 20000 in
theorem wx_9 : ∀ w ∈ wsX90, w ∈ lw_tbl := mem_r [834, 836, 838, 840, 842, 844, 846, 848, 850, 852, 854, 856, 858, 860, 862, 864, 866, 868, 870, 872, 874, 876, 878, 880, 882, 884, 886, 888, 890, 892, 894, 896, 898, 900, 902, 904, 906, 908, 910, 912, 914, 916, 918, 920, 922, 924, 926, 928, 930, 932, 934] (by decide +kernel)
