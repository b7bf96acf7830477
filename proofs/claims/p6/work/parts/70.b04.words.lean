set_option maxRecDepth 20000 in
theorem wr_28 : ∀ w ∈ wsL_law_r28, w ∈ lw_tbl := mem_r [1097, 657, 658, 659, 660, 1098, 1099, 1100, 1101, 1102, 1104, 54, 1105, 661, 662, 663, 664, 665, 667, 25, 668, 669, 670, 671] (by decide +kernel)
set_option maxRecDepth 20000 in
theorem wr_29 : ∀ w ∈ wsL_law_r29, w ∈ lw_tbl := mem_r [672, 673, 675, 26, 676, 186, 176, 188, 174, 677, 678, 679, 680, 681, 682, 683, 684, 685, 686, 688, 27, 689, 181, 183] (by decide +kernel)
set_option maxRecDepth 20000 in
theorem wr_30 : ∀ w ∈ wsL_law_r30, w ∈ lw_tbl := mem_r [690, 692, 28, 693, 694, 695, 696, 697, 698, 699, 700, 701, 702, 703, 704, 705, 714, 716, 715, 69, 706, 708, 29, 709] (by decide +kernel)
set_option maxRecDepth 20000 in
theorem wr_31 : ∀ w ∈ wsL_law_r31, w ∈ lw_tbl := mem_r [710, 712, 30, 713, 717, 719, 31, 720, 1106, 1107, 1108, 1109, 832, 833, 1110, 1112, 55, 1113, 1114, 1116, 56, 1117, 721, 722] (by decide +kernel)
set_option maxRecDepth 20000 in
theorem wr_32 : ∀ w ∈ wsL_law_r32, w ∈ lw_tbl := mem_r [723, 724, 725, 726, 727, 728, 1118, 1119, 1120, 1121, 729, 730, 731, 732, 284, 1122, 1123, 1124, 1125, 733, 734, 735, 736, 1126] (by decide +kernel)
set_option maxRecDepth 20000 in
theorem wr_33 : ∀ w ∈ wsL_law_r33, w ∈ lw_tbl := mem_r [1127, 1128, 1129, 737, 738, 739, 740, 445, 447, 1130, 1131, 1132, 1133, 741, 742, 743, 744, 745, 746, 747, 748, 749, 750, 751] (by decide +kernel)
set_option maxRecDepth 20000 in
theorem wr_34 : ∀ w ∈ wsL_law_r34, w ∈ lw_tbl := mem_r [752, 1134, 1135, 1136, 1137, 753, 754, 755, 756, 757, 759, 32, 760, 761, 763, 33, 764, 765, 767, 34, 768, 769, 771, 35] (by decide +kernel)
set_option maxRecDepth 20000 in
theorem wr_35 : ∀ w ∈ wsL_law_r35, w ∈ lw_tbl := mem_r [772, 773, 775, 36, 776, 1138, 1139, 1140, 1141] (by decide +kernel)
set_option maxRecDepth 20000 in
theorem wx_0 : ∀ w ∈ wsX00, w ∈ lw_tbl := mem_r [376, 378, 380, 382, 384, 386, 388, 390, 392] (by decide +kernel)
