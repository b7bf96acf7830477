theorem dX9_lend_101 : decode cX9_lend 101 = .ok (.invokevirtual 122, 3) := by decide +kernel
theorem dX9_lend_104 : decode cX9_lend 104 = .ok (.ireturn, 1) := by decide +kernel
theorem dX9_lend_105 : decode cX9_lend 105 = .ok (.iload 4, 2) := by decide +kernel
theorem dX9_lend_107 : decode cX9_lend 107 = .ok (.aload_n 0, 1) := by decide +kernel
theorem dX9_lend_108 : decode cX9_lend 108 = .ok (.getfield 62, 3) := by decide +kernel
theorem dX9_lend_111 : decode cX9_lend 111 = .ok (.iload_n 1, 1) := by decide +kernel
theorem dX9_lend_112 : decode cX9_lend 112 = .ok (.iaload, 1) := by decide +kernel
theorem dX9_lend_113 : decode cX9_lend 113 = .ok (.if_icmp .gt 12, 3) := by decide +kernel
theorem dX9_lend_116 : decode cX9_lend 116 = .ok (.aload_n 0, 1) := by decide +kernel
theorem dX9_lend_117 : decode cX9_lend 117 = .ok (.getfield 148, 3) := by decide +kernel
theorem dX9_lend_120 : decode cX9_lend 120 = .ok (.bipush 60, 2) := by decide +kernel
theorem dX9_lend_122 : decode cX9_lend 122 = .ok (.if_icmp .ne 10, 3) := by decide +kernel
theorem dX9_lend_125 : decode cX9_lend 125 = .ok (.aload_n 0, 1) := by decide +kernel
theorem dX9_lend_126 : decode cX9_lend 126 = .ok (.bipush (-6), 2) := by decide +kernel
theorem dX9_lend_128 : decode cX9_lend 128 = .ok (.invokevirtual 122, 3) := by decide +kernel
theorem dX9_lend_131 : decode cX9_lend 131 = .ok (.ireturn, 1) := by decide +kernel
theorem dX9_lend_132 : decode cX9_lend 132 = .ok (.aload_n 0, 1) := by decide +kernel
theorem dX9_lend_133 : decode cX9_lend 133 = .ok (.iconst 4, 1) := by decide +kernel
theorem dX9_lend_134 : decode cX9_lend 134 = .ok (.iload_n 2, 1) := by decide +kernel
theorem dX9_lend_135 : decode cX9_lend 135 = .ok (.iload_n 3, 1) := by decide +kernel
theorem dX9_lend_136 : decode cX9_lend 136 = .ok (.iload 4, 2) := by decide +kernel
theorem dX9_lend_138 : decode cX9_lend 138 = .ok (.iload_n 1, 1) := by decide +kernel
theorem dX9_lend_139 : decode cX9_lend 139 = .ok (.iconst 0, 1) := by decide +kernel
theorem dX9_lend_140 : decode cX9_lend 140 = .ok (.invokevirtual 151, 3) := by decide +kernel
theorem dX9_lend_143 : decode cX9_lend 143 = .ok (.ireturn, 1) := by decide +kernel
theorem dX9_sell_0 : decode cX9_sell 0 = .ok (.iload_n 1, 1) := by decide +kernel
theorem dX9_sell_1 : decode cX9_sell 1 = .ok (.aload_n 0, 1) := by decide +kernel
theorem dX9_sell_2 : decode cX9_sell 2 = .ok (.getfield 148, 3) := by decide +kernel
theorem dX9_sell_5 : decode cX9_sell 5 = .ok (.invokestatic 134, 3) := by decide +kernel
theorem dX9_sell_8 : decode cX9_sell 8 = .ok (.ifCond .eq 23, 3) := by decide +kernel
theorem dX9_sell_11 : decode cX9_sell 11 = .ok (.iload_n 2, 1) := by decide +kernel
theorem dX9_sell_12 : decode cX9_sell 12 = .ok (.aload_n 0, 1) := by decide +kernel
theorem dX9_sell_13 : decode cX9_sell 13 = .ok (.getfield 131, 3) := by decide +kernel
theorem dX9_sell_16 : decode cX9_sell 16 = .ok (.invokestatic 134, 3) := by decide +kernel
theorem dX9_sell_19 : decode cX9_sell 19 = .ok (.ifCond .eq 12, 3) := by decide +kernel
theorem dX9_sell_22 : decode cX9_sell 22 = .ok (.aload_n 0, 1) := by decide +kernel
theorem dX9_sell_23 : decode cX9_sell 23 = .ok (.iload_n 1, 1) := by decide +kernel
theorem dX9_sell_24 : decode cX9_sell 24 = .ok (.invokevirtual 155, 3) := by decide +kernel
theorem dX9_sell_27 : decode cX9_sell 27 = .ok (.iload_n 2, 1) := by decide +kernel
theorem dX9_sell_28 : decode cX9_sell 28 = .ok (.if_icmp .ne 9, 3) := by decide +kernel
theorem dX9_sell_31 : decode cX9_sell 31 = .ok (.aload_n 0, 1) := by decide +kernel
theorem dX9_sell_32 : decode cX9_sell 32 = .ok (.iconst (-1), 1) := by decide +kernel
theorem dX9_sell_33 : decode cX9_sell 33 = .ok (.invokevirtual 122, 3) := by decide +kernel
theorem dX9_sell_36 : decode cX9_sell 36 = .ok (.ireturn, 1) := by decide +kernel
theorem dX9_sell_37 : decode cX9_sell 37 = .ok (.aload_n 0, 1) := by decide +kernel
theorem dX9_sell_38 : decode cX9_sell 38 = .ok (.getfield 50, 3) := by decide +kernel
theorem dX9_sell_41 : decode cX9_sell 41 = .ok (.iload_n 1, 1) := by decide +kernel
theorem dX9_sell_42 : decode cX9_sell 42 = .ok (.iaload, 1) := by decide +kernel
theorem dX9_sell_43 : decode cX9_sell 43 = .ok (.ifCond .eq 10, 3) := by decide +kernel
theorem dX9_sell_46 : decode cX9_sell 46 = .ok (.aload_n 0, 1) := by decide +kernel
theorem dX9_sell_47 : decode cX9_sell 47 = .ok (.bipush (-2), 2) := by decide +kernel
theorem dX9_sell_49 : decode cX9_sell 49 = .ok (.invokevirtual 122, 3) := by decide +kernel
theorem dX9_sell_52 : decode cX9_sell 52 = .ok (.ireturn, 1) := by decide +kernel
theorem dX9_sell_53 : decode cX9_sell 53 = .ok (.aload_n 0, 1) := by decide +kernel
theorem dX9_sell_54 : decode cX9_sell 54 = .ok (.iload_n 1, 1) := by decide +kernel
theorem dX9_sell_55 : decode cX9_sell 55 = .ok (.invokevirtual 144, 3) := by decide +kernel
theorem dX9_sell_58 : decode cX9_sell 58 = .ok (.ifCond .ne 10, 3) := by decide +kernel
theorem dX9_sell_61 : decode cX9_sell 61 = .ok (.aload_n 0, 1) := by decide +kernel
theorem dX9_sell_62 : decode cX9_sell 62 = .ok (.bipush (-3), 2) := by decide +kernel
theorem dX9_sell_64 : decode cX9_sell 64 = .ok (.invokevirtual 122, 3) := by decide +kernel
theorem dX9_sell_67 : decode cX9_sell 67 = .ok (.ireturn, 1) := by decide +kernel
theorem dX9_sell_68 : decode cX9_sell 68 = .ok (.aload_n 0, 1) := by decide +kernel
theorem dX9_sell_69 : decode cX9_sell 69 = .ok (.getfield 53, 3) := by decide +kernel
theorem dX9_sell_72 : decode cX9_sell 72 = .ok (.iload_n 1, 1) := by decide +kernel
theorem dX9_sell_73 : decode cX9_sell 73 = .ok (.iload_n 2, 1) := by decide +kernel
theorem dX9_sell_74 : decode cX9_sell 74 = .ok (.iastore, 1) := by decide +kernel
theorem dX9_sell_75 : decode cX9_sell 75 = .ok (.iconst 1, 1) := by decide +kernel
theorem dX9_sell_76 : decode cX9_sell 76 = .ok (.ireturn, 1) := by decide +kernel
theorem dX9_move_0 : decode cX9_move 0 = .ok (.iload_n 1, 1) := by decide +kernel
theorem dX9_move_1 : decode cX9_move 1 = .ok (.aload_n 0, 1) := by decide +kernel
theorem dX9_move_2 : decode cX9_move 2 = .ok (.getfield 138, 3) := by decide +kernel
theorem dX9_move_5 : decode cX9_move 5 = .ok (.invokestatic 134, 3) := by decide +kernel
theorem dX9_move_8 : decode cX9_move 8 = .ok (.ifCond .eq 24, 3) := by decide +kernel
theorem dX9_move_11 : decode cX9_move 11 = .ok (.iload_n 2, 1) := by decide +kernel
theorem dX9_move_12 : decode cX9_move 12 = .ok (.aload_n 0, 1) := by decide +kernel
theorem dX9_move_13 : decode cX9_move 13 = .ok (.getfield 131, 3) := by decide +kernel
theorem dX9_move_16 : decode cX9_move 16 = .ok (.invokestatic 134, 3) := by decide +kernel
theorem dX9_move_19 : decode cX9_move 19 = .ok (.ifCond .eq 13, 3) := by decide +kernel
theorem dX9_move_22 : decode cX9_move 22 = .ok (.aload_n 0, 1) := by decide +kernel
theorem dX9_move_23 : decode cX9_move 23 = .ok (.getfield 38, 3) := by decide +kernel
theorem dX9_move_26 : decode cX9_move 26 = .ok (.iload_n 1, 1) := by decide +kernel
theorem dX9_move_27 : decode cX9_move 27 = .ok (.iaload, 1) := by decide +kernel
theorem dX9_move_28 : decode cX9_move 28 = .ok (.iload_n 2, 1) := by decide +kernel
theorem dX9_move_29 : decode cX9_move 29 = .ok (.if_icmp .ne 9, 3) := by decide +kernel
theorem dX9_move_32 : decode cX9_move 32 = .ok (.aload_n 0, 1) := by decide +kernel
theorem dX9_move_33 : decode cX9_move 33 = .ok (.iconst (-1), 1) := by decide +kernel
theorem dX9_move_34 : decode cX9_move 34 = .ok (.invokevirtual 122, 3) := by decide +kernel
theorem dX9_move_37 : decode cX9_move 37 = .ok (.ireturn, 1) := by decide +kernel
theorem dX9_move_38 : decode cX9_move 38 = .ok (.aload_n 0, 1) := by decide +kernel
theorem dX9_move_39 : decode cX9_move 39 = .ok (.getfield 38, 3) := by decide +kernel
theorem dX9_move_42 : decode cX9_move 42 = .ok (.iload_n 1, 1) := by decide +kernel
theorem dX9_move_43 : decode cX9_move 43 = .ok (.iload_n 2, 1) := by decide +kernel
theorem dX9_move_44 : decode cX9_move 44 = .ok (.iastore, 1) := by decide +kernel
theorem dX9_move_45 : decode cX9_move 45 = .ok (.iconst 1, 1) := by decide +kernel
theorem dX9_move_46 : decode cX9_move 46 = .ok (.ireturn, 1) := by decide +kernel
theorem dX9_partsOfSort_0 : decode cX9_partsOfSort 0 = .ok (.iload_n 0, 1) := by decide +kernel
theorem dX9_partsOfSort_1 : decode cX9_partsOfSort 1 = .ok (.ifCond .ne 8, 3) := by decide +kernel
theorem dX9_partsOfSort_4 : decode cX9_partsOfSort 4 = .ok (.bipush 30, 2) := by decide +kernel
theorem dX9_partsOfSort_6 : decode cX9_partsOfSort 6 = .ok (.goto 15, 3) := by decide +kernel
theorem dX9_partsOfSort_9 : decode cX9_partsOfSort 9 = .ok (.iload_n 0, 1) := by decide +kernel
theorem dX9_partsOfSort_10 : decode cX9_partsOfSort 10 = .ok (.iconst 1, 1) := by decide +kernel
theorem dX9_partsOfSort_11 : decode cX9_partsOfSort 11 = .ok (.if_icmp .ne 8, 3) := by decide +kernel
theorem dX9_partsOfSort_14 : decode cX9_partsOfSort 14 = .ok (.bipush 45, 2) := by decide +kernel
theorem dX9_partsOfSort_16 : decode cX9_partsOfSort 16 = .ok (.goto 5, 3) := by decide +kernel
theorem dX9_partsOfSort_19 : decode cX9_partsOfSort 19 = .ok (.bipush 6, 2) := by decide +kernel
theorem dX9_partsOfSort_21 : decode cX9_partsOfSort 21 = .ok (.ireturn, 1) := by decide +kernel
theorem dX9_partsOfHerd_0 : decode cX9_partsOfHerd 0 = .ok (.aload_n 0, 1) := by decide +kernel
theorem dX9_partsOfHerd_1 : decode cX9_partsOfHerd 1 = .ok (.getfield 86, 3) := by decide +kernel
theorem dX9_partsOfHerd_4 : decode cX9_partsOfHerd 4 = .ok (.iload_n 1, 1) := by decide +kernel
theorem dX9_partsOfHerd_5 : decode cX9_partsOfHerd 5 = .ok (.iaload, 1) := by decide +kernel
theorem dX9_partsOfHerd_6 : decode cX9_partsOfHerd 6 = .ok (.aload_n 0, 1) := by decide +kernel
theorem dX9_partsOfHerd_7 : decode cX9_partsOfHerd 7 = .ok (.getfield 83, 3) := by decide +kernel
theorem dX9_partsOfHerd_10 : decode cX9_partsOfHerd 10 = .ok (.iload_n 1, 1) := by decide +kernel
theorem dX9_partsOfHerd_11 : decode cX9_partsOfHerd 11 = .ok (.iaload, 1) := by decide +kernel
theorem dX9_partsOfHerd_12 : decode cX9_partsOfHerd 12 = .ok (.invokestatic 161, 3) := by decide +kernel
theorem dX9_partsOfHerd_15 : decode cX9_partsOfHerd 15 = .ok (.imul, 1) := by decide +kernel
theorem dX9_partsOfHerd_16 : decode cX9_partsOfHerd 16 = .ok (.ireturn, 1) := by decide +kernel
theorem dX9_isOut_0 : decode cX9_isOut 0 = .ok (.aload_n 0, 1) := by decide +kernel
theorem dX9_isOut_1 : decode cX9_isOut 1 = .ok (.getfield 98, 3) := by decide +kernel
theorem dX9_isOut_4 : decode cX9_isOut 4 = .ok (.iload_n 1, 1) := by decide +kernel
theorem dX9_isOut_5 : decode cX9_isOut 5 = .ok (.iaload, 1) := by decide +kernel
theorem dX9_isOut_6 : decode cX9_isOut 6 = .ok (.ifCond .ne 16, 3) := by decide +kernel
theorem dX9_isOut_9 : decode cX9_isOut 9 = .ok (.aload_n 0, 1) := by decide +kernel
theorem dX9_isOut_10 : decode cX9_isOut 10 = .ok (.getfield 89, 3) := by decide +kernel
theorem dX9_isOut_13 : decode cX9_isOut 13 = .ok (.iload_n 1, 1) := by decide +kernel
theorem dX9_isOut_14 : decode cX9_isOut 14 = .ok (.iaload, 1) := by decide +kernel
theorem dX9_isOut_15 : decode cX9_isOut 15 = .ok (.ifCond .lt 7, 3) := by decide +kernel
theorem dX9_isOut_18 : decode cX9_isOut 18 = .ok (.iconst 1, 1) := by decide +kernel
theorem dX9_isOut_19 : decode cX9_isOut 19 = .ok (.goto 4, 3) := by decide +kernel
theorem dX9_isOut_22 : decode cX9_isOut 22 = .ok (.iconst 0, 1) := by decide +kernel
theorem dX9_isOut_23 : decode cX9_isOut 23 = .ok (.ireturn, 1) := by decide +kernel
theorem dX9_herd_0 : decode cX9_herd 0 = .ok (.iload_n 1, 1) := by decide +kernel
theorem dX9_herd_1 : decode cX9_herd 1 = .ok (.aload_n 0, 1) := by decide +kernel
theorem dX9_herd_2 : decode cX9_herd 2 = .ok (.getfield 131, 3) := by decide +kernel
theorem dX9_herd_5 : decode cX9_herd 5 = .ok (.invokestatic 134, 3) := by decide +kernel
theorem dX9_herd_8 : decode cX9_herd 8 = .ok (.ifCond .ne 9, 3) := by decide +kernel
theorem dX9_herd_11 : decode cX9_herd 11 = .ok (.aload_n 0, 1) := by decide +kernel
theorem dX9_herd_12 : decode cX9_herd 12 = .ok (.iconst (-1), 1) := by decide +kernel
theorem dX9_herd_13 : decode cX9_herd 13 = .ok (.invokevirtual 122, 3) := by decide +kernel
theorem dX9_herd_16 : decode cX9_herd 16 = .ok (.ireturn, 1) := by decide +kernel
theorem dX9_herd_17 : decode cX9_herd 17 = .ok (.iload_n 2, 1) := by decide +kernel
theorem dX9_herd_18 : decode cX9_herd 18 = .ok (.iconst 3, 1) := by decide +kernel
theorem dX9_herd_19 : decode cX9_herd 19 = .ok (.invokestatic 134, 3) := by decide +kernel
theorem dX9_herd_22 : decode cX9_herd 22 = .ok (.ifCond .ne 10, 3) := by decide +kernel
theorem dX9_herd_25 : decode cX9_herd 25 = .ok (.aload_n 0, 1) := by decide +kernel
theorem dX9_herd_26 : decode cX9_herd 26 = .ok (.bipush (-2), 2) := by decide +kernel
theorem dX9_herd_28 : decode cX9_herd 28 = .ok (.invokevirtual 122, 3) := by decide +kernel
theorem dX9_herd_31 : decode cX9_herd 31 = .ok (.ireturn, 1) := by decide +kernel
theorem dX9_herd_32 : decode cX9_herd 32 = .ok (.iload_n 3, 1) := by decide +kernel
theorem dX9_herd_33 : decode cX9_herd 33 = .ok (.iconst 1, 1) := by decide +kernel
theorem dX9_herd_34 : decode cX9_herd 34 = .ok (.if_icmp .ge 10, 3) := by decide +kernel
theorem dX9_herd_37 : decode cX9_herd 37 = .ok (.aload_n 0, 1) := by decide +kernel
theorem dX9_herd_38 : decode cX9_herd 38 = .ok (.bipush (-4), 2) := by decide +kernel
theorem dX9_herd_40 : decode cX9_herd 40 = .ok (.invokevirtual 122, 3) := by decide +kernel
theorem dX9_herd_43 : decode cX9_herd 43 = .ok (.ireturn, 1) := by decide +kernel
theorem dX9_herd_44 : decode cX9_herd 44 = .ok (.iload_n 3, 1) := by decide +kernel
theorem dX9_herd_45 : decode cX9_herd 45 = .ok (.bipush 100, 2) := by decide +kernel
theorem dX9_herd_47 : decode cX9_herd 47 = .ok (.if_icmp .gt 12, 3) := by decide +kernel
theorem dX9_herd_50 : decode cX9_herd 50 = .ok (.aload_n 0, 1) := by decide +kernel
theorem dX9_herd_51 : decode cX9_herd 51 = .ok (.getfield 164, 3) := by decide +kernel
theorem dX9_herd_54 : decode cX9_herd 54 = .ok (.bipush 20, 2) := by decide +kernel
theorem dX9_herd_56 : decode cX9_herd 56 = .ok (.if_icmp .ne 10, 3) := by decide +kernel
theorem dX9_herd_59 : decode cX9_herd 59 = .ok (.aload_n 0, 1) := by decide +kernel
theorem dX9_herd_60 : decode cX9_herd 60 = .ok (.bipush (-6), 2) := by decide +kernel
theorem dX9_herd_62 : decode cX9_herd 62 = .ok (.invokevirtual 122, 3) := by decide +kernel
theorem dX9_herd_65 : decode cX9_herd 65 = .ok (.ireturn, 1) := by decide +kernel
theorem dX9_herd_66 : decode cX9_herd 66 = .ok (.aload_n 0, 1) := by decide +kernel
theorem dX9_herd_67 : decode cX9_herd 67 = .ok (.getfield 80, 3) := by decide +kernel
theorem dX9_herd_70 : decode cX9_herd 70 = .ok (.aload_n 0, 1) := by decide +kernel
theorem dX9_herd_71 : decode cX9_herd 71 = .ok (.getfield 164, 3) := by decide +kernel
theorem dX9_herd_74 : decode cX9_herd 74 = .ok (.iload_n 1, 1) := by decide +kernel
theorem dX9_herd_75 : decode cX9_herd 75 = .ok (.iastore, 1) := by decide +kernel
theorem dX9_herd_76 : decode cX9_herd 76 = .ok (.aload_n 0, 1) := by decide +kernel
theorem dX9_herd_77 : decode cX9_herd 77 = .ok (.getfield 83, 3) := by decide +kernel
theorem dX9_herd_80 : decode cX9_herd 80 = .ok (.aload_n 0, 1) := by decide +kernel
theorem dX9_herd_81 : decode cX9_herd 81 = .ok (.getfield 164, 3) := by decide +kernel
theorem dX9_herd_84 : decode cX9_herd 84 = .ok (.iload_n 2, 1) := by decide +kernel
theorem dX9_herd_85 : decode cX9_herd 85 = .ok (.iastore, 1) := by decide +kernel
theorem dX9_herd_86 : decode cX9_herd 86 = .ok (.aload_n 0, 1) := by decide +kernel
theorem dX9_herd_87 : decode cX9_herd 87 = .ok (.getfield 86, 3) := by decide +kernel
theorem dX9_herd_90 : decode cX9_herd 90 = .ok (.aload_n 0, 1) := by decide +kernel
theorem dX9_herd_91 : decode cX9_herd 91 = .ok (.getfield 164, 3) := by decide +kernel
theorem dX9_herd_94 : decode cX9_herd 94 = .ok (.iload_n 3, 1) := by decide +kernel
theorem dX9_herd_95 : decode cX9_herd 95 = .ok (.iastore, 1) := by decide +kernel
theorem dX9_herd_96 : decode cX9_herd 96 = .ok (.aload_n 0, 1) := by decide +kernel
theorem dX9_herd_97 : decode cX9_herd 97 = .ok (.getfield 89, 3) := by decide +kernel
theorem dX9_herd_100 : decode cX9_herd 100 = .ok (.aload_n 0, 1) := by decide +kernel
theorem dX9_herd_101 : decode cX9_herd 101 = .ok (.getfield 164, 3) := by decide +kernel
theorem dX9_herd_104 : decode cX9_herd 104 = .ok (.iconst (-1), 1) := by decide +kernel
theorem dX9_herd_105 : decode cX9_herd 105 = .ok (.iastore, 1) := by decide +kernel
theorem dX9_herd_106 : decode cX9_herd 106 = .ok (.aload_n 0, 1) := by decide +kernel
theorem dX9_herd_107 : decode cX9_herd 107 = .ok (.dup, 1) := by decide +kernel
theorem dX9_herd_108 : decode cX9_herd 108 = .ok (.getfield 164, 3) := by decide +kernel
theorem dX9_herd_111 : decode cX9_herd 111 = .ok (.iconst 1, 1) := by decide +kernel
theorem dX9_herd_112 : decode cX9_herd 112 = .ok (.iadd, 1) := by decide +kernel
theorem dX9_herd_113 : decode cX9_herd 113 = .ok (.putfield 164, 3) := by decide +kernel
theorem dX9_herd_116 : decode cX9_herd 116 = .ok (.aload_n 0, 1) := by decide +kernel
theorem dX9_herd_117 : decode cX9_herd 117 = .ok (.getfield 164, 3) := by decide +kernel
theorem dX9_herd_120 : decode cX9_herd 120 = .ok (.iconst 1, 1) := by decide +kernel
theorem dX9_herd_121 : decode cX9_herd 121 = .ok (.isub, 1) := by decide +kernel
theorem dX9_herd_122 : decode cX9_herd 122 = .ok (.ireturn, 1) := by decide +kernel
theorem dX9_lacksOf_0 : decode cX9_lacksOf 0 = .ok (.iconst 0, 1) := by decide +kernel
theorem dX9_lacksOf_1 : decode cX9_lacksOf 1 = .ok (.istore_n 2, 1) := by decide +kernel
theorem dX9_lacksOf_2 : decode cX9_lacksOf 2 = .ok (.iconst 0, 1) := by decide +kernel
theorem dX9_lacksOf_3 : decode cX9_lacksOf 3 = .ok (.istore_n 3, 1) := by decide +kernel
theorem dX9_lacksOf_4 : decode cX9_lacksOf 4 = .ok (.iconst 0, 1) := by decide +kernel
theorem dX9_lacksOf_5 : decode cX9_lacksOf 5 = .ok (.istore 4, 2) := by decide +kernel
theorem dX9_lacksOf_7 : decode cX9_lacksOf 7 = .ok (.iconst 0, 1) := by decide +kernel
theorem dX9_lacksOf_8 : decode cX9_lacksOf 8 = .ok (.istore 5, 2) := by decide +kernel
theorem dX9_lacksOf_10 : decode cX9_lacksOf 10 = .ok (.iconst 0, 1) := by decide +kernel
theorem dX9_lacksOf_11 : decode cX9_lacksOf 11 = .ok (.istore 6, 2) := by decide +kernel
theorem dX9_lacksOf_13 : decode cX9_lacksOf 13 = .ok (.iload 6, 2) := by decide +kernel
theorem dX9_lacksOf_15 : decode cX9_lacksOf 15 = .ok (.aload_n 0, 1) := by decide +kernel
theorem dX9_lacksOf_16 : decode cX9_lacksOf 16 = .ok (.getfield 127, 3) := by decide +kernel
theorem dX9_lacksOf_19 : decode cX9_lacksOf 19 = .ok (.if_icmp .ge 210, 3) := by decide +kernel
theorem dX9_lacksOf_22 : decode cX9_lacksOf 22 = .ok (.iconst 0, 1) := by decide +kernel
theorem dX9_lacksOf_23 : decode cX9_lacksOf 23 = .ok (.istore 7, 2) := by decide +kernel
theorem dX9_lacksOf_25 : decode cX9_lacksOf 25 = .ok (.iconst 0, 1) := by decide +kernel
theorem dX9_lacksOf_26 : decode cX9_lacksOf 26 = .ok (.istore 8, 2) := by decide +kernel
theorem dX9_lacksOf_28 : decode cX9_lacksOf 28 = .ok (.iconst 0, 1) := by decide +kernel
theorem dX9_lacksOf_29 : decode cX9_lacksOf 29 = .ok (.istore 9, 2) := by decide +kernel
theorem dX9_lacksOf_31 : decode cX9_lacksOf 31 = .ok (.iconst 0, 1) := by decide +kernel
theorem dX9_lacksOf_32 : decode cX9_lacksOf 32 = .ok (.istore 10, 2) := by decide +kernel
theorem dX9_lacksOf_34 : decode cX9_lacksOf 34 = .ok (.iload 10, 2) := by decide +kernel
theorem dX9_lacksOf_36 : decode cX9_lacksOf 36 = .ok (.aload_n 0, 1) := by decide +kernel
theorem dX9_lacksOf_37 : decode cX9_lacksOf 37 = .ok (.getfield 148, 3) := by decide +kernel
theorem dX9_lacksOf_40 : decode cX9_lacksOf 40 = .ok (.if_icmp .ge 57, 3) := by decide +kernel
theorem dX9_lacksOf_43 : decode cX9_lacksOf 43 = .ok (.iload 7, 2) := by decide +kernel
theorem dX9_lacksOf_45 : decode cX9_lacksOf 45 = .ok (.aload_n 0, 1) := by decide +kernel
theorem dX9_lacksOf_46 : decode cX9_lacksOf 46 = .ok (.getfield 50, 3) := by decide +kernel
theorem dX9_lacksOf_49 : decode cX9_lacksOf 49 = .ok (.iload 10, 2) := by decide +kernel
theorem dX9_lacksOf_51 : decode cX9_lacksOf 51 = .ok (.iaload, 1) := by decide +kernel
theorem dX9_lacksOf_52 : decode cX9_lacksOf 52 = .ok (.iconst 3, 1) := by decide +kernel
theorem dX9_lacksOf_53 : decode cX9_lacksOf 53 = .ok (.if_icmp .ne 34, 3) := by decide +kernel
theorem dX9_lacksOf_56 : decode cX9_lacksOf 56 = .ok (.aload_n 0, 1) := by decide +kernel
theorem dX9_lacksOf_57 : decode cX9_lacksOf 57 = .ok (.getfield 65, 3) := by decide +kernel
theorem dX9_lacksOf_60 : decode cX9_lacksOf 60 = .ok (.iload 10, 2) := by decide +kernel
theorem dX9_lacksOf_62 : decode cX9_lacksOf 62 = .ok (.iaload, 1) := by decide +kernel
theorem dX9_lacksOf_63 : decode cX9_lacksOf 63 = .ok (.iload 6, 2) := by decide +kernel
theorem dX9_lacksOf_65 : decode cX9_lacksOf 65 = .ok (.if_icmp .ne 22, 3) := by decide +kernel
theorem dX9_lacksOf_68 : decode cX9_lacksOf 68 = .ok (.aload_n 0, 1) := by decide +kernel
theorem dX9_lacksOf_69 : decode cX9_lacksOf 69 = .ok (.iload 10, 2) := by decide +kernel
theorem dX9_lacksOf_71 : decode cX9_lacksOf 71 = .ok (.invokevirtual 155, 3) := by decide +kernel
theorem dX9_lacksOf_74 : decode cX9_lacksOf 74 = .ok (.iload_n 1, 1) := by decide +kernel
theorem dX9_lacksOf_75 : decode cX9_lacksOf 75 = .ok (.if_icmp .ne 12, 3) := by decide +kernel
theorem dX9_lacksOf_78 : decode cX9_lacksOf 78 = .ok (.aload_n 0, 1) := by decide +kernel
theorem dX9_lacksOf_79 : decode cX9_lacksOf 79 = .ok (.iload 10, 2) := by decide +kernel
theorem dX9_lacksOf_81 : decode cX9_lacksOf 81 = .ok (.invokevirtual 158, 3) := by decide +kernel
theorem dX9_lacksOf_84 : decode cX9_lacksOf 84 = .ok (.goto 4, 3) := by decide +kernel
theorem dX9_lacksOf_87 : decode cX9_lacksOf 87 = .ok (.iconst 0, 1) := by decide +kernel
