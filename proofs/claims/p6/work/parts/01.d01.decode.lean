theorem dX9_adds_62 : decode cX9_adds 62 = .ok (.iload 6, 2) := by decide +kernel
theorem dX9_adds_64 : decode cX9_adds 64 = .ok (.iastore, 1) := by decide +kernel
theorem dX9_adds_65 : decode cX9_adds 65 = .ok (.aload_n 0, 1) := by decide +kernel
theorem dX9_adds_66 : decode cX9_adds 66 = .ok (.getfield 68, 3) := by decide +kernel
theorem dX9_adds_69 : decode cX9_adds 69 = .ok (.aload_n 0, 1) := by decide +kernel
theorem dX9_adds_70 : decode cX9_adds 70 = .ok (.getfield 148, 3) := by decide +kernel
theorem dX9_adds_73 : decode cX9_adds 73 = .ok (.iload 5, 2) := by decide +kernel
theorem dX9_adds_75 : decode cX9_adds 75 = .ok (.iastore, 1) := by decide +kernel
theorem dX9_adds_76 : decode cX9_adds 76 = .ok (.aload_n 0, 1) := by decide +kernel
theorem dX9_adds_77 : decode cX9_adds 77 = .ok (.getfield 71, 3) := by decide +kernel
theorem dX9_adds_80 : decode cX9_adds 80 = .ok (.aload_n 0, 1) := by decide +kernel
theorem dX9_adds_81 : decode cX9_adds 81 = .ok (.getfield 148, 3) := by decide +kernel
theorem dX9_adds_84 : decode cX9_adds 84 = .ok (.bipush (-9), 2) := by decide +kernel
theorem dX9_adds_86 : decode cX9_adds 86 = .ok (.iastore, 1) := by decide +kernel
theorem dX9_adds_87 : decode cX9_adds 87 = .ok (.aload_n 0, 1) := by decide +kernel
theorem dX9_adds_88 : decode cX9_adds 88 = .ok (.dup, 1) := by decide +kernel
theorem dX9_adds_89 : decode cX9_adds 89 = .ok (.getfield 148, 3) := by decide +kernel
theorem dX9_adds_92 : decode cX9_adds 92 = .ok (.iconst 1, 1) := by decide +kernel
theorem dX9_adds_93 : decode cX9_adds 93 = .ok (.iadd, 1) := by decide +kernel
theorem dX9_adds_94 : decode cX9_adds 94 = .ok (.putfield 148, 3) := by decide +kernel
theorem dX9_adds_97 : decode cX9_adds 97 = .ok (.aload_n 0, 1) := by decide +kernel
theorem dX9_adds_98 : decode cX9_adds 98 = .ok (.getfield 148, 3) := by decide +kernel
theorem dX9_adds_101 : decode cX9_adds 101 = .ok (.iconst 1, 1) := by decide +kernel
theorem dX9_adds_102 : decode cX9_adds 102 = .ok (.isub, 1) := by decide +kernel
theorem dX9_adds_103 : decode cX9_adds 103 = .ok (.ireturn, 1) := by decide +kernel
theorem dX9_sell_0 : decode cX9_sell 0 = .ok (.iload_n 1, 1) := by decide +kernel
theorem dX9_sell_1 : decode cX9_sell 1 = .ok (.aload_n 0, 1) := by decide +kernel
theorem dX9_sell_2 : decode cX9_sell 2 = .ok (.getfield 148, 3) := by decide +kernel
theorem dX9_sell_5 : decode cX9_sell 5 = .ok (.invokestatic 134, 3) := by decide +kernel
theorem dX9_sell_8 : decode cX9_sell 8 = .ok (.ifCond .eq 23, 3) := by decide +kernel
theorem dX9_sell_11 : decode cX9_sell 11 = .ok (.iload_n 2, 1) := by decide +kernel
theorem dX9_sell_12 : decode cX9_sell 12 = .ok (.aload_n 0, 1) := by decide +kernel
theorem dX9_sell_13 : decode cX9_sell 13 = .ok (.getfield 131, 3) := by decide +kernel
theorem dX9_sell_16 : decode cX9_sell 16 = .ok (.invokestatic 134, 3) := by decide +kernel
theorem dX9_sell_19 : decode cX9_sell 19 = .ok (.ifCond .eq 12, 3) := by decide +kernel
theorem dX9_sell_22 : decode cX9_sell 22 = .ok (.aload_n 0, 1) := by decide +kernel
theorem dX9_sell_23 : decode cX9_sell 23 = .ok (.iload_n 1, 1) := by decide +kernel
theorem dX9_sell_24 : decode cX9_sell 24 = .ok (.invokevirtual 155, 3) := by decide +kernel
theorem dX9_sell_27 : decode cX9_sell 27 = .ok (.iload_n 2, 1) := by decide +kernel
theorem dX9_sell_28 : decode cX9_sell 28 = .ok (.if_icmp .ne 9, 3) := by decide +kernel
theorem dX9_sell_31 : decode cX9_sell 31 = .ok (.aload_n 0, 1) := by decide +kernel
theorem dX9_sell_32 : decode cX9_sell 32 = .ok (.iconst (-1), 1) := by decide +kernel
theorem dX9_sell_33 : decode cX9_sell 33 = .ok (.invokevirtual 122, 3) := by decide +kernel
theorem dX9_sell_36 : decode cX9_sell 36 = .ok (.ireturn, 1) := by decide +kernel
theorem dX9_sell_37 : decode cX9_sell 37 = .ok (.aload_n 0, 1) := by decide +kernel
theorem dX9_sell_38 : decode cX9_sell 38 = .ok (.getfield 50, 3) := by decide +kernel
theorem dX9_sell_41 : decode cX9_sell 41 = .ok (.iload_n 1, 1) := by decide +kernel
theorem dX9_sell_42 : decode cX9_sell 42 = .ok (.iaload, 1) := by decide +kernel
theorem dX9_sell_43 : decode cX9_sell 43 = .ok (.ifCond .eq 10, 3) := by decide +kernel
theorem dX9_sell_46 : decode cX9_sell 46 = .ok (.aload_n 0, 1) := by decide +kernel
theorem dX9_sell_47 : decode cX9_sell 47 = .ok (.bipush (-2), 2) := by decide +kernel
theorem dX9_sell_49 : decode cX9_sell 49 = .ok (.invokevirtual 122, 3) := by decide +kernel
theorem dX9_sell_52 : decode cX9_sell 52 = .ok (.ireturn, 1) := by decide +kernel
theorem dX9_sell_53 : decode cX9_sell 53 = .ok (.aload_n 0, 1) := by decide +kernel
theorem dX9_sell_54 : decode cX9_sell 54 = .ok (.iload_n 1, 1) := by decide +kernel
theorem dX9_sell_55 : decode cX9_sell 55 = .ok (.invokevirtual 144, 3) := by decide +kernel
theorem dX9_sell_58 : decode cX9_sell 58 = .ok (.ifCond .ne 10, 3) := by decide +kernel
theorem dX9_sell_61 : decode cX9_sell 61 = .ok (.aload_n 0, 1) := by decide +kernel
theorem dX9_sell_62 : decode cX9_sell 62 = .ok (.bipush (-3), 2) := by decide +kernel
theorem dX9_sell_64 : decode cX9_sell 64 = .ok (.invokevirtual 122, 3) := by decide +kernel
theorem dX9_sell_67 : decode cX9_sell 67 = .ok (.ireturn, 1) := by decide +kernel
theorem dX9_sell_68 : decode cX9_sell 68 = .ok (.aload_n 0, 1) := by decide +kernel
theorem dX9_sell_69 : decode cX9_sell 69 = .ok (.getfield 53, 3) := by decide +kernel
theorem dX9_sell_72 : decode cX9_sell 72 = .ok (.iload_n 1, 1) := by decide +kernel
theorem dX9_sell_73 : decode cX9_sell 73 = .ok (.iload_n 2, 1) := by decide +kernel
theorem dX9_sell_74 : decode cX9_sell 74 = .ok (.iastore, 1) := by decide +kernel
theorem dX9_sell_75 : decode cX9_sell 75 = .ok (.iconst 1, 1) := by decide +kernel
theorem dX9_sell_76 : decode cX9_sell 76 = .ok (.ireturn, 1) := by decide +kernel
theorem dX9_move_0 : decode cX9_move 0 = .ok (.iload_n 1, 1) := by decide +kernel
theorem dX9_move_1 : decode cX9_move 1 = .ok (.aload_n 0, 1) := by decide +kernel
theorem dX9_move_2 : decode cX9_move 2 = .ok (.getfield 138, 3) := by decide +kernel
theorem dX9_move_5 : decode cX9_move 5 = .ok (.invokestatic 134, 3) := by decide +kernel
theorem dX9_move_8 : decode cX9_move 8 = .ok (.ifCond .eq 24, 3) := by decide +kernel
theorem dX9_move_11 : decode cX9_move 11 = .ok (.iload_n 2, 1) := by decide +kernel
theorem dX9_move_12 : decode cX9_move 12 = .ok (.aload_n 0, 1) := by decide +kernel
theorem dX9_move_13 : decode cX9_move 13 = .ok (.getfield 131, 3) := by decide +kernel
theorem dX9_move_16 : decode cX9_move 16 = .ok (.invokestatic 134, 3) := by decide +kernel
theorem dX9_move_19 : decode cX9_move 19 = .ok (.ifCond .eq 13, 3) := by decide +kernel
theorem dX9_move_22 : decode cX9_move 22 = .ok (.aload_n 0, 1) := by decide +kernel
theorem dX9_move_23 : decode cX9_move 23 = .ok (.getfield 38, 3) := by decide +kernel
theorem dX9_move_26 : decode cX9_move 26 = .ok (.iload_n 1, 1) := by decide +kernel
theorem dX9_move_27 : decode cX9_move 27 = .ok (.iaload, 1) := by decide +kernel
theorem dX9_move_28 : decode cX9_move 28 = .ok (.iload_n 2, 1) := by decide +kernel
theorem dX9_move_29 : decode cX9_move 29 = .ok (.if_icmp .ne 9, 3) := by decide +kernel
theorem dX9_move_32 : decode cX9_move 32 = .ok (.aload_n 0, 1) := by decide +kernel
theorem dX9_move_33 : decode cX9_move 33 = .ok (.iconst (-1), 1) := by decide +kernel
theorem dX9_move_34 : decode cX9_move 34 = .ok (.invokevirtual 122, 3) := by decide +kernel
theorem dX9_move_37 : decode cX9_move 37 = .ok (.ireturn, 1) := by decide +kernel
theorem dX9_move_38 : decode cX9_move 38 = .ok (.aload_n 0, 1) := by decide +kernel
theorem dX9_move_39 : decode cX9_move 39 = .ok (.getfield 38, 3) := by decide +kernel
theorem dX9_move_42 : decode cX9_move 42 = .ok (.iload_n 1, 1) := by decide +kernel
theorem dX9_move_43 : decode cX9_move 43 = .ok (.iload_n 2, 1) := by decide +kernel
theorem dX9_move_44 : decode cX9_move 44 = .ok (.iastore, 1) := by decide +kernel
theorem dX9_move_45 : decode cX9_move 45 = .ok (.iconst 1, 1) := by decide +kernel
theorem dX9_move_46 : decode cX9_move 46 = .ok (.ireturn, 1) := by decide +kernel
theorem dX9_partsOfSort_0 : decode cX9_partsOfSort 0 = .ok (.iload_n 0, 1) := by decide +kernel
theorem dX9_partsOfSort_1 : decode cX9_partsOfSort 1 = .ok (.ifCond .ne 8, 3) := by decide +kernel
theorem dX9_partsOfSort_4 : decode cX9_partsOfSort 4 = .ok (.bipush 30, 2) := by decide +kernel
theorem dX9_partsOfSort_6 : decode cX9_partsOfSort 6 = .ok (.goto 15, 3) := by decide +kernel
theorem dX9_partsOfSort_9 : decode cX9_partsOfSort 9 = .ok (.iload_n 0, 1) := by decide +kernel
theorem dX9_partsOfSort_10 : decode cX9_partsOfSort 10 = .ok (.iconst 1, 1) := by decide +kernel
theorem dX9_partsOfSort_11 : decode cX9_partsOfSort 11 = .ok (.if_icmp .ne 8, 3) := by decide +kernel
theorem dX9_partsOfSort_14 : decode cX9_partsOfSort 14 = .ok (.bipush 45, 2) := by decide +kernel
theorem dX9_partsOfSort_16 : decode cX9_partsOfSort 16 = .ok (.goto 5, 3) := by decide +kernel
theorem dX9_partsOfSort_19 : decode cX9_partsOfSort 19 = .ok (.bipush 6, 2) := by decide +kernel
theorem dX9_partsOfSort_21 : decode cX9_partsOfSort 21 = .ok (.ireturn, 1) := by decide +kernel
theorem dX9_partsOfHerd_0 : decode cX9_partsOfHerd 0 = .ok (.aload_n 0, 1) := by decide +kernel
theorem dX9_partsOfHerd_1 : decode cX9_partsOfHerd 1 = .ok (.getfield 86, 3) := by decide +kernel
theorem dX9_partsOfHerd_4 : decode cX9_partsOfHerd 4 = .ok (.iload_n 1, 1) := by decide +kernel
theorem dX9_partsOfHerd_5 : decode cX9_partsOfHerd 5 = .ok (.iaload, 1) := by decide +kernel
theorem dX9_partsOfHerd_6 : decode cX9_partsOfHerd 6 = .ok (.aload_n 0, 1) := by decide +kernel
theorem dX9_partsOfHerd_7 : decode cX9_partsOfHerd 7 = .ok (.getfield 83, 3) := by decide +kernel
theorem dX9_partsOfHerd_10 : decode cX9_partsOfHerd 10 = .ok (.iload_n 1, 1) := by decide +kernel
theorem dX9_partsOfHerd_11 : decode cX9_partsOfHerd 11 = .ok (.iaload, 1) := by decide +kernel
theorem dX9_partsOfHerd_12 : decode cX9_partsOfHerd 12 = .ok (.invokestatic 161, 3) := by decide +kernel
theorem dX9_partsOfHerd_15 : decode cX9_partsOfHerd 15 = .ok (.imul, 1) := by decide +kernel
theorem dX9_partsOfHerd_16 : decode cX9_partsOfHerd 16 = .ok (.ireturn, 1) := by decide +kernel
theorem dX9_isOut_0 : decode cX9_isOut 0 = .ok (.aload_n 0, 1) := by decide +kernel
theorem dX9_isOut_1 : decode cX9_isOut 1 = .ok (.getfield 98, 3) := by decide +kernel
theorem dX9_isOut_4 : decode cX9_isOut 4 = .ok (.iload_n 1, 1) := by decide +kernel
theorem dX9_isOut_5 : decode cX9_isOut 5 = .ok (.iaload, 1) := by decide +kernel
theorem dX9_isOut_6 : decode cX9_isOut 6 = .ok (.ifCond .ne 16, 3) := by decide +kernel
theorem dX9_isOut_9 : decode cX9_isOut 9 = .ok (.aload_n 0, 1) := by decide +kernel
theorem dX9_isOut_10 : decode cX9_isOut 10 = .ok (.getfield 89, 3) := by decide +kernel
theorem dX9_isOut_13 : decode cX9_isOut 13 = .ok (.iload_n 1, 1) := by decide +kernel
theorem dX9_isOut_14 : decode cX9_isOut 14 = .ok (.iaload, 1) := by decide +kernel
theorem dX9_isOut_15 : decode cX9_isOut 15 = .ok (.ifCond .lt 7, 3) := by decide +kernel
theorem dX9_isOut_18 : decode cX9_isOut 18 = .ok (.iconst 1, 1) := by decide +kernel
theorem dX9_isOut_19 : decode cX9_isOut 19 = .ok (.goto 4, 3) := by decide +kernel
theorem dX9_isOut_22 : decode cX9_isOut 22 = .ok (.iconst 0, 1) := by decide +kernel
theorem dX9_isOut_23 : decode cX9_isOut 23 = .ok (.ireturn, 1) := by decide +kernel
theorem dX9_lacksOf_0 : decode cX9_lacksOf 0 = .ok (.iconst 0, 1) := by decide +kernel
theorem dX9_lacksOf_1 : decode cX9_lacksOf 1 = .ok (.istore_n 2, 1) := by decide +kernel
theorem dX9_lacksOf_2 : decode cX9_lacksOf 2 = .ok (.iconst 0, 1) := by decide +kernel
theorem dX9_lacksOf_3 : decode cX9_lacksOf 3 = .ok (.istore_n 3, 1) := by decide +kernel
theorem dX9_lacksOf_4 : decode cX9_lacksOf 4 = .ok (.iconst 0, 1) := by decide +kernel
theorem dX9_lacksOf_5 : decode cX9_lacksOf 5 = .ok (.istore 4, 2) := by decide +kernel
theorem dX9_lacksOf_7 : decode cX9_lacksOf 7 = .ok (.iconst 0, 1) := by decide +kernel
theorem dX9_lacksOf_8 : decode cX9_lacksOf 8 = .ok (.istore 5, 2) := by decide +kernel
theorem dX9_lacksOf_10 : decode cX9_lacksOf 10 = .ok (.iconst 0, 1) := by decide +kernel
theorem dX9_lacksOf_11 : decode cX9_lacksOf 11 = .ok (.istore 6, 2) := by decide +kernel
theorem dX9_lacksOf_13 : decode cX9_lacksOf 13 = .ok (.iload 6, 2) := by decide +kernel
theorem dX9_lacksOf_15 : decode cX9_lacksOf 15 = .ok (.aload_n 0, 1) := by decide +kernel
theorem dX9_lacksOf_16 : decode cX9_lacksOf 16 = .ok (.getfield 127, 3) := by decide +kernel
theorem dX9_lacksOf_19 : decode cX9_lacksOf 19 = .ok (.if_icmp .ge 210, 3) := by decide +kernel
theorem dX9_lacksOf_22 : decode cX9_lacksOf 22 = .ok (.iconst 0, 1) := by decide +kernel
theorem dX9_lacksOf_23 : decode cX9_lacksOf 23 = .ok (.istore 7, 2) := by decide +kernel
theorem dX9_lacksOf_25 : decode cX9_lacksOf 25 = .ok (.iconst 0, 1) := by decide +kernel
theorem dX9_lacksOf_26 : decode cX9_lacksOf 26 = .ok (.istore 8, 2) := by decide +kernel
theorem dX9_lacksOf_28 : decode cX9_lacksOf 28 = .ok (.iconst 0, 1) := by decide +kernel
theorem dX9_lacksOf_29 : decode cX9_lacksOf 29 = .ok (.istore 9, 2) := by decide +kernel
theorem dX9_lacksOf_31 : decode cX9_lacksOf 31 = .ok (.iconst 0, 1) := by decide +kernel
theorem dX9_lacksOf_32 : decode cX9_lacksOf 32 = .ok (.istore 10, 2) := by decide +kernel
theorem dX9_lacksOf_34 : decode cX9_lacksOf 34 = .ok (.iload 10, 2) := by decide +kernel
theorem dX9_lacksOf_36 : decode cX9_lacksOf 36 = .ok (.aload_n 0, 1) := by decide +kernel
theorem dX9_lacksOf_37 : decode cX9_lacksOf 37 = .ok (.getfield 148, 3) := by decide +kernel
theorem dX9_lacksOf_40 : decode cX9_lacksOf 40 = .ok (.if_icmp .ge 57, 3) := by decide +kernel
theorem dX9_lacksOf_43 : decode cX9_lacksOf 43 = .ok (.iload 7, 2) := by decide +kernel
theorem dX9_lacksOf_45 : decode cX9_lacksOf 45 = .ok (.aload_n 0, 1) := by decide +kernel
theorem dX9_lacksOf_46 : decode cX9_lacksOf 46 = .ok (.getfield 50, 3) := by decide +kernel
theorem dX9_lacksOf_49 : decode cX9_lacksOf 49 = .ok (.iload 10, 2) := by decide +kernel
theorem dX9_lacksOf_51 : decode cX9_lacksOf 51 = .ok (.iaload, 1) := by decide +kernel
theorem dX9_lacksOf_52 : decode cX9_lacksOf 52 = .ok (.iconst 3, 1) := by decide +kernel
theorem dX9_lacksOf_53 : decode cX9_lacksOf 53 = .ok (.if_icmp .ne 34, 3) := by decide +kernel
theorem dX9_lacksOf_56 : decode cX9_lacksOf 56 = .ok (.aload_n 0, 1) := by decide +kernel
theorem dX9_lacksOf_57 : decode cX9_lacksOf 57 = .ok (.getfield 65, 3) := by decide +kernel
theorem dX9_lacksOf_60 : decode cX9_lacksOf 60 = .ok (.iload 10, 2) := by decide +kernel
theorem dX9_lacksOf_62 : decode cX9_lacksOf 62 = .ok (.iaload, 1) := by decide +kernel
theorem dX9_lacksOf_63 : decode cX9_lacksOf 63 = .ok (.iload 6, 2) := by decide +kernel
theorem dX9_lacksOf_65 : decode cX9_lacksOf 65 = .ok (.if_icmp .ne 22, 3) := by decide +kernel
theorem dX9_lacksOf_68 : decode cX9_lacksOf 68 = .ok (.aload_n 0, 1) := by decide +kernel
theorem dX9_lacksOf_69 : decode cX9_lacksOf 69 = .ok (.iload 10, 2) := by decide +kernel
theorem dX9_lacksOf_71 : decode cX9_lacksOf 71 = .ok (.invokevirtual 155, 3) := by decide +kernel
theorem dX9_lacksOf_74 : decode cX9_lacksOf 74 = .ok (.iload_n 1, 1) := by decide +kernel
theorem dX9_lacksOf_75 : decode cX9_lacksOf 75 = .ok (.if_icmp .ne 12, 3) := by decide +kernel
theorem dX9_lacksOf_78 : decode cX9_lacksOf 78 = .ok (.aload_n 0, 1) := by decide +kernel
theorem dX9_lacksOf_79 : decode cX9_lacksOf 79 = .ok (.iload 10, 2) := by decide +kernel
theorem dX9_lacksOf_81 : decode cX9_lacksOf 81 = .ok (.invokevirtual 158, 3) := by decide +kernel
theorem dX9_lacksOf_84 : decode cX9_lacksOf 84 = .ok (.goto 4, 3) := by decide +kernel
theorem dX9_lacksOf_87 : decode cX9_lacksOf 87 = .ok (.iconst 0, 1) := by decide +kernel
theorem dX9_lacksOf_88 : decode cX9_lacksOf 88 = .ok (.iadd, 1) := by decide +kernel
theorem dX9_lacksOf_89 : decode cX9_lacksOf 89 = .ok (.istore 7, 2) := by decide +kernel
theorem dX9_lacksOf_91 : decode cX9_lacksOf 91 = .ok (.iinc 10 1, 3) := by decide +kernel
theorem dX9_lacksOf_94 : decode cX9_lacksOf 94 = .ok (.goto (-60), 3) := by decide +kernel
theorem dX9_lacksOf_97 : decode cX9_lacksOf 97 = .ok (.iconst 0, 1) := by decide +kernel
theorem dX9_lacksOf_98 : decode cX9_lacksOf 98 = .ok (.istore 10, 2) := by decide +kernel
theorem dX9_lacksOf_100 : decode cX9_lacksOf 100 = .ok (.iload 10, 2) := by decide +kernel
theorem dX9_lacksOf_102 : decode cX9_lacksOf 102 = .ok (.aload_n 0, 1) := by decide +kernel
theorem dX9_lacksOf_103 : decode cX9_lacksOf 103 = .ok (.getfield 164, 3) := by decide +kernel
theorem dX9_lacksOf_106 : decode cX9_lacksOf 106 = .ok (.if_icmp .ge 80, 3) := by decide +kernel
theorem dX9_lacksOf_109 : decode cX9_lacksOf 109 = .ok (.aload_n 0, 1) := by decide +kernel
theorem dX9_lacksOf_110 : decode cX9_lacksOf 110 = .ok (.iload 10, 2) := by decide +kernel
theorem dX9_lacksOf_112 : decode cX9_lacksOf 112 = .ok (.invokevirtual 167, 3) := by decide +kernel
theorem dX9_lacksOf_115 : decode cX9_lacksOf 115 = .ok (.ifCond .eq 65, 3) := by decide +kernel
theorem dX9_lacksOf_118 : decode cX9_lacksOf 118 = .ok (.aload_n 0, 1) := by decide +kernel
theorem dX9_lacksOf_119 : decode cX9_lacksOf 119 = .ok (.getfield 80, 3) := by decide +kernel
theorem dX9_lacksOf_122 : decode cX9_lacksOf 122 = .ok (.iload 10, 2) := by decide +kernel
theorem dX9_lacksOf_124 : decode cX9_lacksOf 124 = .ok (.iaload, 1) := by decide +kernel
theorem dX9_lacksOf_125 : decode cX9_lacksOf 125 = .ok (.iload_n 1, 1) := by decide +kernel
theorem dX9_lacksOf_126 : decode cX9_lacksOf 126 = .ok (.if_icmp .ne 54, 3) := by decide +kernel
theorem dX9_lacksOf_129 : decode cX9_lacksOf 129 = .ok (.aload_n 0, 1) := by decide +kernel
theorem dX9_lacksOf_130 : decode cX9_lacksOf 130 = .ok (.getfield 89, 3) := by decide +kernel
theorem dX9_lacksOf_133 : decode cX9_lacksOf 133 = .ok (.iload 10, 2) := by decide +kernel
theorem dX9_lacksOf_135 : decode cX9_lacksOf 135 = .ok (.iaload, 1) := by decide +kernel
theorem dX9_lacksOf_136 : decode cX9_lacksOf 136 = .ok (.iload 6, 2) := by decide +kernel
theorem dX9_lacksOf_138 : decode cX9_lacksOf 138 = .ok (.if_icmp .eq 6, 3) := by decide +kernel
theorem dX9_lacksOf_141 : decode cX9_lacksOf 141 = .ok (.goto 39, 3) := by decide +kernel
theorem dX9_lacksOf_144 : decode cX9_lacksOf 144 = .ok (.aload_n 0, 1) := by decide +kernel
theorem dX9_lacksOf_145 : decode cX9_lacksOf 145 = .ok (.getfield 83, 3) := by decide +kernel
theorem dX9_lacksOf_148 : decode cX9_lacksOf 148 = .ok (.iload 10, 2) := by decide +kernel
theorem dX9_lacksOf_150 : decode cX9_lacksOf 150 = .ok (.iaload, 1) := by decide +kernel
theorem dX9_lacksOf_151 : decode cX9_lacksOf 151 = .ok (.iconst 2, 1) := by decide +kernel
theorem dX9_lacksOf_152 : decode cX9_lacksOf 152 = .ok (.if_icmp .ne 17, 3) := by decide +kernel
theorem dX9_lacksOf_155 : decode cX9_lacksOf 155 = .ok (.iload 9, 2) := by decide +kernel
theorem dX9_lacksOf_157 : decode cX9_lacksOf 157 = .ok (.aload_n 0, 1) := by decide +kernel
theorem dX9_lacksOf_158 : decode cX9_lacksOf 158 = .ok (.iload 10, 2) := by decide +kernel
theorem dX9_lacksOf_160 : decode cX9_lacksOf 160 = .ok (.invokevirtual 170, 3) := by decide +kernel
theorem dX9_lacksOf_163 : decode cX9_lacksOf 163 = .ok (.iadd, 1) := by decide +kernel
theorem dX9_lacksOf_164 : decode cX9_lacksOf 164 = .ok (.istore 9, 2) := by decide +kernel
theorem dX9_lacksOf_166 : decode cX9_lacksOf 166 = .ok (.goto 14, 3) := by decide +kernel
theorem dX9_lacksOf_169 : decode cX9_lacksOf 169 = .ok (.iload 8, 2) := by decide +kernel
theorem dX9_lacksOf_171 : decode cX9_lacksOf 171 = .ok (.aload_n 0, 1) := by decide +kernel
theorem dX9_lacksOf_172 : decode cX9_lacksOf 172 = .ok (.iload 10, 2) := by decide +kernel
theorem dX9_lacksOf_174 : decode cX9_lacksOf 174 = .ok (.invokevirtual 170, 3) := by decide +kernel
theorem dX9_lacksOf_177 : decode cX9_lacksOf 177 = .ok (.iadd, 1) := by decide +kernel
theorem dX9_lacksOf_178 : decode cX9_lacksOf 178 = .ok (.istore 8, 2) := by decide +kernel
theorem dX9_lacksOf_180 : decode cX9_lacksOf 180 = .ok (.iinc 10 1, 3) := by decide +kernel
theorem dX9_lacksOf_183 : decode cX9_lacksOf 183 = .ok (.goto (-83), 3) := by decide +kernel
theorem dX9_lacksOf_186 : decode cX9_lacksOf 186 = .ok (.iload 7, 2) := by decide +kernel
theorem dX9_lacksOf_188 : decode cX9_lacksOf 188 = .ok (.iload 8, 2) := by decide +kernel
theorem dX9_lacksOf_190 : decode cX9_lacksOf 190 = .ok (.invokestatic 173, 3) := by decide +kernel
theorem dX9_lacksOf_193 : decode cX9_lacksOf 193 = .ok (.istore 10, 2) := by decide +kernel
theorem dX9_lacksOf_195 : decode cX9_lacksOf 195 = .ok (.iload 5, 2) := by decide +kernel
theorem dX9_lacksOf_197 : decode cX9_lacksOf 197 = .ok (.iload 8, 2) := by decide +kernel
theorem dX9_lacksOf_199 : decode cX9_lacksOf 199 = .ok (.iload 10, 2) := by decide +kernel
theorem dX9_lacksOf_201 : decode cX9_lacksOf 201 = .ok (.isub, 1) := by decide +kernel
theorem dX9_lacksOf_202 : decode cX9_lacksOf 202 = .ok (.iadd, 1) := by decide +kernel
theorem dX9_lacksOf_203 : decode cX9_lacksOf 203 = .ok (.istore 5, 2) := by decide +kernel
theorem dX9_lacksOf_205 : decode cX9_lacksOf 205 = .ok (.iload 4, 2) := by decide +kernel
theorem dX9_lacksOf_207 : decode cX9_lacksOf 207 = .ok (.iload 9, 2) := by decide +kernel
theorem dX9_lacksOf_209 : decode cX9_lacksOf 209 = .ok (.iload 7, 2) := by decide +kernel
theorem dX9_lacksOf_211 : decode cX9_lacksOf 211 = .ok (.iload 10, 2) := by decide +kernel
theorem dX9_lacksOf_213 : decode cX9_lacksOf 213 = .ok (.isub, 1) := by decide +kernel
theorem dX9_lacksOf_214 : decode cX9_lacksOf 214 = .ok (.iload 9, 2) := by decide +kernel
theorem dX9_lacksOf_216 : decode cX9_lacksOf 216 = .ok (.invokestatic 173, 3) := by decide +kernel
theorem dX9_lacksOf_219 : decode cX9_lacksOf 219 = .ok (.isub, 1) := by decide +kernel
theorem dX9_lacksOf_220 : decode cX9_lacksOf 220 = .ok (.iadd, 1) := by decide +kernel
theorem dX9_lacksOf_221 : decode cX9_lacksOf 221 = .ok (.istore 4, 2) := by decide +kernel
theorem dX9_lacksOf_223 : decode cX9_lacksOf 223 = .ok (.iinc 6 1, 3) := by decide +kernel
theorem dX9_lacksOf_226 : decode cX9_lacksOf 226 = .ok (.goto (-213), 3) := by decide +kernel
