theorem dX9_feeOf_22 : decode cX9_feeOf 22 = .ok (.iadd, 1) := by decide +kernel
theorem dX9_feeOf_23 : decode cX9_feeOf 23 = .ok (.aload_n 0, 1) := by decide +kernel
theorem dX9_feeOf_24 : decode cX9_feeOf 24 = .ok (.getfield 86, 3) := by decide +kernel
theorem dX9_feeOf_27 : decode cX9_feeOf 27 = .ok (.iload_n 1, 1) := by decide +kernel
theorem dX9_feeOf_28 : decode cX9_feeOf 28 = .ok (.iaload, 1) := by decide +kernel
theorem dX9_feeOf_29 : decode cX9_feeOf 29 = .ok (.imul, 1) := by decide +kernel
theorem dX9_feeOf_30 : decode cX9_feeOf 30 = .ok (.goto 4, 3) := by decide +kernel
theorem dX9_feeOf_33 : decode cX9_feeOf 33 = .ok (.iconst 0, 1) := by decide +kernel
theorem dX9_feeOf_34 : decode cX9_feeOf 34 = .ok (.ireturn, 1) := by decide +kernel
theorem dX9_free_0 : decode cX9_free 0 = .ok (.iload_n 1, 1) := by decide +kernel
theorem dX9_free_1 : decode cX9_free 1 = .ok (.aload_n 0, 1) := by decide +kernel
theorem dX9_free_2 : decode cX9_free 2 = .ok (.getfield 164, 3) := by decide +kernel
theorem dX9_free_5 : decode cX9_free 5 = .ok (.invokestatic 134, 3) := by decide +kernel
theorem dX9_free_8 : decode cX9_free 8 = .ok (.ifCond .ne 9, 3) := by decide +kernel
theorem dX9_free_11 : decode cX9_free 11 = .ok (.aload_n 0, 1) := by decide +kernel
theorem dX9_free_12 : decode cX9_free 12 = .ok (.iconst (-1), 1) := by decide +kernel
theorem dX9_free_13 : decode cX9_free 13 = .ok (.invokevirtual 122, 3) := by decide +kernel
theorem dX9_free_16 : decode cX9_free 16 = .ok (.ireturn, 1) := by decide +kernel
theorem dX9_free_17 : decode cX9_free 17 = .ok (.aload_n 0, 1) := by decide +kernel
theorem dX9_free_18 : decode cX9_free 18 = .ok (.getfield 98, 3) := by decide +kernel
theorem dX9_free_21 : decode cX9_free 21 = .ok (.iload_n 1, 1) := by decide +kernel
theorem dX9_free_22 : decode cX9_free 22 = .ok (.iaload, 1) := by decide +kernel
theorem dX9_free_23 : decode cX9_free 23 = .ok (.iconst 1, 1) := by decide +kernel
theorem dX9_free_24 : decode cX9_free 24 = .ok (.if_icmp .eq 10, 3) := by decide +kernel
theorem dX9_free_27 : decode cX9_free 27 = .ok (.aload_n 0, 1) := by decide +kernel
theorem dX9_free_28 : decode cX9_free 28 = .ok (.bipush (-3), 2) := by decide +kernel
theorem dX9_free_30 : decode cX9_free 30 = .ok (.invokevirtual 122, 3) := by decide +kernel
theorem dX9_free_33 : decode cX9_free 33 = .ok (.ireturn, 1) := by decide +kernel
theorem dX9_free_34 : decode cX9_free 34 = .ok (.aload_n 0, 1) := by decide +kernel
theorem dX9_free_35 : decode cX9_free 35 = .ok (.iload_n 1, 1) := by decide +kernel
theorem dX9_free_36 : decode cX9_free 36 = .ok (.invokevirtual 239, 3) := by decide +kernel
theorem dX9_free_39 : decode cX9_free 39 = .ok (.istore_n 2, 1) := by decide +kernel
theorem dX9_free_40 : decode cX9_free 40 = .ok (.iload_n 2, 1) := by decide +kernel
theorem dX9_free_41 : decode cX9_free 41 = .ok (.aload_n 0, 1) := by decide +kernel
theorem dX9_free_42 : decode cX9_free 42 = .ok (.getfield 32, 3) := by decide +kernel
theorem dX9_free_45 : decode cX9_free 45 = .ok (.aload_n 0, 1) := by decide +kernel
theorem dX9_free_46 : decode cX9_free 46 = .ok (.getfield 80, 3) := by decide +kernel
theorem dX9_free_49 : decode cX9_free 49 = .ok (.iload_n 1, 1) := by decide +kernel
theorem dX9_free_50 : decode cX9_free 50 = .ok (.iaload, 1) := by decide +kernel
theorem dX9_free_51 : decode cX9_free 51 = .ok (.iaload, 1) := by decide +kernel
theorem dX9_free_52 : decode cX9_free 52 = .ok (.if_icmp .le 10, 3) := by decide +kernel
theorem dX9_free_55 : decode cX9_free 55 = .ok (.aload_n 0, 1) := by decide +kernel
theorem dX9_free_56 : decode cX9_free 56 = .ok (.bipush (-5), 2) := by decide +kernel
theorem dX9_free_58 : decode cX9_free 58 = .ok (.invokevirtual 122, 3) := by decide +kernel
theorem dX9_free_61 : decode cX9_free 61 = .ok (.ireturn, 1) := by decide +kernel
theorem dX9_free_62 : decode cX9_free 62 = .ok (.aload_n 0, 1) := by decide +kernel
theorem dX9_free_63 : decode cX9_free 63 = .ok (.getfield 32, 3) := by decide +kernel
theorem dX9_free_66 : decode cX9_free 66 = .ok (.aload_n 0, 1) := by decide +kernel
theorem dX9_free_67 : decode cX9_free 67 = .ok (.getfield 80, 3) := by decide +kernel
theorem dX9_free_70 : decode cX9_free 70 = .ok (.iload_n 1, 1) := by decide +kernel
theorem dX9_free_71 : decode cX9_free 71 = .ok (.iaload, 1) := by decide +kernel
theorem dX9_free_72 : decode cX9_free 72 = .ok (.dup2, 1) := by decide +kernel
theorem dX9_free_73 : decode cX9_free 73 = .ok (.iaload, 1) := by decide +kernel
theorem dX9_free_74 : decode cX9_free 74 = .ok (.iload_n 2, 1) := by decide +kernel
theorem dX9_free_75 : decode cX9_free 75 = .ok (.isub, 1) := by decide +kernel
theorem dX9_free_76 : decode cX9_free 76 = .ok (.iastore, 1) := by decide +kernel
theorem dX9_free_77 : decode cX9_free 77 = .ok (.aload_n 0, 1) := by decide +kernel
theorem dX9_free_78 : decode cX9_free 78 = .ok (.dup, 1) := by decide +kernel
theorem dX9_free_79 : decode cX9_free 79 = .ok (.getfield 205, 3) := by decide +kernel
theorem dX9_free_82 : decode cX9_free 82 = .ok (.iload_n 2, 1) := by decide +kernel
theorem dX9_free_83 : decode cX9_free 83 = .ok (.iadd, 1) := by decide +kernel
theorem dX9_free_84 : decode cX9_free 84 = .ok (.putfield 205, 3) := by decide +kernel
theorem dX9_free_87 : decode cX9_free 87 = .ok (.aload_n 0, 1) := by decide +kernel
theorem dX9_free_88 : decode cX9_free 88 = .ok (.getfield 98, 3) := by decide +kernel
theorem dX9_free_91 : decode cX9_free 91 = .ok (.iload_n 1, 1) := by decide +kernel
theorem dX9_free_92 : decode cX9_free 92 = .ok (.iconst 0, 1) := by decide +kernel
theorem dX9_free_93 : decode cX9_free 93 = .ok (.iastore, 1) := by decide +kernel
theorem dX9_free_94 : decode cX9_free 94 = .ok (.iload_n 2, 1) := by decide +kernel
theorem dX9_free_95 : decode cX9_free 95 = .ok (.ireturn, 1) := by decide +kernel
theorem dX9_mayTake_0 : decode cX9_mayTake 0 = .ok (.aload_n 0, 1) := by decide +kernel
theorem dX9_mayTake_1 : decode cX9_mayTake 1 = .ok (.getfield 141, 3) := by decide +kernel
theorem dX9_mayTake_4 : decode cX9_mayTake 4 = .ok (.iconst 1, 1) := by decide +kernel
theorem dX9_mayTake_5 : decode cX9_mayTake 5 = .ok (.iadd, 1) := by decide +kernel
theorem dX9_mayTake_6 : decode cX9_mayTake 6 = .ok (.iload_n 1, 1) := by decide +kernel
theorem dX9_mayTake_7 : decode cX9_mayTake 7 = .ok (.iload_n 3, 1) := by decide +kernel
theorem dX9_mayTake_8 : decode cX9_mayTake 8 = .ok (.imul, 1) := by decide +kernel
theorem dX9_mayTake_9 : decode cX9_mayTake 9 = .ok (.iadd, 1) := by decide +kernel
theorem dX9_mayTake_10 : decode cX9_mayTake 10 = .ok (.aload_n 0, 1) := by decide +kernel
theorem dX9_mayTake_11 : decode cX9_mayTake 11 = .ok (.getfield 22, 3) := by decide +kernel
theorem dX9_mayTake_14 : decode cX9_mayTake 14 = .ok (.iload_n 2, 1) := by decide +kernel
theorem dX9_mayTake_15 : decode cX9_mayTake 15 = .ok (.iaload, 1) := by decide +kernel
theorem dX9_mayTake_16 : decode cX9_mayTake 16 = .ok (.if_icmp .le 7, 3) := by decide +kernel
theorem dX9_mayTake_19 : decode cX9_mayTake 19 = .ok (.iconst 1, 1) := by decide +kernel
theorem dX9_mayTake_20 : decode cX9_mayTake 20 = .ok (.goto 4, 3) := by decide +kernel
theorem dX9_mayTake_23 : decode cX9_mayTake 23 = .ok (.iconst 0, 1) := by decide +kernel
theorem dX9_mayTake_24 : decode cX9_mayTake 24 = .ok (.ireturn, 1) := by decide +kernel
theorem dX9_pieceOf_0 : decode cX9_pieceOf 0 = .ok (.iload_n 1, 1) := by decide +kernel
theorem dX9_pieceOf_1 : decode cX9_pieceOf 1 = .ok (.aload_n 0, 1) := by decide +kernel
theorem dX9_pieceOf_2 : decode cX9_pieceOf 2 = .ok (.getfield 127, 3) := by decide +kernel
theorem dX9_pieceOf_5 : decode cX9_pieceOf 5 = .ok (.invokestatic 134, 3) := by decide +kernel
theorem dX9_pieceOf_8 : decode cX9_pieceOf 8 = .ok (.ifCond .ne 9, 3) := by decide +kernel
theorem dX9_pieceOf_11 : decode cX9_pieceOf 11 = .ok (.aload_n 0, 1) := by decide +kernel
theorem dX9_pieceOf_12 : decode cX9_pieceOf 12 = .ok (.iconst (-1), 1) := by decide +kernel
theorem dX9_pieceOf_13 : decode cX9_pieceOf 13 = .ok (.invokevirtual 122, 3) := by decide +kernel
theorem dX9_pieceOf_16 : decode cX9_pieceOf 16 = .ok (.ireturn, 1) := by decide +kernel
theorem dX9_pieceOf_17 : decode cX9_pieceOf 17 = .ok (.iconst 0, 1) := by decide +kernel
theorem dX9_pieceOf_18 : decode cX9_pieceOf 18 = .ok (.istore_n 3, 1) := by decide +kernel
theorem dX9_pieceOf_19 : decode cX9_pieceOf 19 = .ok (.iload_n 2, 1) := by decide +kernel
theorem dX9_pieceOf_20 : decode cX9_pieceOf 20 = .ok (.tableswitch 133 0 6 #[44, 51, 58, 65, 72, 78, 126], 44) := by decide +kernel
theorem dX9_pieceOf_64 : decode cX9_pieceOf 64 = .ok (.aload_n 0, 1) := by decide +kernel
theorem dX9_pieceOf_65 : decode cX9_pieceOf 65 = .ok (.getfield 13, 3) := by decide +kernel
theorem dX9_pieceOf_68 : decode cX9_pieceOf 68 = .ok (.iload_n 1, 1) := by decide +kernel
theorem dX9_pieceOf_69 : decode cX9_pieceOf 69 = .ok (.iaload, 1) := by decide +kernel
theorem dX9_pieceOf_70 : decode cX9_pieceOf 70 = .ok (.ireturn, 1) := by decide +kernel
theorem dX9_pieceOf_71 : decode cX9_pieceOf 71 = .ok (.aload_n 0, 1) := by decide +kernel
theorem dX9_pieceOf_72 : decode cX9_pieceOf 72 = .ok (.getfield 16, 3) := by decide +kernel
theorem dX9_pieceOf_75 : decode cX9_pieceOf 75 = .ok (.iload_n 1, 1) := by decide +kernel
theorem dX9_pieceOf_76 : decode cX9_pieceOf 76 = .ok (.iaload, 1) := by decide +kernel
theorem dX9_pieceOf_77 : decode cX9_pieceOf 77 = .ok (.ireturn, 1) := by decide +kernel
theorem dX9_pieceOf_78 : decode cX9_pieceOf 78 = .ok (.aload_n 0, 1) := by decide +kernel
theorem dX9_pieceOf_79 : decode cX9_pieceOf 79 = .ok (.getfield 19, 3) := by decide +kernel
theorem dX9_pieceOf_82 : decode cX9_pieceOf 82 = .ok (.iload_n 1, 1) := by decide +kernel
theorem dX9_pieceOf_83 : decode cX9_pieceOf 83 = .ok (.iaload, 1) := by decide +kernel
theorem dX9_pieceOf_84 : decode cX9_pieceOf 84 = .ok (.ireturn, 1) := by decide +kernel
theorem dX9_pieceOf_85 : decode cX9_pieceOf 85 = .ok (.aload_n 0, 1) := by decide +kernel
theorem dX9_pieceOf_86 : decode cX9_pieceOf 86 = .ok (.getfield 22, 3) := by decide +kernel
theorem dX9_pieceOf_89 : decode cX9_pieceOf 89 = .ok (.iload_n 1, 1) := by decide +kernel
theorem dX9_pieceOf_90 : decode cX9_pieceOf 90 = .ok (.iaload, 1) := by decide +kernel
theorem dX9_pieceOf_91 : decode cX9_pieceOf 91 = .ok (.ireturn, 1) := by decide +kernel
theorem dX9_pieceOf_92 : decode cX9_pieceOf 92 = .ok (.aload_n 0, 1) := by decide +kernel
theorem dX9_pieceOf_93 : decode cX9_pieceOf 93 = .ok (.iload_n 1, 1) := by decide +kernel
theorem dX9_pieceOf_94 : decode cX9_pieceOf 94 = .ok (.invokevirtual 191, 3) := by decide +kernel
theorem dX9_pieceOf_97 : decode cX9_pieceOf 97 = .ok (.ireturn, 1) := by decide +kernel
theorem dX9_pieceOf_98 : decode cX9_pieceOf 98 = .ok (.iconst 0, 1) := by decide +kernel
theorem dX9_pieceOf_99 : decode cX9_pieceOf 99 = .ok (.istore 4, 2) := by decide +kernel
theorem dX9_pieceOf_101 : decode cX9_pieceOf 101 = .ok (.iload 4, 2) := by decide +kernel
theorem dX9_pieceOf_103 : decode cX9_pieceOf 103 = .ok (.aload_n 0, 1) := by decide +kernel
theorem dX9_pieceOf_104 : decode cX9_pieceOf 104 = .ok (.getfield 164, 3) := by decide +kernel
theorem dX9_pieceOf_107 : decode cX9_pieceOf 107 = .ok (.if_icmp .ge 37, 3) := by decide +kernel
theorem dX9_pieceOf_110 : decode cX9_pieceOf 110 = .ok (.iload_n 3, 1) := by decide +kernel
theorem dX9_pieceOf_111 : decode cX9_pieceOf 111 = .ok (.aload_n 0, 1) := by decide +kernel
theorem dX9_pieceOf_112 : decode cX9_pieceOf 112 = .ok (.iload 4, 2) := by decide +kernel
theorem dX9_pieceOf_114 : decode cX9_pieceOf 114 = .ok (.invokevirtual 167, 3) := by decide +kernel
theorem dX9_pieceOf_117 : decode cX9_pieceOf 117 = .ok (.ifCond .eq 18, 3) := by decide +kernel
theorem dX9_pieceOf_120 : decode cX9_pieceOf 120 = .ok (.aload_n 0, 1) := by decide +kernel
theorem dX9_pieceOf_121 : decode cX9_pieceOf 121 = .ok (.getfield 89, 3) := by decide +kernel
theorem dX9_pieceOf_124 : decode cX9_pieceOf 124 = .ok (.iload 4, 2) := by decide +kernel
theorem dX9_pieceOf_126 : decode cX9_pieceOf 126 = .ok (.iaload, 1) := by decide +kernel
theorem dX9_pieceOf_127 : decode cX9_pieceOf 127 = .ok (.iload_n 1, 1) := by decide +kernel
theorem dX9_pieceOf_128 : decode cX9_pieceOf 128 = .ok (.if_icmp .ne 7, 3) := by decide +kernel
theorem dX9_pieceOf_131 : decode cX9_pieceOf 131 = .ok (.iconst 1, 1) := by decide +kernel
theorem dX9_pieceOf_132 : decode cX9_pieceOf 132 = .ok (.goto 4, 3) := by decide +kernel
theorem dX9_pieceOf_135 : decode cX9_pieceOf 135 = .ok (.iconst 0, 1) := by decide +kernel
theorem dX9_pieceOf_136 : decode cX9_pieceOf 136 = .ok (.iadd, 1) := by decide +kernel
theorem dX9_pieceOf_137 : decode cX9_pieceOf 137 = .ok (.istore_n 3, 1) := by decide +kernel
theorem dX9_pieceOf_138 : decode cX9_pieceOf 138 = .ok (.iinc 4 1, 3) := by decide +kernel
theorem dX9_pieceOf_141 : decode cX9_pieceOf 141 = .ok (.goto (-40), 3) := by decide +kernel
theorem dX9_pieceOf_144 : decode cX9_pieceOf 144 = .ok (.iload_n 3, 1) := by decide +kernel
theorem dX9_pieceOf_145 : decode cX9_pieceOf 145 = .ok (.ireturn, 1) := by decide +kernel
theorem dX9_pieceOf_146 : decode cX9_pieceOf 146 = .ok (.aload_n 0, 1) := by decide +kernel
theorem dX9_pieceOf_147 : decode cX9_pieceOf 147 = .ok (.getfield 25, 3) := by decide +kernel
theorem dX9_pieceOf_150 : decode cX9_pieceOf 150 = .ok (.iload_n 1, 1) := by decide +kernel
theorem dX9_pieceOf_151 : decode cX9_pieceOf 151 = .ok (.iaload, 1) := by decide +kernel
theorem dX9_pieceOf_152 : decode cX9_pieceOf 152 = .ok (.ireturn, 1) := by decide +kernel
theorem dX9_pieceOf_153 : decode cX9_pieceOf 153 = .ok (.aload_n 0, 1) := by decide +kernel
theorem dX9_pieceOf_154 : decode cX9_pieceOf 154 = .ok (.bipush (-2), 2) := by decide +kernel
theorem dX9_pieceOf_156 : decode cX9_pieceOf 156 = .ok (.invokevirtual 122, 3) := by decide +kernel
theorem dX9_pieceOf_159 : decode cX9_pieceOf 159 = .ok (.ireturn, 1) := by decide +kernel
theorem dX9_rightOf_0 : decode cX9_rightOf 0 = .ok (.iload_n 1, 1) := by decide +kernel
theorem dX9_rightOf_1 : decode cX9_rightOf 1 = .ok (.aload_n 0, 1) := by decide +kernel
theorem dX9_rightOf_2 : decode cX9_rightOf 2 = .ok (.getfield 148, 3) := by decide +kernel
theorem dX9_rightOf_5 : decode cX9_rightOf 5 = .ok (.invokestatic 134, 3) := by decide +kernel
theorem dX9_rightOf_8 : decode cX9_rightOf 8 = .ok (.ifCond .ne 9, 3) := by decide +kernel
theorem dX9_rightOf_11 : decode cX9_rightOf 11 = .ok (.aload_n 0, 1) := by decide +kernel
theorem dX9_rightOf_12 : decode cX9_rightOf 12 = .ok (.iconst (-1), 1) := by decide +kernel
theorem dX9_rightOf_13 : decode cX9_rightOf 13 = .ok (.invokevirtual 122, 3) := by decide +kernel
theorem dX9_rightOf_16 : decode cX9_rightOf 16 = .ok (.ireturn, 1) := by decide +kernel
theorem dX9_rightOf_17 : decode cX9_rightOf 17 = .ok (.iload_n 2, 1) := by decide +kernel
theorem dX9_rightOf_18 : decode cX9_rightOf 18 = .ok (.tableswitch 126 0 8 #[50, 57, 63, 69, 76, 83, 98, 112, 119], 50) := by decide +kernel
theorem dX9_rightOf_68 : decode cX9_rightOf 68 = .ok (.aload_n 0, 1) := by decide +kernel
theorem dX9_rightOf_69 : decode cX9_rightOf 69 = .ok (.getfield 50, 3) := by decide +kernel
theorem dX9_rightOf_72 : decode cX9_rightOf 72 = .ok (.iload_n 1, 1) := by decide +kernel
theorem dX9_rightOf_73 : decode cX9_rightOf 73 = .ok (.iaload, 1) := by decide +kernel
theorem dX9_rightOf_74 : decode cX9_rightOf 74 = .ok (.ireturn, 1) := by decide +kernel
theorem dX9_rightOf_75 : decode cX9_rightOf 75 = .ok (.aload_n 0, 1) := by decide +kernel
theorem dX9_rightOf_76 : decode cX9_rightOf 76 = .ok (.iload_n 1, 1) := by decide +kernel
theorem dX9_rightOf_77 : decode cX9_rightOf 77 = .ok (.invokevirtual 155, 3) := by decide +kernel
theorem dX9_rightOf_80 : decode cX9_rightOf 80 = .ok (.ireturn, 1) := by decide +kernel
theorem dX9_rightOf_81 : decode cX9_rightOf 81 = .ok (.aload_n 0, 1) := by decide +kernel
theorem dX9_rightOf_82 : decode cX9_rightOf 82 = .ok (.iload_n 1, 1) := by decide +kernel
theorem dX9_rightOf_83 : decode cX9_rightOf 83 = .ok (.invokevirtual 158, 3) := by decide +kernel
theorem dX9_rightOf_86 : decode cX9_rightOf 86 = .ok (.ireturn, 1) := by decide +kernel
theorem dX9_rightOf_87 : decode cX9_rightOf 87 = .ok (.aload_n 0, 1) := by decide +kernel
theorem dX9_rightOf_88 : decode cX9_rightOf 88 = .ok (.getfield 59, 3) := by decide +kernel
theorem dX9_rightOf_91 : decode cX9_rightOf 91 = .ok (.iload_n 1, 1) := by decide +kernel
theorem dX9_rightOf_92 : decode cX9_rightOf 92 = .ok (.iaload, 1) := by decide +kernel
theorem dX9_rightOf_93 : decode cX9_rightOf 93 = .ok (.ireturn, 1) := by decide +kernel
theorem dX9_rightOf_94 : decode cX9_rightOf 94 = .ok (.aload_n 0, 1) := by decide +kernel
theorem dX9_rightOf_95 : decode cX9_rightOf 95 = .ok (.getfield 62, 3) := by decide +kernel
theorem dX9_rightOf_98 : decode cX9_rightOf 98 = .ok (.iload_n 1, 1) := by decide +kernel
theorem dX9_rightOf_99 : decode cX9_rightOf 99 = .ok (.iaload, 1) := by decide +kernel
theorem dX9_rightOf_100 : decode cX9_rightOf 100 = .ok (.ireturn, 1) := by decide +kernel
theorem dX9_rightOf_101 : decode cX9_rightOf 101 = .ok (.aload_n 0, 1) := by decide +kernel
theorem dX9_rightOf_102 : decode cX9_rightOf 102 = .ok (.getfield 74, 3) := by decide +kernel
theorem dX9_rightOf_105 : decode cX9_rightOf 105 = .ok (.iload_n 1, 1) := by decide +kernel
theorem dX9_rightOf_106 : decode cX9_rightOf 106 = .ok (.baload, 1) := by decide +kernel
theorem dX9_rightOf_107 : decode cX9_rightOf 107 = .ok (.ifCond .eq 7, 3) := by decide +kernel
theorem dX9_rightOf_110 : decode cX9_rightOf 110 = .ok (.iconst 1, 1) := by decide +kernel
theorem dX9_rightOf_111 : decode cX9_rightOf 111 = .ok (.goto 4, 3) := by decide +kernel
theorem dX9_rightOf_114 : decode cX9_rightOf 114 = .ok (.iconst 0, 1) := by decide +kernel
theorem dX9_rightOf_115 : decode cX9_rightOf 115 = .ok (.ireturn, 1) := by decide +kernel
theorem dX9_rightOf_116 : decode cX9_rightOf 116 = .ok (.aload_n 0, 1) := by decide +kernel
theorem dX9_rightOf_117 : decode cX9_rightOf 117 = .ok (.iload_n 1, 1) := by decide +kernel
theorem dX9_rightOf_118 : decode cX9_rightOf 118 = .ok (.invokevirtual 144, 3) := by decide +kernel
theorem dX9_rightOf_121 : decode cX9_rightOf 121 = .ok (.ifCond .eq 7, 3) := by decide +kernel
theorem dX9_rightOf_124 : decode cX9_rightOf 124 = .ok (.iconst 1, 1) := by decide +kernel
theorem dX9_rightOf_125 : decode cX9_rightOf 125 = .ok (.goto 4, 3) := by decide +kernel
theorem dX9_rightOf_128 : decode cX9_rightOf 128 = .ok (.iconst 0, 1) := by decide +kernel
theorem dX9_rightOf_129 : decode cX9_rightOf 129 = .ok (.ireturn, 1) := by decide +kernel
theorem dX9_rightOf_130 : decode cX9_rightOf 130 = .ok (.aload_n 0, 1) := by decide +kernel
theorem dX9_rightOf_131 : decode cX9_rightOf 131 = .ok (.getfield 68, 3) := by decide +kernel
theorem dX9_rightOf_134 : decode cX9_rightOf 134 = .ok (.iload_n 1, 1) := by decide +kernel
theorem dX9_rightOf_135 : decode cX9_rightOf 135 = .ok (.iaload, 1) := by decide +kernel
theorem dX9_rightOf_136 : decode cX9_rightOf 136 = .ok (.ireturn, 1) := by decide +kernel
theorem dX9_rightOf_137 : decode cX9_rightOf 137 = .ok (.aload_n 0, 1) := by decide +kernel
theorem dX9_rightOf_138 : decode cX9_rightOf 138 = .ok (.getfield 71, 3) := by decide +kernel
theorem dX9_rightOf_141 : decode cX9_rightOf 141 = .ok (.iload_n 1, 1) := by decide +kernel
theorem dX9_rightOf_142 : decode cX9_rightOf 142 = .ok (.iaload, 1) := by decide +kernel
theorem dX9_rightOf_143 : decode cX9_rightOf 143 = .ok (.ireturn, 1) := by decide +kernel
theorem dX9_rightOf_144 : decode cX9_rightOf 144 = .ok (.aload_n 0, 1) := by decide +kernel
theorem dX9_rightOf_145 : decode cX9_rightOf 145 = .ok (.bipush (-2), 2) := by decide +kernel
theorem dX9_rightOf_147 : decode cX9_rightOf 147 = .ok (.invokevirtual 122, 3) := by decide +kernel
theorem dX9_rightOf_150 : decode cX9_rightOf 150 = .ok (.ireturn, 1) := by decide +kernel
theorem dX9_herdOf_0 : decode cX9_herdOf 0 = .ok (.iload_n 1, 1) := by decide +kernel
theorem dX9_herdOf_1 : decode cX9_herdOf 1 = .ok (.aload_n 0, 1) := by decide +kernel
theorem dX9_herdOf_2 : decode cX9_herdOf 2 = .ok (.getfield 164, 3) := by decide +kernel
theorem dX9_herdOf_5 : decode cX9_herdOf 5 = .ok (.invokestatic 134, 3) := by decide +kernel
theorem dX9_herdOf_8 : decode cX9_herdOf 8 = .ok (.ifCond .ne 9, 3) := by decide +kernel
theorem dX9_herdOf_11 : decode cX9_herdOf 11 = .ok (.aload_n 0, 1) := by decide +kernel
theorem dX9_herdOf_12 : decode cX9_herdOf 12 = .ok (.iconst (-1), 1) := by decide +kernel
theorem dX9_herdOf_13 : decode cX9_herdOf 13 = .ok (.invokevirtual 122, 3) := by decide +kernel
theorem dX9_herdOf_16 : decode cX9_herdOf 16 = .ok (.ireturn, 1) := by decide +kernel
theorem dX9_herdOf_17 : decode cX9_herdOf 17 = .ok (.iload_n 2, 1) := by decide +kernel
theorem dX9_herdOf_18 : decode cX9_herdOf 18 = .ok (.tableswitch 90 0 6 #[42, 49, 56, 63, 70, 77, 84], 42) := by decide +kernel
theorem dX9_herdOf_60 : decode cX9_herdOf 60 = .ok (.aload_n 0, 1) := by decide +kernel
theorem dX9_herdOf_61 : decode cX9_herdOf 61 = .ok (.getfield 80, 3) := by decide +kernel
theorem dX9_herdOf_64 : decode cX9_herdOf 64 = .ok (.iload_n 1, 1) := by decide +kernel
theorem dX9_herdOf_65 : decode cX9_herdOf 65 = .ok (.iaload, 1) := by decide +kernel
theorem dX9_herdOf_66 : decode cX9_herdOf 66 = .ok (.ireturn, 1) := by decide +kernel
theorem dX9_herdOf_67 : decode cX9_herdOf 67 = .ok (.aload_n 0, 1) := by decide +kernel
theorem dX9_herdOf_68 : decode cX9_herdOf 68 = .ok (.getfield 83, 3) := by decide +kernel
theorem dX9_herdOf_71 : decode cX9_herdOf 71 = .ok (.iload_n 1, 1) := by decide +kernel
theorem dX9_herdOf_72 : decode cX9_herdOf 72 = .ok (.iaload, 1) := by decide +kernel
theorem dX9_herdOf_73 : decode cX9_herdOf 73 = .ok (.ireturn, 1) := by decide +kernel
theorem dX9_herdOf_74 : decode cX9_herdOf 74 = .ok (.aload_n 0, 1) := by decide +kernel
theorem dX9_herdOf_75 : decode cX9_herdOf 75 = .ok (.getfield 86, 3) := by decide +kernel
theorem dX9_herdOf_78 : decode cX9_herdOf 78 = .ok (.iload_n 1, 1) := by decide +kernel
theorem dX9_herdOf_79 : decode cX9_herdOf 79 = .ok (.iaload, 1) := by decide +kernel
theorem dX9_herdOf_80 : decode cX9_herdOf 80 = .ok (.ireturn, 1) := by decide +kernel
theorem dX9_herdOf_81 : decode cX9_herdOf 81 = .ok (.aload_n 0, 1) := by decide +kernel
