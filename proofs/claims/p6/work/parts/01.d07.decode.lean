theorem dX9_pieceOf_1 : decode cX9_pieceOf 1 = .ok (.aload_n 0, 1) := by decide +kernel
theorem dX9_pieceOf_2 : decode cX9_pieceOf 2 = .ok (.getfield 127, 3) := by decide +kernel
theorem dX9_pieceOf_5 : decode cX9_pieceOf 5 = .ok (.invokestatic 134, 3) := by decide +kernel
theorem dX9_pieceOf_8 : decode cX9_pieceOf 8 = .ok (.ifCond .ne 9, 3) := by decide +kernel
theorem dX9_pieceOf_11 : decode cX9_pieceOf 11 = .ok (.aload_n 0, 1) := by decide +kernel
theorem dX9_pieceOf_12 : decode cX9_pieceOf 12 = .ok (.iconst (-1), 1) := by decide +kernel
theorem dX9_pieceOf_13 : decode cX9_pieceOf 13 = .ok (.invokevirtual 122, 3) := by decide +kernel
theorem dX9_pieceOf_16 : decode cX9_pieceOf 16 = .ok (.ireturn, 1) := by decide +kernel
theorem dX9_pieceOf_17 : decode cX9_pieceOf 17 = .ok (.iconst 0, 1) := by decide +kernel
theorem dX9_pieceOf_18 : decode cX9_pieceOf 18 = .ok (.istore_n 3, 1) := by decide +kernel
theorem dX9_pieceOf_19 : decode cX9_pieceOf 19 = .ok (.iload_n 2, 1) := by decide +kernel
theorem dX9_pieceOf_20 : decode cX9_pieceOf 20 = .ok (.tableswitch 133 0 6 #[44, 51, 58, 65, 72, 78, 126], 44) := by decide +kernel
theorem dX9_pieceOf_64 : decode cX9_pieceOf 64 = .ok (.aload_n 0, 1) := by decide +kernel
theorem dX9_pieceOf_65 : decode cX9_pieceOf 65 = .ok (.getfield 13, 3) := by decide +kernel
theorem dX9_pieceOf_68 : decode cX9_pieceOf 68 = .ok (.iload_n 1, 1) := by decide +kernel
theorem dX9_pieceOf_69 : decode cX9_pieceOf 69 = .ok (.iaload, 1) := by decide +kernel
theorem dX9_pieceOf_70 : decode cX9_pieceOf 70 = .ok (.ireturn, 1) := by decide +kernel
theorem dX9_pieceOf_71 : decode cX9_pieceOf 71 = .ok (.aload_n 0, 1) := by decide +kernel
theorem dX9_pieceOf_72 : decode cX9_pieceOf 72 = .ok (.getfield 16, 3) := by decide +kernel
theorem dX9_pieceOf_75 : decode cX9_pieceOf 75 = .ok (.iload_n 1, 1) := by decide +kernel
theorem dX9_pieceOf_76 : decode cX9_pieceOf 76 = .ok (.iaload, 1) := by decide +kernel
theorem dX9_pieceOf_77 : decode cX9_pieceOf 77 = .ok (.ireturn, 1) := by decide +kernel
theorem dX9_pieceOf_78 : decode cX9_pieceOf 78 = .ok (.aload_n 0, 1) := by decide +kernel
theorem dX9_pieceOf_79 : decode cX9_pieceOf 79 = .ok (.getfield 19, 3) := by decide +kernel
theorem dX9_pieceOf_82 : decode cX9_pieceOf 82 = .ok (.iload_n 1, 1) := by decide +kernel
theorem dX9_pieceOf_83 : decode cX9_pieceOf 83 = .ok (.iaload, 1) := by decide +kernel
theorem dX9_pieceOf_84 : decode cX9_pieceOf 84 = .ok (.ireturn, 1) := by decide +kernel
theorem dX9_pieceOf_85 : decode cX9_pieceOf 85 = .ok (.aload_n 0, 1) := by decide +kernel
theorem dX9_pieceOf_86 : decode cX9_pieceOf 86 = .ok (.getfield 22, 3) := by decide +kernel
theorem dX9_pieceOf_89 : decode cX9_pieceOf 89 = .ok (.iload_n 1, 1) := by decide +kernel
theorem dX9_pieceOf_90 : decode cX9_pieceOf 90 = .ok (.iaload, 1) := by decide +kernel
theorem dX9_pieceOf_91 : decode cX9_pieceOf 91 = .ok (.ireturn, 1) := by decide +kernel
theorem dX9_pieceOf_92 : decode cX9_pieceOf 92 = .ok (.aload_n 0, 1) := by decide +kernel
theorem dX9_pieceOf_93 : decode cX9_pieceOf 93 = .ok (.iload_n 1, 1) := by decide +kernel
theorem dX9_pieceOf_94 : decode cX9_pieceOf 94 = .ok (.invokevirtual 191, 3) := by decide +kernel
theorem dX9_pieceOf_97 : decode cX9_pieceOf 97 = .ok (.ireturn, 1) := by decide +kernel
theorem dX9_pieceOf_98 : decode cX9_pieceOf 98 = .ok (.iconst 0, 1) := by decide +kernel
theorem dX9_pieceOf_99 : decode cX9_pieceOf 99 = .ok (.istore 4, 2) := by decide +kernel
theorem dX9_pieceOf_101 : decode cX9_pieceOf 101 = .ok (.iload 4, 2) := by decide +kernel
theorem dX9_pieceOf_103 : decode cX9_pieceOf 103 = .ok (.aload_n 0, 1) := by decide +kernel
theorem dX9_pieceOf_104 : decode cX9_pieceOf 104 = .ok (.getfield 164, 3) := by decide +kernel
theorem dX9_pieceOf_107 : decode cX9_pieceOf 107 = .ok (.if_icmp .ge 37, 3) := by decide +kernel
theorem dX9_pieceOf_110 : decode cX9_pieceOf 110 = .ok (.iload_n 3, 1) := by decide +kernel
theorem dX9_pieceOf_111 : decode cX9_pieceOf 111 = .ok (.aload_n 0, 1) := by decide +kernel
theorem dX9_pieceOf_112 : decode cX9_pieceOf 112 = .ok (.iload 4, 2) := by decide +kernel
theorem dX9_pieceOf_114 : decode cX9_pieceOf 114 = .ok (.invokevirtual 167, 3) := by decide +kernel
theorem dX9_pieceOf_117 : decode cX9_pieceOf 117 = .ok (.ifCond .eq 18, 3) := by decide +kernel
theorem dX9_pieceOf_120 : decode cX9_pieceOf 120 = .ok (.aload_n 0, 1) := by decide +kernel
theorem dX9_pieceOf_121 : decode cX9_pieceOf 121 = .ok (.getfield 89, 3) := by decide +kernel
theorem dX9_pieceOf_124 : decode cX9_pieceOf 124 = .ok (.iload 4, 2) := by decide +kernel
theorem dX9_pieceOf_126 : decode cX9_pieceOf 126 = .ok (.iaload, 1) := by decide +kernel
theorem dX9_pieceOf_127 : decode cX9_pieceOf 127 = .ok (.iload_n 1, 1) := by decide +kernel
theorem dX9_pieceOf_128 : decode cX9_pieceOf 128 = .ok (.if_icmp .ne 7, 3) := by decide +kernel
theorem dX9_pieceOf_131 : decode cX9_pieceOf 131 = .ok (.iconst 1, 1) := by decide +kernel
theorem dX9_pieceOf_132 : decode cX9_pieceOf 132 = .ok (.goto 4, 3) := by decide +kernel
theorem dX9_pieceOf_135 : decode cX9_pieceOf 135 = .ok (.iconst 0, 1) := by decide +kernel
theorem dX9_pieceOf_136 : decode cX9_pieceOf 136 = .ok (.iadd, 1) := by decide +kernel
theorem dX9_pieceOf_137 : decode cX9_pieceOf 137 = .ok (.istore_n 3, 1) := by decide +kernel
theorem dX9_pieceOf_138 : decode cX9_pieceOf 138 = .ok (.iinc 4 1, 3) := by decide +kernel
theorem dX9_pieceOf_141 : decode cX9_pieceOf 141 = .ok (.goto (-40), 3) := by decide +kernel
theorem dX9_pieceOf_144 : decode cX9_pieceOf 144 = .ok (.iload_n 3, 1) := by decide +kernel
theorem dX9_pieceOf_145 : decode cX9_pieceOf 145 = .ok (.ireturn, 1) := by decide +kernel
theorem dX9_pieceOf_146 : decode cX9_pieceOf 146 = .ok (.aload_n 0, 1) := by decide +kernel
theorem dX9_pieceOf_147 : decode cX9_pieceOf 147 = .ok (.getfield 25, 3) := by decide +kernel
theorem dX9_pieceOf_150 : decode cX9_pieceOf 150 = .ok (.iload_n 1, 1) := by decide +kernel
theorem dX9_pieceOf_151 : decode cX9_pieceOf 151 = .ok (.iaload, 1) := by decide +kernel
theorem dX9_pieceOf_152 : decode cX9_pieceOf 152 = .ok (.ireturn, 1) := by decide +kernel
theorem dX9_pieceOf_153 : decode cX9_pieceOf 153 = .ok (.aload_n 0, 1) := by decide +kernel
theorem dX9_pieceOf_154 : decode cX9_pieceOf 154 = .ok (.bipush (-2), 2) := by decide +kernel
theorem dX9_pieceOf_156 : decode cX9_pieceOf 156 = .ok (.invokevirtual 122, 3) := by decide +kernel
theorem dX9_pieceOf_159 : decode cX9_pieceOf 159 = .ok (.ireturn, 1) := by decide +kernel
theorem dX9_rightOf_0 : decode cX9_rightOf 0 = .ok (.iload_n 1, 1) := by decide +kernel
theorem dX9_rightOf_1 : decode cX9_rightOf 1 = .ok (.aload_n 0, 1) := by decide +kernel
theorem dX9_rightOf_2 : decode cX9_rightOf 2 = .ok (.getfield 148, 3) := by decide +kernel
theorem dX9_rightOf_5 : decode cX9_rightOf 5 = .ok (.invokestatic 134, 3) := by decide +kernel
theorem dX9_rightOf_8 : decode cX9_rightOf 8 = .ok (.ifCond .ne 9, 3) := by decide +kernel
theorem dX9_rightOf_11 : decode cX9_rightOf 11 = .ok (.aload_n 0, 1) := by decide +kernel
theorem dX9_rightOf_12 : decode cX9_rightOf 12 = .ok (.iconst (-1), 1) := by decide +kernel
theorem dX9_rightOf_13 : decode cX9_rightOf 13 = .ok (.invokevirtual 122, 3) := by decide +kernel
theorem dX9_rightOf_16 : decode cX9_rightOf 16 = .ok (.ireturn, 1) := by decide +kernel
theorem dX9_rightOf_17 : decode cX9_rightOf 17 = .ok (.iload_n 2, 1) := by decide +kernel
theorem dX9_rightOf_18 : decode cX9_rightOf 18 = .ok (.tableswitch 126 0 8 #[50, 57, 63, 69, 76, 83, 98, 112, 119], 50) := by decide +kernel
theorem dX9_rightOf_68 : decode cX9_rightOf 68 = .ok (.aload_n 0, 1) := by decide +kernel
theorem dX9_rightOf_69 : decode cX9_rightOf 69 = .ok (.getfield 50, 3) := by decide +kernel
theorem dX9_rightOf_72 : decode cX9_rightOf 72 = .ok (.iload_n 1, 1) := by decide +kernel
theorem dX9_rightOf_73 : decode cX9_rightOf 73 = .ok (.iaload, 1) := by decide +kernel
theorem dX9_rightOf_74 : decode cX9_rightOf 74 = .ok (.ireturn, 1) := by decide +kernel
theorem dX9_rightOf_75 : decode cX9_rightOf 75 = .ok (.aload_n 0, 1) := by decide +kernel
theorem dX9_rightOf_76 : decode cX9_rightOf 76 = .ok (.iload_n 1, 1) := by decide +kernel
theorem dX9_rightOf_77 : decode cX9_rightOf 77 = .ok (.invokevirtual 155, 3) := by decide +kernel
theorem dX9_rightOf_80 : decode cX9_rightOf 80 = .ok (.ireturn, 1) := by decide +kernel
theorem dX9_rightOf_81 : decode cX9_rightOf 81 = .ok (.aload_n 0, 1) := by decide +kernel
theorem dX9_rightOf_82 : decode cX9_rightOf 82 = .ok (.iload_n 1, 1) := by decide +kernel
theorem dX9_rightOf_83 : decode cX9_rightOf 83 = .ok (.invokevirtual 158, 3) := by decide +kernel
theorem dX9_rightOf_86 : decode cX9_rightOf 86 = .ok (.ireturn, 1) := by decide +kernel
theorem dX9_rightOf_87 : decode cX9_rightOf 87 = .ok (.aload_n 0, 1) := by decide +kernel
theorem dX9_rightOf_88 : decode cX9_rightOf 88 = .ok (.getfield 59, 3) := by decide +kernel
theorem dX9_rightOf_91 : decode cX9_rightOf 91 = .ok (.iload_n 1, 1) := by decide +kernel
theorem dX9_rightOf_92 : decode cX9_rightOf 92 = .ok (.iaload, 1) := by decide +kernel
theorem dX9_rightOf_93 : decode cX9_rightOf 93 = .ok (.ireturn, 1) := by decide +kernel
theorem dX9_rightOf_94 : decode cX9_rightOf 94 = .ok (.aload_n 0, 1) := by decide +kernel
theorem dX9_rightOf_95 : decode cX9_rightOf 95 = .ok (.getfield 62, 3) := by decide +kernel
theorem dX9_rightOf_98 : decode cX9_rightOf 98 = .ok (.iload_n 1, 1) := by decide +kernel
theorem dX9_rightOf_99 : decode cX9_rightOf 99 = .ok (.iaload, 1) := by decide +kernel
theorem dX9_rightOf_100 : decode cX9_rightOf 100 = .ok (.ireturn, 1) := by decide +kernel
theorem dX9_rightOf_101 : decode cX9_rightOf 101 = .ok (.aload_n 0, 1) := by decide +kernel
theorem dX9_rightOf_102 : decode cX9_rightOf 102 = .ok (.getfield 74, 3) := by decide +kernel
theorem dX9_rightOf_105 : decode cX9_rightOf 105 = .ok (.iload_n 1, 1) := by decide +kernel
theorem dX9_rightOf_106 : decode cX9_rightOf 106 = .ok (.baload, 1) := by decide +kernel
theorem dX9_rightOf_107 : decode cX9_rightOf 107 = .ok (.ifCond .eq 7, 3) := by decide +kernel
theorem dX9_rightOf_110 : decode cX9_rightOf 110 = .ok (.iconst 1, 1) := by decide +kernel
theorem dX9_rightOf_111 : decode cX9_rightOf 111 = .ok (.goto 4, 3) := by decide +kernel
theorem dX9_rightOf_114 : decode cX9_rightOf 114 = .ok (.iconst 0, 1) := by decide +kernel
theorem dX9_rightOf_115 : decode cX9_rightOf 115 = .ok (.ireturn, 1) := by decide +kernel
theorem dX9_rightOf_116 : decode cX9_rightOf 116 = .ok (.aload_n 0, 1) := by decide +kernel
theorem dX9_rightOf_117 : decode cX9_rightOf 117 = .ok (.iload_n 1, 1) := by decide +kernel
theorem dX9_rightOf_118 : decode cX9_rightOf 118 = .ok (.invokevirtual 144, 3) := by decide +kernel
theorem dX9_rightOf_121 : decode cX9_rightOf 121 = .ok (.ifCond .eq 7, 3) := by decide +kernel
theorem dX9_rightOf_124 : decode cX9_rightOf 124 = .ok (.iconst 1, 1) := by decide +kernel
theorem dX9_rightOf_125 : decode cX9_rightOf 125 = .ok (.goto 4, 3) := by decide +kernel
theorem dX9_rightOf_128 : decode cX9_rightOf 128 = .ok (.iconst 0, 1) := by decide +kernel
theorem dX9_rightOf_129 : decode cX9_rightOf 129 = .ok (.ireturn, 1) := by decide +kernel
theorem dX9_rightOf_130 : decode cX9_rightOf 130 = .ok (.aload_n 0, 1) := by decide +kernel
theorem dX9_rightOf_131 : decode cX9_rightOf 131 = .ok (.getfield 68, 3) := by decide +kernel
theorem dX9_rightOf_134 : decode cX9_rightOf 134 = .ok (.iload_n 1, 1) := by decide +kernel
theorem dX9_rightOf_135 : decode cX9_rightOf 135 = .ok (.iaload, 1) := by decide +kernel
theorem dX9_rightOf_136 : decode cX9_rightOf 136 = .ok (.ireturn, 1) := by decide +kernel
theorem dX9_rightOf_137 : decode cX9_rightOf 137 = .ok (.aload_n 0, 1) := by decide +kernel
theorem dX9_rightOf_138 : decode cX9_rightOf 138 = .ok (.getfield 71, 3) := by decide +kernel
theorem dX9_rightOf_141 : decode cX9_rightOf 141 = .ok (.iload_n 1, 1) := by decide +kernel
theorem dX9_rightOf_142 : decode cX9_rightOf 142 = .ok (.iaload, 1) := by decide +kernel
theorem dX9_rightOf_143 : decode cX9_rightOf 143 = .ok (.ireturn, 1) := by decide +kernel
theorem dX9_rightOf_144 : decode cX9_rightOf 144 = .ok (.aload_n 0, 1) := by decide +kernel
theorem dX9_rightOf_145 : decode cX9_rightOf 145 = .ok (.bipush (-2), 2) := by decide +kernel
theorem dX9_rightOf_147 : decode cX9_rightOf 147 = .ok (.invokevirtual 122, 3) := by decide +kernel
theorem dX9_rightOf_150 : decode cX9_rightOf 150 = .ok (.ireturn, 1) := by decide +kernel
theorem dX9_herdOf_0 : decode cX9_herdOf 0 = .ok (.iload_n 1, 1) := by decide +kernel
theorem dX9_herdOf_1 : decode cX9_herdOf 1 = .ok (.aload_n 0, 1) := by decide +kernel
theorem dX9_herdOf_2 : decode cX9_herdOf 2 = .ok (.getfield 164, 3) := by decide +kernel
theorem dX9_herdOf_5 : decode cX9_herdOf 5 = .ok (.invokestatic 134, 3) := by decide +kernel
theorem dX9_herdOf_8 : decode cX9_herdOf 8 = .ok (.ifCond .ne 9, 3) := by decide +kernel
theorem dX9_herdOf_11 : decode cX9_herdOf 11 = .ok (.aload_n 0, 1) := by decide +kernel
theorem dX9_herdOf_12 : decode cX9_herdOf 12 = .ok (.iconst (-1), 1) := by decide +kernel
theorem dX9_herdOf_13 : decode cX9_herdOf 13 = .ok (.invokevirtual 122, 3) := by decide +kernel
theorem dX9_herdOf_16 : decode cX9_herdOf 16 = .ok (.ireturn, 1) := by decide +kernel
theorem dX9_herdOf_17 : decode cX9_herdOf 17 = .ok (.iload_n 2, 1) := by decide +kernel
theorem dX9_herdOf_18 : decode cX9_herdOf 18 = .ok (.tableswitch 90 0 6 #[42, 49, 56, 63, 70, 77, 84], 42) := by decide +kernel
theorem dX9_herdOf_60 : decode cX9_herdOf 60 = .ok (.aload_n 0, 1) := by decide +kernel
theorem dX9_herdOf_61 : decode cX9_herdOf 61 = .ok (.getfield 80, 3) := by decide +kernel
theorem dX9_herdOf_64 : decode cX9_herdOf 64 = .ok (.iload_n 1, 1) := by decide +kernel
theorem dX9_herdOf_65 : decode cX9_herdOf 65 = .ok (.iaload, 1) := by decide +kernel
theorem dX9_herdOf_66 : decode cX9_herdOf 66 = .ok (.ireturn, 1) := by decide +kernel
theorem dX9_herdOf_67 : decode cX9_herdOf 67 = .ok (.aload_n 0, 1) := by decide +kernel
theorem dX9_herdOf_68 : decode cX9_herdOf 68 = .ok (.getfield 83, 3) := by decide +kernel
theorem dX9_herdOf_71 : decode cX9_herdOf 71 = .ok (.iload_n 1, 1) := by decide +kernel
theorem dX9_herdOf_72 : decode cX9_herdOf 72 = .ok (.iaload, 1) := by decide +kernel
theorem dX9_herdOf_73 : decode cX9_herdOf 73 = .ok (.ireturn, 1) := by decide +kernel
theorem dX9_herdOf_74 : decode cX9_herdOf 74 = .ok (.aload_n 0, 1) := by decide +kernel
theorem dX9_herdOf_75 : decode cX9_herdOf 75 = .ok (.getfield 86, 3) := by decide +kernel
theorem dX9_herdOf_78 : decode cX9_herdOf 78 = .ok (.iload_n 1, 1) := by decide +kernel
theorem dX9_herdOf_79 : decode cX9_herdOf 79 = .ok (.iaload, 1) := by decide +kernel
theorem dX9_herdOf_80 : decode cX9_herdOf 80 = .ok (.ireturn, 1) := by decide +kernel
theorem dX9_herdOf_81 : decode cX9_herdOf 81 = .ok (.aload_n 0, 1) := by decide +kernel
theorem dX9_herdOf_82 : decode cX9_herdOf 82 = .ok (.getfield 89, 3) := by decide +kernel
theorem dX9_herdOf_85 : decode cX9_herdOf 85 = .ok (.iload_n 1, 1) := by decide +kernel
theorem dX9_herdOf_86 : decode cX9_herdOf 86 = .ok (.iaload, 1) := by decide +kernel
theorem dX9_herdOf_87 : decode cX9_herdOf 87 = .ok (.ireturn, 1) := by decide +kernel
theorem dX9_herdOf_88 : decode cX9_herdOf 88 = .ok (.aload_n 0, 1) := by decide +kernel
theorem dX9_herdOf_89 : decode cX9_herdOf 89 = .ok (.getfield 95, 3) := by decide +kernel
theorem dX9_herdOf_92 : decode cX9_herdOf 92 = .ok (.iload_n 1, 1) := by decide +kernel
theorem dX9_herdOf_93 : decode cX9_herdOf 93 = .ok (.iaload, 1) := by decide +kernel
theorem dX9_herdOf_94 : decode cX9_herdOf 94 = .ok (.ireturn, 1) := by decide +kernel
theorem dX9_herdOf_95 : decode cX9_herdOf 95 = .ok (.aload_n 0, 1) := by decide +kernel
theorem dX9_herdOf_96 : decode cX9_herdOf 96 = .ok (.getfield 98, 3) := by decide +kernel
theorem dX9_herdOf_99 : decode cX9_herdOf 99 = .ok (.iload_n 1, 1) := by decide +kernel
theorem dX9_herdOf_100 : decode cX9_herdOf 100 = .ok (.iaload, 1) := by decide +kernel
theorem dX9_herdOf_101 : decode cX9_herdOf 101 = .ok (.ireturn, 1) := by decide +kernel
theorem dX9_herdOf_102 : decode cX9_herdOf 102 = .ok (.aload_n 0, 1) := by decide +kernel
theorem dX9_herdOf_103 : decode cX9_herdOf 103 = .ok (.iload_n 1, 1) := by decide +kernel
theorem dX9_herdOf_104 : decode cX9_herdOf 104 = .ok (.invokevirtual 239, 3) := by decide +kernel
theorem dX9_herdOf_107 : decode cX9_herdOf 107 = .ok (.ireturn, 1) := by decide +kernel
theorem dX9_herdOf_108 : decode cX9_herdOf 108 = .ok (.aload_n 0, 1) := by decide +kernel
theorem dX9_herdOf_109 : decode cX9_herdOf 109 = .ok (.bipush (-2), 2) := by decide +kernel
theorem dX9_herdOf_111 : decode cX9_herdOf 111 = .ok (.invokevirtual 122, 3) := by decide +kernel
theorem dX9_herdOf_114 : decode cX9_herdOf 114 = .ok (.ireturn, 1) := by decide +kernel
theorem dX9_ownerOf_0 : decode cX9_ownerOf 0 = .ok (.iload_n 1, 1) := by decide +kernel
theorem dX9_ownerOf_1 : decode cX9_ownerOf 1 = .ok (.iconst (-1), 1) := by decide +kernel
theorem dX9_ownerOf_2 : decode cX9_ownerOf 2 = .ok (.if_icmp .eq 20, 3) := by decide +kernel
theorem dX9_ownerOf_5 : decode cX9_ownerOf 5 = .ok (.iload_n 1, 1) := by decide +kernel
theorem dX9_ownerOf_6 : decode cX9_ownerOf 6 = .ok (.aload_n 0, 1) := by decide +kernel
theorem dX9_ownerOf_7 : decode cX9_ownerOf 7 = .ok (.getfield 131, 3) := by decide +kernel
theorem dX9_ownerOf_10 : decode cX9_ownerOf 10 = .ok (.invokestatic 134, 3) := by decide +kernel
theorem dX9_ownerOf_13 : decode cX9_ownerOf 13 = .ok (.ifCond .ne 9, 3) := by decide +kernel
theorem dX9_ownerOf_16 : decode cX9_ownerOf 16 = .ok (.aload_n 0, 1) := by decide +kernel
theorem dX9_ownerOf_17 : decode cX9_ownerOf 17 = .ok (.iconst (-1), 1) := by decide +kernel
theorem dX9_ownerOf_18 : decode cX9_ownerOf 18 = .ok (.invokevirtual 122, 3) := by decide +kernel
theorem dX9_ownerOf_21 : decode cX9_ownerOf 21 = .ok (.ireturn, 1) := by decide +kernel
theorem dX9_ownerOf_22 : decode cX9_ownerOf 22 = .ok (.iconst 0, 1) := by decide +kernel
theorem dX9_ownerOf_23 : decode cX9_ownerOf 23 = .ok (.istore_n 3, 1) := by decide +kernel
theorem dX9_ownerOf_24 : decode cX9_ownerOf 24 = .ok (.iload_n 2, 1) := by decide +kernel
theorem dX9_ownerOf_25 : decode cX9_ownerOf 25 = .ok (.tableswitch 163 0 3 #[31, 49, 67, 120], 31) := by decide +kernel
theorem dX9_ownerOf_56 : decode cX9_ownerOf 56 = .ok (.iload_n 1, 1) := by decide +kernel
theorem dX9_ownerOf_57 : decode cX9_ownerOf 57 = .ok (.ifCond .ge 10, 3) := by decide +kernel
theorem dX9_ownerOf_60 : decode cX9_ownerOf 60 = .ok (.aload_n 0, 1) := by decide +kernel
theorem dX9_ownerOf_61 : decode cX9_ownerOf 61 = .ok (.getfield 205, 3) := by decide +kernel
theorem dX9_ownerOf_64 : decode cX9_ownerOf 64 = .ok (.goto 9, 3) := by decide +kernel
theorem dX9_ownerOf_67 : decode cX9_ownerOf 67 = .ok (.aload_n 0, 1) := by decide +kernel
theorem dX9_ownerOf_68 : decode cX9_ownerOf 68 = .ok (.getfield 32, 3) := by decide +kernel
theorem dX9_ownerOf_71 : decode cX9_ownerOf 71 = .ok (.iload_n 1, 1) := by decide +kernel
theorem dX9_ownerOf_72 : decode cX9_ownerOf 72 = .ok (.iaload, 1) := by decide +kernel
theorem dX9_ownerOf_73 : decode cX9_ownerOf 73 = .ok (.ireturn, 1) := by decide +kernel
theorem dX9_ownerOf_74 : decode cX9_ownerOf 74 = .ok (.iload_n 1, 1) := by decide +kernel
theorem dX9_ownerOf_75 : decode cX9_ownerOf 75 = .ok (.ifCond .ge 10, 3) := by decide +kernel
theorem dX9_ownerOf_78 : decode cX9_ownerOf 78 = .ok (.aload_n 0, 1) := by decide +kernel
theorem dX9_ownerOf_79 : decode cX9_ownerOf 79 = .ok (.getfield 236, 3) := by decide +kernel
theorem dX9_ownerOf_82 : decode cX9_ownerOf 82 = .ok (.goto 9, 3) := by decide +kernel
theorem dX9_ownerOf_85 : decode cX9_ownerOf 85 = .ok (.aload_n 0, 1) := by decide +kernel
theorem dX9_ownerOf_86 : decode cX9_ownerOf 86 = .ok (.getfield 35, 3) := by decide +kernel
theorem dX9_ownerOf_89 : decode cX9_ownerOf 89 = .ok (.iload_n 1, 1) := by decide +kernel
theorem dX9_ownerOf_90 : decode cX9_ownerOf 90 = .ok (.iaload, 1) := by decide +kernel
theorem dX9_ownerOf_91 : decode cX9_ownerOf 91 = .ok (.ireturn, 1) := by decide +kernel
theorem dX9_ownerOf_92 : decode cX9_ownerOf 92 = .ok (.iconst 0, 1) := by decide +kernel
theorem dX9_ownerOf_93 : decode cX9_ownerOf 93 = .ok (.istore 4, 2) := by decide +kernel
theorem dX9_ownerOf_95 : decode cX9_ownerOf 95 = .ok (.iload 4, 2) := by decide +kernel
theorem dX9_ownerOf_97 : decode cX9_ownerOf 97 = .ok (.aload_n 0, 1) := by decide +kernel
theorem dX9_ownerOf_98 : decode cX9_ownerOf 98 = .ok (.getfield 164, 3) := by decide +kernel
theorem dX9_ownerOf_101 : decode cX9_ownerOf 101 = .ok (.if_icmp .ge 42, 3) := by decide +kernel
theorem dX9_ownerOf_104 : decode cX9_ownerOf 104 = .ok (.iload_n 3, 1) := by decide +kernel
theorem dX9_ownerOf_105 : decode cX9_ownerOf 105 = .ok (.aload_n 0, 1) := by decide +kernel
theorem dX9_ownerOf_106 : decode cX9_ownerOf 106 = .ok (.iload 4, 2) := by decide +kernel
theorem dX9_ownerOf_108 : decode cX9_ownerOf 108 = .ok (.invokevirtual 167, 3) := by decide +kernel
theorem dX9_ownerOf_111 : decode cX9_ownerOf 111 = .ok (.ifCond .eq 23, 3) := by decide +kernel
theorem dX9_ownerOf_114 : decode cX9_ownerOf 114 = .ok (.aload_n 0, 1) := by decide +kernel
theorem dX9_ownerOf_115 : decode cX9_ownerOf 115 = .ok (.getfield 80, 3) := by decide +kernel
theorem dX9_ownerOf_118 : decode cX9_ownerOf 118 = .ok (.iload 4, 2) := by decide +kernel
theorem dX9_ownerOf_120 : decode cX9_ownerOf 120 = .ok (.iaload, 1) := by decide +kernel
theorem dX9_ownerOf_121 : decode cX9_ownerOf 121 = .ok (.iload_n 1, 1) := by decide +kernel
theorem dX9_ownerOf_122 : decode cX9_ownerOf 122 = .ok (.if_icmp .ne 12, 3) := by decide +kernel
theorem dX9_ownerOf_125 : decode cX9_ownerOf 125 = .ok (.aload_n 0, 1) := by decide +kernel
theorem dX9_ownerOf_126 : decode cX9_ownerOf 126 = .ok (.iload 4, 2) := by decide +kernel
theorem dX9_ownerOf_128 : decode cX9_ownerOf 128 = .ok (.invokevirtual 170, 3) := by decide +kernel
theorem dX9_ownerOf_131 : decode cX9_ownerOf 131 = .ok (.goto 4, 3) := by decide +kernel
theorem dX9_ownerOf_134 : decode cX9_ownerOf 134 = .ok (.iconst 0, 1) := by decide +kernel
theorem dX9_ownerOf_135 : decode cX9_ownerOf 135 = .ok (.iadd, 1) := by decide +kernel
theorem dX9_ownerOf_136 : decode cX9_ownerOf 136 = .ok (.istore_n 3, 1) := by decide +kernel
theorem dX9_ownerOf_137 : decode cX9_ownerOf 137 = .ok (.iinc 4 1, 3) := by decide +kernel
theorem dX9_ownerOf_140 : decode cX9_ownerOf 140 = .ok (.goto (-45), 3) := by decide +kernel
theorem dX9_ownerOf_143 : decode cX9_ownerOf 143 = .ok (.iload_n 3, 1) := by decide +kernel
theorem dX9_ownerOf_144 : decode cX9_ownerOf 144 = .ok (.ireturn, 1) := by decide +kernel
theorem dX9_ownerOf_145 : decode cX9_ownerOf 145 = .ok (.iconst 0, 1) := by decide +kernel
