theorem dX9_rightOf_144 : decode cX9_rightOf 144 = .ok (.aload_n 0, 1) := by decide +kernel
theorem dX9_rightOf_145 : decode cX9_rightOf 145 = .ok (.bipush (-2), 2) := by decide +kernel
theorem dX9_rightOf_147 : decode cX9_rightOf 147 = .ok (.invokevirtual 122, 3) := by decide +kernel
theorem dX9_rightOf_150 : decode cX9_rightOf 150 = .ok (.ireturn, 1) := by decide +kernel
theorem dX9_herdOf_0 : decode cX9_herdOf 0 = .ok (.iload_n 1, 1) := by decide +kernel
theorem dX9_herdOf_1 : decode cX9_herdOf 1 = .ok (.aload_n 0, 1) := by decide +kernel
theorem dX9_herdOf_2 : decode cX9_herdOf 2 = .ok (.getfield 164, 3) := by decide +kernel
theorem dX9_herdOf_5 : decode cX9_herdOf 5 = .ok (.invokestatic 134, 3) := by decide +kernel
theorem dX9_herdOf_8 : decode cX9_herdOf 8 = .ok (.ifCond .ne 9, 3) := by decide +kernel
theorem dX9_herdOf_11 : decode cX9_herdOf 11 = .ok (.aload_n 0, 1) := by decide +kernel
theorem dX9_herdOf_12 : decode cX9_herdOf 12 = .ok (.iconst (-1), 1) := by decide +kernel
theorem dX9_herdOf_13 : decode cX9_herdOf 13 = .ok (.invokevirtual 122, 3) := by decide +kernel
theorem dX9_herdOf_16 : decode cX9_herdOf 16 = .ok (.ireturn, 1) := by decide +kernel
theorem dX9_herdOf_17 : decode cX9_herdOf 17 = .ok (.iload_n 2, 1) := by decide +kernel
theorem dX9_herdOf_18 : decode cX9_herdOf 18 = .ok (.tableswitch 90 0 6 #[42, 49, 56, 63, 70, 77, 84], 42) := by decide +kernel
theorem dX9_herdOf_60 : decode cX9_herdOf 60 = .ok (.aload_n 0, 1) := by decide +kernel
theorem dX9_herdOf_61 : decode cX9_herdOf 61 = .ok (.getfield 80, 3) := by decide +kernel
theorem dX9_herdOf_64 : decode cX9_herdOf 64 = .ok (.iload_n 1, 1) := by decide +kernel
theorem dX9_herdOf_65 : decode cX9_herdOf 65 = .ok (.iaload, 1) := by decide +kernel
theorem dX9_herdOf_66 : decode cX9_herdOf 66 = .ok (.ireturn, 1) := by decide +kernel
theorem dX9_herdOf_67 : decode cX9_herdOf 67 = .ok (.aload_n 0, 1) := by decide +kernel
theorem dX9_herdOf_68 : decode cX9_herdOf 68 = .ok (.getfield 83, 3) := by decide +kernel
theorem dX9_herdOf_71 : decode cX9_herdOf 71 = .ok (.iload_n 1, 1) := by decide +kernel
theorem dX9_herdOf_72 : decode cX9_herdOf 72 = .ok (.iaload, 1) := by decide +kernel
theorem dX9_herdOf_73 : decode cX9_herdOf 73 = .ok (.ireturn, 1) := by decide +kernel
theorem dX9_herdOf_74 : decode cX9_herdOf 74 = .ok (.aload_n 0, 1) := by decide +kernel
theorem dX9_herdOf_75 : decode cX9_herdOf 75 = .ok (.getfield 86, 3) := by decide +kernel
theorem dX9_herdOf_78 : decode cX9_herdOf 78 = .ok (.iload_n 1, 1) := by decide +kernel
theorem dX9_herdOf_79 : decode cX9_herdOf 79 = .ok (.iaload, 1) := by decide +kernel
theorem dX9_herdOf_80 : decode cX9_herdOf 80 = .ok (.ireturn, 1) := by decide +kernel
theorem dX9_herdOf_81 : decode cX9_herdOf 81 = .ok (.aload_n 0, 1) := by decide +kernel
theorem dX9_herdOf_82 : decode cX9_herdOf 82 = .ok (.getfield 89, 3) := by decide +kernel
theorem dX9_herdOf_85 : decode cX9_herdOf 85 = .ok (.iload_n 1, 1) := by decide +kernel
theorem dX9_herdOf_86 : decode cX9_herdOf 86 = .ok (.iaload, 1) := by decide +kernel
theorem dX9_herdOf_87 : decode cX9_herdOf 87 = .ok (.ireturn, 1) := by decide +kernel
theorem dX9_herdOf_88 : decode cX9_herdOf 88 = .ok (.aload_n 0, 1) := by decide +kernel
theorem dX9_herdOf_89 : decode cX9_herdOf 89 = .ok (.getfield 95, 3) := by decide +kernel
theorem dX9_herdOf_92 : decode cX9_herdOf 92 = .ok (.iload_n 1, 1) := by decide +kernel
theorem dX9_herdOf_93 : decode cX9_herdOf 93 = .ok (.iaload, 1) := by decide +kernel
theorem dX9_herdOf_94 : decode cX9_herdOf 94 = .ok (.ireturn, 1) := by decide +kernel
theorem dX9_herdOf_95 : decode cX9_herdOf 95 = .ok (.aload_n 0, 1) := by decide +kernel
theorem dX9_herdOf_96 : decode cX9_herdOf 96 = .ok (.getfield 98, 3) := by decide +kernel
theorem dX9_herdOf_99 : decode cX9_herdOf 99 = .ok (.iload_n 1, 1) := by decide +kernel
theorem dX9_herdOf_100 : decode cX9_herdOf 100 = .ok (.iaload, 1) := by decide +kernel
theorem dX9_herdOf_101 : decode cX9_herdOf 101 = .ok (.ireturn, 1) := by decide +kernel
theorem dX9_herdOf_102 : decode cX9_herdOf 102 = .ok (.aload_n 0, 1) := by decide +kernel
theorem dX9_herdOf_103 : decode cX9_herdOf 103 = .ok (.iload_n 1, 1) := by decide +kernel
theorem dX9_herdOf_104 : decode cX9_herdOf 104 = .ok (.invokevirtual 239, 3) := by decide +kernel
theorem dX9_herdOf_107 : decode cX9_herdOf 107 = .ok (.ireturn, 1) := by decide +kernel
theorem dX9_herdOf_108 : decode cX9_herdOf 108 = .ok (.aload_n 0, 1) := by decide +kernel
theorem dX9_herdOf_109 : decode cX9_herdOf 109 = .ok (.bipush (-2), 2) := by decide +kernel
theorem dX9_herdOf_111 : decode cX9_herdOf 111 = .ok (.invokevirtual 122, 3) := by decide +kernel
theorem dX9_herdOf_114 : decode cX9_herdOf 114 = .ok (.ireturn, 1) := by decide +kernel
theorem dX9_ownerOf_0 : decode cX9_ownerOf 0 = .ok (.iload_n 1, 1) := by decide +kernel
theorem dX9_ownerOf_1 : decode cX9_ownerOf 1 = .ok (.iconst (-1), 1) := by decide +kernel
theorem dX9_ownerOf_2 : decode cX9_ownerOf 2 = .ok (.if_icmp .eq 20, 3) := by decide +kernel
theorem dX9_ownerOf_5 : decode cX9_ownerOf 5 = .ok (.iload_n 1, 1) := by decide +kernel
theorem dX9_ownerOf_6 : decode cX9_ownerOf 6 = .ok (.aload_n 0, 1) := by decide +kernel
theorem dX9_ownerOf_7 : decode cX9_ownerOf 7 = .ok (.getfield 131, 3) := by decide +kernel
theorem dX9_ownerOf_10 : decode cX9_ownerOf 10 = .ok (.invokestatic 134, 3) := by decide +kernel
theorem dX9_ownerOf_13 : decode cX9_ownerOf 13 = .ok (.ifCond .ne 9, 3) := by decide +kernel
theorem dX9_ownerOf_16 : decode cX9_ownerOf 16 = .ok (.aload_n 0, 1) := by decide +kernel
theorem dX9_ownerOf_17 : decode cX9_ownerOf 17 = .ok (.iconst (-1), 1) := by decide +kernel
theorem dX9_ownerOf_18 : decode cX9_ownerOf 18 = .ok (.invokevirtual 122, 3) := by decide +kernel
theorem dX9_ownerOf_21 : decode cX9_ownerOf 21 = .ok (.ireturn, 1) := by decide +kernel
theorem dX9_ownerOf_22 : decode cX9_ownerOf 22 = .ok (.iconst 0, 1) := by decide +kernel
theorem dX9_ownerOf_23 : decode cX9_ownerOf 23 = .ok (.istore_n 3, 1) := by decide +kernel
theorem dX9_ownerOf_24 : decode cX9_ownerOf 24 = .ok (.iload_n 2, 1) := by decide +kernel
theorem dX9_ownerOf_25 : decode cX9_ownerOf 25 = .ok (.tableswitch 163 0 3 #[31, 49, 67, 120], 31) := by decide +kernel
theorem dX9_ownerOf_56 : decode cX9_ownerOf 56 = .ok (.iload_n 1, 1) := by decide +kernel
theorem dX9_ownerOf_57 : decode cX9_ownerOf 57 = .ok (.ifCond .ge 10, 3) := by decide +kernel
theorem dX9_ownerOf_60 : decode cX9_ownerOf 60 = .ok (.aload_n 0, 1) := by decide +kernel
theorem dX9_ownerOf_61 : decode cX9_ownerOf 61 = .ok (.getfield 205, 3) := by decide +kernel
theorem dX9_ownerOf_64 : decode cX9_ownerOf 64 = .ok (.goto 9, 3) := by decide +kernel
theorem dX9_ownerOf_67 : decode cX9_ownerOf 67 = .ok (.aload_n 0, 1) := by decide +kernel
theorem dX9_ownerOf_68 : decode cX9_ownerOf 68 = .ok (.getfield 32, 3) := by decide +kernel
theorem dX9_ownerOf_71 : decode cX9_ownerOf 71 = .ok (.iload_n 1, 1) := by decide +kernel
theorem dX9_ownerOf_72 : decode cX9_ownerOf 72 = .ok (.iaload, 1) := by decide +kernel
theorem dX9_ownerOf_73 : decode cX9_ownerOf 73 = .ok (.ireturn, 1) := by decide +kernel
theorem dX9_ownerOf_74 : decode cX9_ownerOf 74 = .ok (.iload_n 1, 1) := by decide +kernel
theorem dX9_ownerOf_75 : decode cX9_ownerOf 75 = .ok (.ifCond .ge 10, 3) := by decide +kernel
theorem dX9_ownerOf_78 : decode cX9_ownerOf 78 = .ok (.aload_n 0, 1) := by decide +kernel
theorem dX9_ownerOf_79 : decode cX9_ownerOf 79 = .ok (.getfield 236, 3) := by decide +kernel
theorem dX9_ownerOf_82 : decode cX9_ownerOf 82 = .ok (.goto 9, 3) := by decide +kernel
theorem dX9_ownerOf_85 : decode cX9_ownerOf 85 = .ok (.aload_n 0, 1) := by decide +kernel
theorem dX9_ownerOf_86 : decode cX9_ownerOf 86 = .ok (.getfield 35, 3) := by decide +kernel
theorem dX9_ownerOf_89 : decode cX9_ownerOf 89 = .ok (.iload_n 1, 1) := by decide +kernel
theorem dX9_ownerOf_90 : decode cX9_ownerOf 90 = .ok (.iaload, 1) := by decide +kernel
theorem dX9_ownerOf_91 : decode cX9_ownerOf 91 = .ok (.ireturn, 1) := by decide +kernel
theorem dX9_ownerOf_92 : decode cX9_ownerOf 92 = .ok (.iconst 0, 1) := by decide +kernel
theorem dX9_ownerOf_93 : decode cX9_ownerOf 93 = .ok (.istore 4, 2) := by decide +kernel
theorem dX9_ownerOf_95 : decode cX9_ownerOf 95 = .ok (.iload 4, 2) := by decide +kernel
theorem dX9_ownerOf_97 : decode cX9_ownerOf 97 = .ok (.aload_n 0, 1) := by decide +kernel
theorem dX9_ownerOf_98 : decode cX9_ownerOf 98 = .ok (.getfield 164, 3) := by decide +kernel
theorem dX9_ownerOf_101 : decode cX9_ownerOf 101 = .ok (.if_icmp .ge 42, 3) := by decide +kernel
theorem dX9_ownerOf_104 : decode cX9_ownerOf 104 = .ok (.iload_n 3, 1) := by decide +kernel
theorem dX9_ownerOf_105 : decode cX9_ownerOf 105 = .ok (.aload_n 0, 1) := by decide +kernel
theorem dX9_ownerOf_106 : decode cX9_ownerOf 106 = .ok (.iload 4, 2) := by decide +kernel
theorem dX9_ownerOf_108 : decode cX9_ownerOf 108 = .ok (.invokevirtual 167, 3) := by decide +kernel
theorem dX9_ownerOf_111 : decode cX9_ownerOf 111 = .ok (.ifCond .eq 23, 3) := by decide +kernel
theorem dX9_ownerOf_114 : decode cX9_ownerOf 114 = .ok (.aload_n 0, 1) := by decide +kernel
theorem dX9_ownerOf_115 : decode cX9_ownerOf 115 = .ok (.getfield 80, 3) := by decide +kernel
theorem dX9_ownerOf_118 : decode cX9_ownerOf 118 = .ok (.iload 4, 2) := by decide +kernel
theorem dX9_ownerOf_120 : decode cX9_ownerOf 120 = .ok (.iaload, 1) := by decide +kernel
theorem dX9_ownerOf_121 : decode cX9_ownerOf 121 = .ok (.iload_n 1, 1) := by decide +kernel
theorem dX9_ownerOf_122 : decode cX9_ownerOf 122 = .ok (.if_icmp .ne 12, 3) := by decide +kernel
theorem dX9_ownerOf_125 : decode cX9_ownerOf 125 = .ok (.aload_n 0, 1) := by decide +kernel
theorem dX9_ownerOf_126 : decode cX9_ownerOf 126 = .ok (.iload 4, 2) := by decide +kernel
theorem dX9_ownerOf_128 : decode cX9_ownerOf 128 = .ok (.invokevirtual 170, 3) := by decide +kernel
theorem dX9_ownerOf_131 : decode cX9_ownerOf 131 = .ok (.goto 4, 3) := by decide +kernel
theorem dX9_ownerOf_134 : decode cX9_ownerOf 134 = .ok (.iconst 0, 1) := by decide +kernel
theorem dX9_ownerOf_135 : decode cX9_ownerOf 135 = .ok (.iadd, 1) := by decide +kernel
theorem dX9_ownerOf_136 : decode cX9_ownerOf 136 = .ok (.istore_n 3, 1) := by decide +kernel
theorem dX9_ownerOf_137 : decode cX9_ownerOf 137 = .ok (.iinc 4 1, 3) := by decide +kernel
theorem dX9_ownerOf_140 : decode cX9_ownerOf 140 = .ok (.goto (-45), 3) := by decide +kernel
theorem dX9_ownerOf_143 : decode cX9_ownerOf 143 = .ok (.iload_n 3, 1) := by decide +kernel
theorem dX9_ownerOf_144 : decode cX9_ownerOf 144 = .ok (.ireturn, 1) := by decide +kernel
theorem dX9_ownerOf_145 : decode cX9_ownerOf 145 = .ok (.iconst 0, 1) := by decide +kernel
theorem dX9_ownerOf_146 : decode cX9_ownerOf 146 = .ok (.istore 4, 2) := by decide +kernel
theorem dX9_ownerOf_148 : decode cX9_ownerOf 148 = .ok (.iload 4, 2) := by decide +kernel
theorem dX9_ownerOf_150 : decode cX9_ownerOf 150 = .ok (.aload_n 0, 1) := by decide +kernel
theorem dX9_ownerOf_151 : decode cX9_ownerOf 151 = .ok (.getfield 148, 3) := by decide +kernel
theorem dX9_ownerOf_154 : decode cX9_ownerOf 154 = .ok (.if_icmp .ge 32, 3) := by decide +kernel
theorem dX9_ownerOf_157 : decode cX9_ownerOf 157 = .ok (.iload_n 3, 1) := by decide +kernel
theorem dX9_ownerOf_158 : decode cX9_ownerOf 158 = .ok (.aload_n 0, 1) := by decide +kernel
theorem dX9_ownerOf_159 : decode cX9_ownerOf 159 = .ok (.iload 4, 2) := by decide +kernel
theorem dX9_ownerOf_161 : decode cX9_ownerOf 161 = .ok (.invokevirtual 155, 3) := by decide +kernel
theorem dX9_ownerOf_164 : decode cX9_ownerOf 164 = .ok (.iload_n 1, 1) := by decide +kernel
theorem dX9_ownerOf_165 : decode cX9_ownerOf 165 = .ok (.if_icmp .ne 12, 3) := by decide +kernel
theorem dX9_ownerOf_168 : decode cX9_ownerOf 168 = .ok (.aload_n 0, 1) := by decide +kernel
theorem dX9_ownerOf_169 : decode cX9_ownerOf 169 = .ok (.iload 4, 2) := by decide +kernel
theorem dX9_ownerOf_171 : decode cX9_ownerOf 171 = .ok (.invokevirtual 158, 3) := by decide +kernel
theorem dX9_ownerOf_174 : decode cX9_ownerOf 174 = .ok (.goto 4, 3) := by decide +kernel
theorem dX9_ownerOf_177 : decode cX9_ownerOf 177 = .ok (.iconst 0, 1) := by decide +kernel
theorem dX9_ownerOf_178 : decode cX9_ownerOf 178 = .ok (.iadd, 1) := by decide +kernel
theorem dX9_ownerOf_179 : decode cX9_ownerOf 179 = .ok (.istore_n 3, 1) := by decide +kernel
theorem dX9_ownerOf_180 : decode cX9_ownerOf 180 = .ok (.iinc 4 1, 3) := by decide +kernel
theorem dX9_ownerOf_183 : decode cX9_ownerOf 183 = .ok (.goto (-35), 3) := by decide +kernel
theorem dX9_ownerOf_186 : decode cX9_ownerOf 186 = .ok (.iload_n 3, 1) := by decide +kernel
theorem dX9_ownerOf_187 : decode cX9_ownerOf 187 = .ok (.ireturn, 1) := by decide +kernel
theorem dX9_ownerOf_188 : decode cX9_ownerOf 188 = .ok (.aload_n 0, 1) := by decide +kernel
theorem dX9_ownerOf_189 : decode cX9_ownerOf 189 = .ok (.bipush (-2), 2) := by decide +kernel
theorem dX9_ownerOf_191 : decode cX9_ownerOf 191 = .ok (.invokevirtual 122, 3) := by decide +kernel
theorem dX9_ownerOf_194 : decode cX9_ownerOf 194 = .ok (.ireturn, 1) := by decide +kernel
theorem dX9_count_0 : decode cX9_count 0 = .ok (.iload_n 1, 1) := by decide +kernel
theorem dX9_count_1 : decode cX9_count 1 = .ok (.bipush 10, 2) := by decide +kernel
theorem dX9_count_3 : decode cX9_count 3 = .ok (.if_icmp .le 19, 3) := by decide +kernel
theorem dX9_count_6 : decode cX9_count 6 = .ok (.iload_n 1, 1) := by decide +kernel
theorem dX9_count_7 : decode cX9_count 7 = .ok (.bipush 17, 2) := by decide +kernel
theorem dX9_count_9 : decode cX9_count 9 = .ok (.if_icmp .ge 13, 3) := by decide +kernel
theorem dX9_count_12 : decode cX9_count 12 = .ok (.aload_n 0, 1) := by decide +kernel
theorem dX9_count_13 : decode cX9_count 13 = .ok (.getfield 7, 3) := by decide +kernel
theorem dX9_count_16 : decode cX9_count 16 = .ok (.iload_n 1, 1) := by decide +kernel
theorem dX9_count_17 : decode cX9_count 17 = .ok (.bipush 10, 2) := by decide +kernel
theorem dX9_count_19 : decode cX9_count 19 = .ok (.isub, 1) := by decide +kernel
theorem dX9_count_20 : decode cX9_count 20 = .ok (.iaload, 1) := by decide +kernel
theorem dX9_count_21 : decode cX9_count 21 = .ok (.ireturn, 1) := by decide +kernel
theorem dX9_count_22 : decode cX9_count 22 = .ok (.iconst 0, 1) := by decide +kernel
theorem dX9_count_23 : decode cX9_count 23 = .ok (.istore_n 2, 1) := by decide +kernel
theorem dX9_count_24 : decode cX9_count 24 = .ok (.iload_n 1, 1) := by decide +kernel
theorem dX9_count_25 : decode cX9_count 25 = .ok (.tableswitch 187 0 9 #[55, 60, 65, 70, 75, 109, 145, 172, 177, 182], 55) := by decide +kernel
theorem dX9_count_80 : decode cX9_count 80 = .ok (.aload_n 0, 1) := by decide +kernel
theorem dX9_count_81 : decode cX9_count 81 = .ok (.getfield 141, 3) := by decide +kernel
theorem dX9_count_84 : decode cX9_count 84 = .ok (.ireturn, 1) := by decide +kernel
theorem dX9_count_85 : decode cX9_count 85 = .ok (.aload_n 0, 1) := by decide +kernel
theorem dX9_count_86 : decode cX9_count 86 = .ok (.getfield 127, 3) := by decide +kernel
theorem dX9_count_89 : decode cX9_count 89 = .ok (.ireturn, 1) := by decide +kernel
theorem dX9_count_90 : decode cX9_count 90 = .ok (.aload_n 0, 1) := by decide +kernel
theorem dX9_count_91 : decode cX9_count 91 = .ok (.getfield 131, 3) := by decide +kernel
theorem dX9_count_94 : decode cX9_count 94 = .ok (.ireturn, 1) := by decide +kernel
theorem dX9_count_95 : decode cX9_count 95 = .ok (.aload_n 0, 1) := by decide +kernel
theorem dX9_count_96 : decode cX9_count 96 = .ok (.getfield 138, 3) := by decide +kernel
theorem dX9_count_99 : decode cX9_count 99 = .ok (.ireturn, 1) := by decide +kernel
theorem dX9_count_100 : decode cX9_count 100 = .ok (.iconst 0, 1) := by decide +kernel
theorem dX9_count_101 : decode cX9_count 101 = .ok (.istore_n 3, 1) := by decide +kernel
theorem dX9_count_102 : decode cX9_count 102 = .ok (.iload_n 3, 1) := by decide +kernel
theorem dX9_count_103 : decode cX9_count 103 = .ok (.aload_n 0, 1) := by decide +kernel
theorem dX9_count_104 : decode cX9_count 104 = .ok (.getfield 148, 3) := by decide +kernel
theorem dX9_count_107 : decode cX9_count 107 = .ok (.if_icmp .ge 25, 3) := by decide +kernel
theorem dX9_count_110 : decode cX9_count 110 = .ok (.iload_n 2, 1) := by decide +kernel
theorem dX9_count_111 : decode cX9_count 111 = .ok (.aload_n 0, 1) := by decide +kernel
theorem dX9_count_112 : decode cX9_count 112 = .ok (.iload_n 3, 1) := by decide +kernel
theorem dX9_count_113 : decode cX9_count 113 = .ok (.invokevirtual 144, 3) := by decide +kernel
theorem dX9_count_116 : decode cX9_count 116 = .ok (.ifCond .eq 7, 3) := by decide +kernel
theorem dX9_count_119 : decode cX9_count 119 = .ok (.iconst 1, 1) := by decide +kernel
theorem dX9_count_120 : decode cX9_count 120 = .ok (.goto 4, 3) := by decide +kernel
theorem dX9_count_123 : decode cX9_count 123 = .ok (.iconst 0, 1) := by decide +kernel
theorem dX9_count_124 : decode cX9_count 124 = .ok (.iadd, 1) := by decide +kernel
theorem dX9_count_125 : decode cX9_count 125 = .ok (.istore_n 2, 1) := by decide +kernel
theorem dX9_count_126 : decode cX9_count 126 = .ok (.iinc 3 1, 3) := by decide +kernel
theorem dX9_count_129 : decode cX9_count 129 = .ok (.goto (-27), 3) := by decide +kernel
theorem dX9_count_132 : decode cX9_count 132 = .ok (.iload_n 2, 1) := by decide +kernel
theorem dX9_count_133 : decode cX9_count 133 = .ok (.ireturn, 1) := by decide +kernel
theorem dX9_count_134 : decode cX9_count 134 = .ok (.iconst 0, 1) := by decide +kernel
theorem dX9_count_135 : decode cX9_count 135 = .ok (.istore_n 3, 1) := by decide +kernel
theorem dX9_count_136 : decode cX9_count 136 = .ok (.iload_n 3, 1) := by decide +kernel
theorem dX9_count_137 : decode cX9_count 137 = .ok (.aload_n 0, 1) := by decide +kernel
theorem dX9_count_138 : decode cX9_count 138 = .ok (.getfield 164, 3) := by decide +kernel
theorem dX9_count_141 : decode cX9_count 141 = .ok (.if_icmp .ge 27, 3) := by decide +kernel
theorem dX9_count_144 : decode cX9_count 144 = .ok (.iload_n 2, 1) := by decide +kernel
theorem dX9_count_145 : decode cX9_count 145 = .ok (.aload_n 0, 1) := by decide +kernel
theorem dX9_count_146 : decode cX9_count 146 = .ok (.getfield 98, 3) := by decide +kernel
theorem dX9_count_149 : decode cX9_count 149 = .ok (.iload_n 3, 1) := by decide +kernel
theorem dX9_count_150 : decode cX9_count 150 = .ok (.iaload, 1) := by decide +kernel
theorem dX9_count_151 : decode cX9_count 151 = .ok (.iconst 2, 1) := by decide +kernel
theorem dX9_count_152 : decode cX9_count 152 = .ok (.if_icmp .eq 7, 3) := by decide +kernel
theorem dX9_count_155 : decode cX9_count 155 = .ok (.iconst 1, 1) := by decide +kernel
theorem dX9_count_156 : decode cX9_count 156 = .ok (.goto 4, 3) := by decide +kernel
theorem dX9_count_159 : decode cX9_count 159 = .ok (.iconst 0, 1) := by decide +kernel
theorem dX9_count_160 : decode cX9_count 160 = .ok (.iadd, 1) := by decide +kernel
theorem dX9_count_161 : decode cX9_count 161 = .ok (.istore_n 2, 1) := by decide +kernel
theorem dX9_count_162 : decode cX9_count 162 = .ok (.iinc 3 1, 3) := by decide +kernel
theorem dX9_count_165 : decode cX9_count 165 = .ok (.goto (-29), 3) := by decide +kernel
theorem dX9_count_168 : decode cX9_count 168 = .ok (.iload_n 2, 1) := by decide +kernel
theorem dX9_count_169 : decode cX9_count 169 = .ok (.ireturn, 1) := by decide +kernel
theorem dX9_count_170 : decode cX9_count 170 = .ok (.iconst 0, 1) := by decide +kernel
theorem dX9_count_171 : decode cX9_count 171 = .ok (.istore_n 3, 1) := by decide +kernel
theorem dX9_count_172 : decode cX9_count 172 = .ok (.iload_n 3, 1) := by decide +kernel
theorem dX9_count_173 : decode cX9_count 173 = .ok (.aload_n 0, 1) := by decide +kernel
theorem dX9_count_174 : decode cX9_count 174 = .ok (.getfield 127, 3) := by decide +kernel
theorem dX9_count_177 : decode cX9_count 177 = .ok (.if_icmp .ge 18, 3) := by decide +kernel
theorem dX9_count_180 : decode cX9_count 180 = .ok (.iload_n 2, 1) := by decide +kernel
theorem dX9_count_181 : decode cX9_count 181 = .ok (.aload_n 0, 1) := by decide +kernel
theorem dX9_count_182 : decode cX9_count 182 = .ok (.getfield 13, 3) := by decide +kernel
theorem dX9_count_185 : decode cX9_count 185 = .ok (.iload_n 3, 1) := by decide +kernel
theorem dX9_count_186 : decode cX9_count 186 = .ok (.iaload, 1) := by decide +kernel
theorem dX9_count_187 : decode cX9_count 187 = .ok (.iadd, 1) := by decide +kernel
theorem dX9_count_188 : decode cX9_count 188 = .ok (.istore_n 2, 1) := by decide +kernel
theorem dX9_count_189 : decode cX9_count 189 = .ok (.iinc 3 1, 3) := by decide +kernel
theorem dX9_count_192 : decode cX9_count 192 = .ok (.goto (-20), 3) := by decide +kernel
theorem dX9_count_195 : decode cX9_count 195 = .ok (.iload_n 2, 1) := by decide +kernel
theorem dX9_count_196 : decode cX9_count 196 = .ok (.ireturn, 1) := by decide +kernel
theorem dX9_count_197 : decode cX9_count 197 = .ok (.aload_n 0, 1) := by decide +kernel
theorem dX9_count_198 : decode cX9_count 198 = .ok (.getfield 230, 3) := by decide +kernel
theorem dX9_count_201 : decode cX9_count 201 = .ok (.ireturn, 1) := by decide +kernel
theorem dX9_count_202 : decode cX9_count 202 = .ok (.aload_n 0, 1) := by decide +kernel
theorem dX9_count_203 : decode cX9_count 203 = .ok (.getfield 221, 3) := by decide +kernel
theorem dX9_count_206 : decode cX9_count 206 = .ok (.ireturn, 1) := by decide +kernel
theorem dX9_count_207 : decode cX9_count 207 = .ok (.aload_n 0, 1) := by decide +kernel
theorem dX9_count_208 : decode cX9_count 208 = .ok (.getfield 211, 3) := by decide +kernel
theorem dX9_count_211 : decode cX9_count 211 = .ok (.ireturn, 1) := by decide +kernel
theorem dX9_count_212 : decode cX9_count 212 = .ok (.bipush (-9), 2) := by decide +kernel
theorem dX9_count_214 : decode cX9_count 214 = .ok (.ireturn, 1) := by decide +kernel
