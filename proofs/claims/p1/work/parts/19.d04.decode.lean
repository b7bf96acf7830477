theorem dX9_rest_5 : decode cX9_rest 5 = .ok (.invokestatic 134, 3) := by decide +kernel
theorem dX9_rest_8 : decode cX9_rest 8 = .ok (.ifCond .ne 9, 3) := by decide +kernel
theorem dX9_rest_11 : decode cX9_rest 11 = .ok (.aload_n 0, 1) := by decide +kernel
theorem dX9_rest_12 : decode cX9_rest 12 = .ok (.iconst (-1), 1) := by decide +kernel
theorem dX9_rest_13 : decode cX9_rest 13 = .ok (.invokevirtual 122, 3) := by decide +kernel
theorem dX9_rest_16 : decode cX9_rest 16 = .ok (.ireturn, 1) := by decide +kernel
theorem dX9_cut_0 : decode cX9_cut 0 = .ok (.iload_n 1, 1) := by decide +kernel
theorem dX9_cut_1 : decode cX9_cut 1 = .ok (.aload_n 0, 1) := by decide +kernel
theorem dX9_cut_2 : decode cX9_cut 2 = .ok (.getfield 127, 3) := by decide +kernel
theorem dX9_cut_5 : decode cX9_cut 5 = .ok (.invokestatic 134, 3) := by decide +kernel
theorem dX9_cut_8 : decode cX9_cut 8 = .ok (.ifCond .ne 9, 3) := by decide +kernel
theorem dX9_cut_11 : decode cX9_cut 11 = .ok (.aload_n 0, 1) := by decide +kernel
theorem dX9_cut_12 : decode cX9_cut 12 = .ok (.iconst (-1), 1) := by decide +kernel
theorem dX9_cut_13 : decode cX9_cut 13 = .ok (.invokevirtual 122, 3) := by decide +kernel
theorem dX9_cut_16 : decode cX9_cut 16 = .ok (.ireturn, 1) := by decide +kernel
theorem dX9_pound_0 : decode cX9_pound 0 = .ok (.iload_n 1, 1) := by decide +kernel
theorem dX9_pound_1 : decode cX9_pound 1 = .ok (.aload_n 0, 1) := by decide +kernel
theorem dX9_pound_2 : decode cX9_pound 2 = .ok (.getfield 164, 3) := by decide +kernel
theorem dX9_pound_5 : decode cX9_pound 5 = .ok (.invokestatic 134, 3) := by decide +kernel
theorem dX9_pound_8 : decode cX9_pound 8 = .ok (.ifCond .ne 9, 3) := by decide +kernel
theorem dX9_pound_11 : decode cX9_pound 11 = .ok (.aload_n 0, 1) := by decide +kernel
theorem dX9_pound_12 : decode cX9_pound 12 = .ok (.iconst (-1), 1) := by decide +kernel
theorem dX9_pound_13 : decode cX9_pound 13 = .ok (.invokevirtual 122, 3) := by decide +kernel
theorem dX9_pound_16 : decode cX9_pound 16 = .ok (.ireturn, 1) := by decide +kernel
theorem dX9_free_0 : decode cX9_free 0 = .ok (.iload_n 1, 1) := by decide +kernel
theorem dX9_free_1 : decode cX9_free 1 = .ok (.aload_n 0, 1) := by decide +kernel
theorem dX9_free_2 : decode cX9_free 2 = .ok (.getfield 164, 3) := by decide +kernel
theorem dX9_free_5 : decode cX9_free 5 = .ok (.invokestatic 134, 3) := by decide +kernel
theorem dX9_free_8 : decode cX9_free 8 = .ok (.ifCond .ne 9, 3) := by decide +kernel
theorem dX9_free_11 : decode cX9_free 11 = .ok (.aload_n 0, 1) := by decide +kernel
theorem dX9_free_12 : decode cX9_free 12 = .ok (.iconst (-1), 1) := by decide +kernel
theorem dX9_free_13 : decode cX9_free 13 = .ok (.invokevirtual 122, 3) := by decide +kernel
theorem dX9_free_16 : decode cX9_free 16 = .ok (.ireturn, 1) := by decide +kernel
theorem dX9_plan_0 : decode cX9_plan 0 = .ok (.iload_n 1, 1) := by decide +kernel
theorem dX9_plan_1 : decode cX9_plan 1 = .ok (.aload_n 0, 1) := by decide +kernel
theorem dX9_plan_2 : decode cX9_plan 2 = .ok (.getfield 164, 3) := by decide +kernel
theorem dX9_plan_5 : decode cX9_plan 5 = .ok (.invokestatic 134, 3) := by decide +kernel
theorem dX9_plan_8 : decode cX9_plan 8 = .ok (.ifCond .eq 24, 3) := by decide +kernel
theorem dX9_plan_32 : decode cX9_plan 32 = .ok (.aload_n 0, 1) := by decide +kernel
theorem dX9_plan_33 : decode cX9_plan 33 = .ok (.iconst (-1), 1) := by decide +kernel
theorem dX9_plan_34 : decode cX9_plan 34 = .ok (.invokevirtual 122, 3) := by decide +kernel
theorem dX9_plan_37 : decode cX9_plan 37 = .ok (.ireturn, 1) := by decide +kernel
theorem dX9_planned_0 : decode cX9_planned 0 = .ok (.iload_n 1, 1) := by decide +kernel
theorem dX9_planned_1 : decode cX9_planned 1 = .ok (.aload_n 0, 1) := by decide +kernel
theorem dX9_planned_2 : decode cX9_planned 2 = .ok (.getfield 250, 3) := by decide +kernel
theorem dX9_planned_5 : decode cX9_planned 5 = .ok (.invokestatic 134, 3) := by decide +kernel
theorem dX9_planned_8 : decode cX9_planned 8 = .ok (.ifCond .eq 30, 3) := by decide +kernel
theorem dX9_planned_38 : decode cX9_planned 38 = .ok (.bipush (-9), 2) := by decide +kernel
theorem dX9_planned_40 : decode cX9_planned 40 = .ok (.ireturn, 1) := by decide +kernel
theorem dX9_pieceOf_0 : decode cX9_pieceOf 0 = .ok (.iload_n 1, 1) := by decide +kernel
theorem dX9_pieceOf_1 : decode cX9_pieceOf 1 = .ok (.aload_n 0, 1) := by decide +kernel
theorem dX9_pieceOf_2 : decode cX9_pieceOf 2 = .ok (.getfield 127, 3) := by decide +kernel
theorem dX9_pieceOf_5 : decode cX9_pieceOf 5 = .ok (.invokestatic 134, 3) := by decide +kernel
theorem dX9_pieceOf_8 : decode cX9_pieceOf 8 = .ok (.ifCond .ne 9, 3) := by decide +kernel
theorem dX9_pieceOf_11 : decode cX9_pieceOf 11 = .ok (.aload_n 0, 1) := by decide +kernel
theorem dX9_pieceOf_12 : decode cX9_pieceOf 12 = .ok (.iconst (-1), 1) := by decide +kernel
theorem dX9_pieceOf_13 : decode cX9_pieceOf 13 = .ok (.invokevirtual 122, 3) := by decide +kernel
theorem dX9_pieceOf_16 : decode cX9_pieceOf 16 = .ok (.ireturn, 1) := by decide +kernel
theorem dX9_rightOf_0 : decode cX9_rightOf 0 = .ok (.iload_n 1, 1) := by decide +kernel
theorem dX9_rightOf_1 : decode cX9_rightOf 1 = .ok (.aload_n 0, 1) := by decide +kernel
theorem dX9_rightOf_2 : decode cX9_rightOf 2 = .ok (.getfield 148, 3) := by decide +kernel
theorem dX9_rightOf_5 : decode cX9_rightOf 5 = .ok (.invokestatic 134, 3) := by decide +kernel
theorem dX9_rightOf_8 : decode cX9_rightOf 8 = .ok (.ifCond .ne 9, 3) := by decide +kernel
theorem dX9_rightOf_11 : decode cX9_rightOf 11 = .ok (.aload_n 0, 1) := by decide +kernel
theorem dX9_rightOf_12 : decode cX9_rightOf 12 = .ok (.iconst (-1), 1) := by decide +kernel
theorem dX9_rightOf_13 : decode cX9_rightOf 13 = .ok (.invokevirtual 122, 3) := by decide +kernel
theorem dX9_rightOf_16 : decode cX9_rightOf 16 = .ok (.ireturn, 1) := by decide +kernel
theorem dX9_herdOf_0 : decode cX9_herdOf 0 = .ok (.iload_n 1, 1) := by decide +kernel
theorem dX9_herdOf_1 : decode cX9_herdOf 1 = .ok (.aload_n 0, 1) := by decide +kernel
theorem dX9_herdOf_2 : decode cX9_herdOf 2 = .ok (.getfield 164, 3) := by decide +kernel
theorem dX9_herdOf_5 : decode cX9_herdOf 5 = .ok (.invokestatic 134, 3) := by decide +kernel
theorem dX9_herdOf_8 : decode cX9_herdOf 8 = .ok (.ifCond .ne 9, 3) := by decide +kernel
theorem dX9_herdOf_11 : decode cX9_herdOf 11 = .ok (.aload_n 0, 1) := by decide +kernel
theorem dX9_herdOf_12 : decode cX9_herdOf 12 = .ok (.iconst (-1), 1) := by decide +kernel
theorem dX9_herdOf_13 : decode cX9_herdOf 13 = .ok (.invokevirtual 122, 3) := by decide +kernel
theorem dX9_herdOf_16 : decode cX9_herdOf 16 = .ok (.ireturn, 1) := by decide +kernel
theorem dX9_ownerOf_0 : decode cX9_ownerOf 0 = .ok (.iload_n 1, 1) := by decide +kernel
theorem dX9_ownerOf_1 : decode cX9_ownerOf 1 = .ok (.iconst (-1), 1) := by decide +kernel
theorem dX9_ownerOf_2 : decode cX9_ownerOf 2 = .ok (.if_icmp .eq 20, 3) := by decide +kernel
theorem dX9_ownerOf_5 : decode cX9_ownerOf 5 = .ok (.iload_n 1, 1) := by decide +kernel
theorem dX9_ownerOf_6 : decode cX9_ownerOf 6 = .ok (.aload_n 0, 1) := by decide +kernel
theorem dX9_ownerOf_7 : decode cX9_ownerOf 7 = .ok (.getfield 131, 3) := by decide +kernel
theorem dX9_ownerOf_10 : decode cX9_ownerOf 10 = .ok (.invokestatic 134, 3) := by decide +kernel
theorem dX9_ownerOf_13 : decode cX9_ownerOf 13 = .ok (.ifCond .ne 9, 3) := by decide +kernel
theorem dX9_ownerOf_16 : decode cX9_ownerOf 16 = .ok (.aload_n 0, 1) := by decide +kernel
theorem dX9_ownerOf_17 : decode cX9_ownerOf 17 = .ok (.iconst (-1), 1) := by decide +kernel
theorem dX9_ownerOf_18 : decode cX9_ownerOf 18 = .ok (.invokevirtual 122, 3) := by decide +kernel
theorem dX9_ownerOf_21 : decode cX9_ownerOf 21 = .ok (.ireturn, 1) := by decide +kernel
theorem dX9_ownerOf_22 : decode cX9_ownerOf 22 = .ok (.iconst 0, 1) := by decide +kernel
theorem dX9_ownerOf_23 : decode cX9_ownerOf 23 = .ok (.istore_n 3, 1) := by decide +kernel
theorem dX9_ownerOf_24 : decode cX9_ownerOf 24 = .ok (.iload_n 2, 1) := by decide +kernel
theorem dX9_ownerOf_25 : decode cX9_ownerOf 25 = .ok (.tableswitch 163 0 3 #[31, 49, 67, 120], 31) := by decide +kernel
theorem dX9_ownerOf_56 : decode cX9_ownerOf 56 = .ok (.iload_n 1, 1) := by decide +kernel
theorem dX9_ownerOf_57 : decode cX9_ownerOf 57 = .ok (.ifCond .ge 10, 3) := by decide +kernel
theorem dX9_ownerOf_60 : decode cX9_ownerOf 60 = .ok (.aload_n 0, 1) := by decide +kernel
theorem dX9_ownerOf_61 : decode cX9_ownerOf 61 = .ok (.getfield 205, 3) := by decide +kernel
theorem dX9_ownerOf_64 : decode cX9_ownerOf 64 = .ok (.goto 9, 3) := by decide +kernel
theorem dX9_ownerOf_73 : decode cX9_ownerOf 73 = .ok (.ireturn, 1) := by decide +kernel
theorem dX9_ownerOf_74 : decode cX9_ownerOf 74 = .ok (.iload_n 1, 1) := by decide +kernel
theorem dX9_ownerOf_75 : decode cX9_ownerOf 75 = .ok (.ifCond .ge 10, 3) := by decide +kernel
theorem dX9_ownerOf_78 : decode cX9_ownerOf 78 = .ok (.aload_n 0, 1) := by decide +kernel
theorem dX9_ownerOf_79 : decode cX9_ownerOf 79 = .ok (.getfield 236, 3) := by decide +kernel
theorem dX9_ownerOf_82 : decode cX9_ownerOf 82 = .ok (.goto 9, 3) := by decide +kernel
theorem dX9_ownerOf_91 : decode cX9_ownerOf 91 = .ok (.ireturn, 1) := by decide +kernel
theorem dX9_ownerOf_92 : decode cX9_ownerOf 92 = .ok (.iconst 0, 1) := by decide +kernel
theorem dX9_ownerOf_93 : decode cX9_ownerOf 93 = .ok (.istore 4, 2) := by decide +kernel
theorem dX9_ownerOf_95 : decode cX9_ownerOf 95 = .ok (.iload 4, 2) := by decide +kernel
theorem dX9_ownerOf_97 : decode cX9_ownerOf 97 = .ok (.aload_n 0, 1) := by decide +kernel
theorem dX9_ownerOf_98 : decode cX9_ownerOf 98 = .ok (.getfield 164, 3) := by decide +kernel
theorem dX9_ownerOf_101 : decode cX9_ownerOf 101 = .ok (.if_icmp .ge 42, 3) := by decide +kernel
theorem dX9_ownerOf_143 : decode cX9_ownerOf 143 = .ok (.iload_n 3, 1) := by decide +kernel
theorem dX9_ownerOf_144 : decode cX9_ownerOf 144 = .ok (.ireturn, 1) := by decide +kernel
theorem dX9_ownerOf_145 : decode cX9_ownerOf 145 = .ok (.iconst 0, 1) := by decide +kernel
theorem dX9_ownerOf_146 : decode cX9_ownerOf 146 = .ok (.istore 4, 2) := by decide +kernel
theorem dX9_ownerOf_148 : decode cX9_ownerOf 148 = .ok (.iload 4, 2) := by decide +kernel
theorem dX9_ownerOf_150 : decode cX9_ownerOf 150 = .ok (.aload_n 0, 1) := by decide +kernel
theorem dX9_ownerOf_151 : decode cX9_ownerOf 151 = .ok (.getfield 148, 3) := by decide +kernel
theorem dX9_ownerOf_154 : decode cX9_ownerOf 154 = .ok (.if_icmp .ge 32, 3) := by decide +kernel
theorem dX9_ownerOf_186 : decode cX9_ownerOf 186 = .ok (.iload_n 3, 1) := by decide +kernel
theorem dX9_ownerOf_187 : decode cX9_ownerOf 187 = .ok (.ireturn, 1) := by decide +kernel
theorem dX9_ownerOf_188 : decode cX9_ownerOf 188 = .ok (.aload_n 0, 1) := by decide +kernel
theorem dX9_ownerOf_189 : decode cX9_ownerOf 189 = .ok (.bipush (-2), 2) := by decide +kernel
theorem dX9_ownerOf_191 : decode cX9_ownerOf 191 = .ok (.invokevirtual 122, 3) := by decide +kernel
theorem dX9_ownerOf_194 : decode cX9_ownerOf 194 = .ok (.ireturn, 1) := by decide +kernel
theorem dX9_count_0 : decode cX9_count 0 = .ok (.iload_n 1, 1) := by decide +kernel
theorem dX9_count_1 : decode cX9_count 1 = .ok (.bipush 10, 2) := by decide +kernel
theorem dX9_count_3 : decode cX9_count 3 = .ok (.if_icmp .le 19, 3) := by decide +kernel
theorem dX9_count_6 : decode cX9_count 6 = .ok (.iload_n 1, 1) := by decide +kernel
theorem dX9_count_7 : decode cX9_count 7 = .ok (.bipush 17, 2) := by decide +kernel
theorem dX9_count_9 : decode cX9_count 9 = .ok (.if_icmp .ge 13, 3) := by decide +kernel
theorem dX9_count_12 : decode cX9_count 12 = .ok (.aload_n 0, 1) := by decide +kernel
theorem dX9_count_13 : decode cX9_count 13 = .ok (.getfield 7, 3) := by decide +kernel
theorem dX9_count_16 : decode cX9_count 16 = .ok (.iload_n 1, 1) := by decide +kernel
theorem dX9_count_17 : decode cX9_count 17 = .ok (.bipush 10, 2) := by decide +kernel
theorem dX9_count_19 : decode cX9_count 19 = .ok (.isub, 1) := by decide +kernel
theorem dX9_count_20 : decode cX9_count 20 = .ok (.iaload, 1) := by decide +kernel
theorem dX9_count_21 : decode cX9_count 21 = .ok (.ireturn, 1) := by decide +kernel
theorem dX9_count_22 : decode cX9_count 22 = .ok (.iconst 0, 1) := by decide +kernel
theorem dX9_count_23 : decode cX9_count 23 = .ok (.istore_n 2, 1) := by decide +kernel
theorem dX9_count_24 : decode cX9_count 24 = .ok (.iload_n 1, 1) := by decide +kernel
theorem dX9_count_25 : decode cX9_count 25 = .ok (.tableswitch 187 0 9 #[55, 60, 65, 70, 75, 109, 145, 172, 177, 182], 55) := by decide +kernel
theorem dX9_count_80 : decode cX9_count 80 = .ok (.aload_n 0, 1) := by decide +kernel
theorem dX9_count_81 : decode cX9_count 81 = .ok (.getfield 141, 3) := by decide +kernel
theorem dX9_count_84 : decode cX9_count 84 = .ok (.ireturn, 1) := by decide +kernel
theorem dX9_count_85 : decode cX9_count 85 = .ok (.aload_n 0, 1) := by decide +kernel
theorem dX9_count_86 : decode cX9_count 86 = .ok (.getfield 127, 3) := by decide +kernel
theorem dX9_count_89 : decode cX9_count 89 = .ok (.ireturn, 1) := by decide +kernel
theorem dX9_count_90 : decode cX9_count 90 = .ok (.aload_n 0, 1) := by decide +kernel
theorem dX9_count_91 : decode cX9_count 91 = .ok (.getfield 131, 3) := by decide +kernel
theorem dX9_count_94 : decode cX9_count 94 = .ok (.ireturn, 1) := by decide +kernel
theorem dX9_count_95 : decode cX9_count 95 = .ok (.aload_n 0, 1) := by decide +kernel
theorem dX9_count_96 : decode cX9_count 96 = .ok (.getfield 138, 3) := by decide +kernel
theorem dX9_count_99 : decode cX9_count 99 = .ok (.ireturn, 1) := by decide +kernel
theorem dX9_count_100 : decode cX9_count 100 = .ok (.iconst 0, 1) := by decide +kernel
theorem dX9_count_101 : decode cX9_count 101 = .ok (.istore_n 3, 1) := by decide +kernel
theorem dX9_count_102 : decode cX9_count 102 = .ok (.iload_n 3, 1) := by decide +kernel
theorem dX9_count_103 : decode cX9_count 103 = .ok (.aload_n 0, 1) := by decide +kernel
theorem dX9_count_104 : decode cX9_count 104 = .ok (.getfield 148, 3) := by decide +kernel
theorem dX9_count_107 : decode cX9_count 107 = .ok (.if_icmp .ge 25, 3) := by decide +kernel
theorem dX9_count_132 : decode cX9_count 132 = .ok (.iload_n 2, 1) := by decide +kernel
theorem dX9_count_133 : decode cX9_count 133 = .ok (.ireturn, 1) := by decide +kernel
theorem dX9_count_134 : decode cX9_count 134 = .ok (.iconst 0, 1) := by decide +kernel
theorem dX9_count_135 : decode cX9_count 135 = .ok (.istore_n 3, 1) := by decide +kernel
theorem dX9_count_136 : decode cX9_count 136 = .ok (.iload_n 3, 1) := by decide +kernel
theorem dX9_count_137 : decode cX9_count 137 = .ok (.aload_n 0, 1) := by decide +kernel
theorem dX9_count_138 : decode cX9_count 138 = .ok (.getfield 164, 3) := by decide +kernel
theorem dX9_count_141 : decode cX9_count 141 = .ok (.if_icmp .ge 27, 3) := by decide +kernel
theorem dX9_count_168 : decode cX9_count 168 = .ok (.iload_n 2, 1) := by decide +kernel
theorem dX9_count_169 : decode cX9_count 169 = .ok (.ireturn, 1) := by decide +kernel
theorem dX9_count_170 : decode cX9_count 170 = .ok (.iconst 0, 1) := by decide +kernel
theorem dX9_count_171 : decode cX9_count 171 = .ok (.istore_n 3, 1) := by decide +kernel
theorem dX9_count_172 : decode cX9_count 172 = .ok (.iload_n 3, 1) := by decide +kernel
theorem dX9_count_173 : decode cX9_count 173 = .ok (.aload_n 0, 1) := by decide +kernel
theorem dX9_count_174 : decode cX9_count 174 = .ok (.getfield 127, 3) := by decide +kernel
theorem dX9_count_177 : decode cX9_count 177 = .ok (.if_icmp .ge 18, 3) := by decide +kernel
theorem dX9_count_195 : decode cX9_count 195 = .ok (.iload_n 2, 1) := by decide +kernel
theorem dX9_count_196 : decode cX9_count 196 = .ok (.ireturn, 1) := by decide +kernel
theorem dX9_count_197 : decode cX9_count 197 = .ok (.aload_n 0, 1) := by decide +kernel
theorem dX9_count_198 : decode cX9_count 198 = .ok (.getfield 230, 3) := by decide +kernel
theorem dX9_count_201 : decode cX9_count 201 = .ok (.ireturn, 1) := by decide +kernel
theorem dX9_count_202 : decode cX9_count 202 = .ok (.aload_n 0, 1) := by decide +kernel
theorem dX9_count_203 : decode cX9_count 203 = .ok (.getfield 221, 3) := by decide +kernel
theorem dX9_count_206 : decode cX9_count 206 = .ok (.ireturn, 1) := by decide +kernel
theorem dX9_count_207 : decode cX9_count 207 = .ok (.aload_n 0, 1) := by decide +kernel
theorem dX9_count_208 : decode cX9_count 208 = .ok (.getfield 211, 3) := by decide +kernel
theorem dX9_count_211 : decode cX9_count 211 = .ok (.ireturn, 1) := by decide +kernel
theorem dX9_count_212 : decode cX9_count 212 = .ok (.bipush (-9), 2) := by decide +kernel
theorem dX9_count_214 : decode cX9_count 214 = .ok (.ireturn, 1) := by decide +kernel
