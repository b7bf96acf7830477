theorem dX8_plan_28 : decode cX8_plan 28 = .ok (.invokevirtual 100, 3) := by decide +kernel
theorem dX8_plan_31 : decode cX8_plan 31 = .ok (.ireturn, 1) := by decide +kernel
theorem dX8_plan_32 : decode cX8_plan 32 = .ok (.iload_n 2, 1) := by decide +kernel
theorem dX8_plan_33 : decode cX8_plan 33 = .ok (.iconst (-1), 1) := by decide +kernel
theorem dX8_plan_34 : decode cX8_plan 34 = .ok (.if_icmp .ne 7, 3) := by decide +kernel
theorem dX8_plan_37 : decode cX8_plan 37 = .ok (.iconst 4, 1) := by decide +kernel
theorem dX8_plan_38 : decode cX8_plan 38 = .ok (.goto 4, 3) := by decide +kernel
theorem dX8_plan_41 : decode cX8_plan 41 = .ok (.iconst 2, 1) := by decide +kernel
theorem dX8_plan_42 : decode cX8_plan 42 = .ok (.istore 5, 2) := by decide +kernel
theorem dX8_plan_44 : decode cX8_plan 44 = .ok (.iload_n 3, 1) := by decide +kernel
theorem dX8_plan_45 : decode cX8_plan 45 = .ok (.iconst 1, 1) := by decide +kernel
theorem dX8_plan_46 : decode cX8_plan 46 = .ok (.if_icmp .lt 22, 3) := by decide +kernel
theorem dX8_plan_49 : decode cX8_plan 49 = .ok (.iload_n 3, 1) := by decide +kernel
theorem dX8_plan_50 : decode cX8_plan 50 = .ok (.iload 5, 2) := by decide +kernel
theorem dX8_plan_52 : decode cX8_plan 52 = .ok (.if_icmp .gt 16, 3) := by decide +kernel
theorem dX8_plan_55 : decode cX8_plan 55 = .ok (.iload 4, 2) := by decide +kernel
theorem dX8_plan_57 : decode cX8_plan 57 = .ok (.iconst 1, 1) := by decide +kernel
theorem dX8_plan_58 : decode cX8_plan 58 = .ok (.if_icmp .lt 10, 3) := by decide +kernel
theorem dX8_plan_61 : decode cX8_plan 61 = .ok (.iload 4, 2) := by decide +kernel
theorem dX8_plan_63 : decode cX8_plan 63 = .ok (.bipush 10, 2) := by decide +kernel
theorem dX8_plan_65 : decode cX8_plan 65 = .ok (.if_icmp .le 10, 3) := by decide +kernel
theorem dX8_plan_68 : decode cX8_plan 68 = .ok (.aload_n 0, 1) := by decide +kernel
theorem dX8_plan_69 : decode cX8_plan 69 = .ok (.bipush (-2), 2) := by decide +kernel
theorem dX8_plan_71 : decode cX8_plan 71 = .ok (.invokevirtual 100, 3) := by decide +kernel
theorem dX8_plan_74 : decode cX8_plan 74 = .ok (.ireturn, 1) := by decide +kernel
theorem dX8_plan_75 : decode cX8_plan 75 = .ok (.aload_n 0, 1) := by decide +kernel
theorem dX8_plan_76 : decode cX8_plan 76 = .ok (.getfield 40, 3) := by decide +kernel
theorem dX8_plan_79 : decode cX8_plan 79 = .ok (.iload_n 1, 1) := by decide +kernel
theorem dX8_plan_80 : decode cX8_plan 80 = .ok (.aaload, 1) := by decide +kernel
theorem dX8_plan_81 : decode cX8_plan 81 = .ok (.getfield 160, 3) := by decide +kernel
theorem dX8_plan_84 : decode cX8_plan 84 = .ok (.ifCond .ne 20, 3) := by decide +kernel
theorem dX8_plan_87 : decode cX8_plan 87 = .ok (.iload_n 2, 1) := by decide +kernel
theorem dX8_plan_88 : decode cX8_plan 88 = .ok (.iconst (-1), 1) := by decide +kernel
theorem dX8_plan_89 : decode cX8_plan 89 = .ok (.if_icmp .eq 22, 3) := by decide +kernel
theorem dX8_plan_92 : decode cX8_plan 92 = .ok (.aload_n 0, 1) := by decide +kernel
theorem dX8_plan_93 : decode cX8_plan 93 = .ok (.getfield 40, 3) := by decide +kernel
theorem dX8_plan_96 : decode cX8_plan 96 = .ok (.iload_n 2, 1) := by decide +kernel
theorem dX8_plan_97 : decode cX8_plan 97 = .ok (.aaload, 1) := by decide +kernel
theorem dX8_plan_98 : decode cX8_plan 98 = .ok (.getfield 160, 3) := by decide +kernel
theorem dX8_plan_101 : decode cX8_plan 101 = .ok (.ifCond .eq 10, 3) := by decide +kernel
theorem dX8_plan_104 : decode cX8_plan 104 = .ok (.aload_n 0, 1) := by decide +kernel
theorem dX8_plan_105 : decode cX8_plan 105 = .ok (.bipush (-3), 2) := by decide +kernel
theorem dX8_plan_107 : decode cX8_plan 107 = .ok (.invokevirtual 100, 3) := by decide +kernel
theorem dX8_plan_110 : decode cX8_plan 110 = .ok (.ireturn, 1) := by decide +kernel
theorem dX8_plan_111 : decode cX8_plan 111 = .ok (.iconst 0, 1) := by decide +kernel
theorem dX8_plan_112 : decode cX8_plan 112 = .ok (.istore 6, 2) := by decide +kernel
theorem dX8_plan_114 : decode cX8_plan 114 = .ok (.iload 6, 2) := by decide +kernel
theorem dX8_plan_116 : decode cX8_plan 116 = .ok (.iload_n 3, 1) := by decide +kernel
theorem dX8_plan_117 : decode cX8_plan 117 = .ok (.if_icmp .ge 35, 3) := by decide +kernel
theorem dX8_plan_120 : decode cX8_plan 120 = .ok (.aload_n 0, 1) := by decide +kernel
theorem dX8_plan_121 : decode cX8_plan 121 = .ok (.aload_n 0, 1) := by decide +kernel
theorem dX8_plan_122 : decode cX8_plan 122 = .ok (.getfield 91, 3) := by decide +kernel
theorem dX8_plan_125 : decode cX8_plan 125 = .ok (.iconst 1, 1) := by decide +kernel
theorem dX8_plan_126 : decode cX8_plan 126 = .ok (.iadd, 1) := by decide +kernel
theorem dX8_plan_127 : decode cX8_plan 127 = .ok (.iload 6, 2) := by decide +kernel
theorem dX8_plan_129 : decode cX8_plan 129 = .ok (.iload 4, 2) := by decide +kernel
theorem dX8_plan_131 : decode cX8_plan 131 = .ok (.imul, 1) := by decide +kernel
theorem dX8_plan_132 : decode cX8_plan 132 = .ok (.iadd, 1) := by decide +kernel
theorem dX8_plan_133 : decode cX8_plan 133 = .ok (.invokevirtual 231, 3) := by decide +kernel
theorem dX8_plan_136 : decode cX8_plan 136 = .ok (.ifCond .ne 10, 3) := by decide +kernel
theorem dX8_plan_139 : decode cX8_plan 139 = .ok (.aload_n 0, 1) := by decide +kernel
theorem dX8_plan_140 : decode cX8_plan 140 = .ok (.bipush (-3), 2) := by decide +kernel
theorem dX8_plan_142 : decode cX8_plan 142 = .ok (.invokevirtual 100, 3) := by decide +kernel
theorem dX8_plan_145 : decode cX8_plan 145 = .ok (.ireturn, 1) := by decide +kernel
theorem dX8_plan_146 : decode cX8_plan 146 = .ok (.iinc 6 1, 3) := by decide +kernel
theorem dX8_plan_149 : decode cX8_plan 149 = .ok (.goto (-35), 3) := by decide +kernel
theorem dX8_plan_152 : decode cX8_plan 152 = .ok (.aload_n 0, 1) := by decide +kernel
theorem dX8_plan_153 : decode cX8_plan 153 = .ok (.getfield 91, 3) := by decide +kernel
theorem dX8_plan_156 : decode cX8_plan 156 = .ok (.iload_n 3, 1) := by decide +kernel
theorem dX8_plan_157 : decode cX8_plan 157 = .ok (.iload 4, 2) := by decide +kernel
theorem dX8_plan_159 : decode cX8_plan 159 = .ok (.imul, 1) := by decide +kernel
theorem dX8_plan_160 : decode cX8_plan 160 = .ok (.iadd, 1) := by decide +kernel
theorem dX8_plan_161 : decode cX8_plan 161 = .ok (.sipush 720, 3) := by decide +kernel
theorem dX8_plan_164 : decode cX8_plan 164 = .ok (.if_icmp .le 10, 3) := by decide +kernel
theorem dX8_plan_167 : decode cX8_plan 167 = .ok (.aload_n 0, 1) := by decide +kernel
theorem dX8_plan_168 : decode cX8_plan 168 = .ok (.bipush (-6), 2) := by decide +kernel
theorem dX8_plan_170 : decode cX8_plan 170 = .ok (.invokevirtual 100, 3) := by decide +kernel
theorem dX8_plan_173 : decode cX8_plan 173 = .ok (.ireturn, 1) := by decide +kernel
theorem dX8_plan_174 : decode cX8_plan 174 = .ok (.aload_n 0, 1) := by decide +kernel
theorem dX8_plan_175 : decode cX8_plan 175 = .ok (.getfield 68, 3) := by decide +kernel
theorem dX8_plan_178 : decode cX8_plan 178 = .ok (.iload_n 1, 1) := by decide +kernel
theorem dX8_plan_179 : decode cX8_plan 179 = .ok (.iload_n 2, 1) := by decide +kernel
theorem dX8_plan_180 : decode cX8_plan 180 = .ok (.iload_n 3, 1) := by decide +kernel
theorem dX8_plan_181 : decode cX8_plan 181 = .ok (.iload 4, 2) := by decide +kernel
theorem dX8_plan_183 : decode cX8_plan 183 = .ok (.invokevirtual 234, 3) := by decide +kernel
theorem dX8_plan_186 : decode cX8_plan 186 = .ok (.aload_n 0, 1) := by decide +kernel
theorem dX8_plan_187 : decode cX8_plan 187 = .ok (.invokevirtual 238, 3) := by decide +kernel
theorem dX8_plan_190 : decode cX8_plan 190 = .ok (.aload_n 0, 1) := by decide +kernel
theorem dX8_plan_191 : decode cX8_plan 191 = .ok (.getfield 68, 3) := by decide +kernel
theorem dX8_plan_194 : decode cX8_plan 194 = .ok (.aload_n 0, 1) := by decide +kernel
theorem dX8_plan_195 : decode cX8_plan 195 = .ok (.getfield 75, 3) := by decide +kernel
theorem dX8_plan_198 : decode cX8_plan 198 = .ok (.invokevirtual 241, 3) := by decide +kernel
theorem dX8_plan_201 : decode cX8_plan 201 = .ok (.ireturn, 1) := by decide +kernel
theorem dX8_planned_0 : decode cX8_planned 0 = .ok (.aload_n 0, 1) := by decide +kernel
theorem dX8_planned_1 : decode cX8_planned 1 = .ok (.getfield 68, 3) := by decide +kernel
theorem dX8_planned_4 : decode cX8_planned 4 = .ok (.iload_n 1, 1) := by decide +kernel
theorem dX8_planned_5 : decode cX8_planned 5 = .ok (.iload_n 2, 1) := by decide +kernel
theorem dX8_planned_6 : decode cX8_planned 6 = .ok (.invokevirtual 244, 3) := by decide +kernel
theorem dX8_planned_9 : decode cX8_planned 9 = .ok (.ireturn, 1) := by decide +kernel
theorem dX8_pieceOf_0 : decode cX8_pieceOf 0 = .ok (.aload_n 0, 1) := by decide +kernel
theorem dX8_pieceOf_1 : decode cX8_pieceOf 1 = .ok (.iload_n 1, 1) := by decide +kernel
theorem dX8_pieceOf_2 : decode cX8_pieceOf 2 = .ok (.invokevirtual 127, 3) := by decide +kernel
theorem dX8_pieceOf_5 : decode cX8_pieceOf 5 = .ok (.ifCond .ne 9, 3) := by decide +kernel
theorem dX8_pieceOf_8 : decode cX8_pieceOf 8 = .ok (.aload_n 0, 1) := by decide +kernel
theorem dX8_pieceOf_9 : decode cX8_pieceOf 9 = .ok (.iconst (-1), 1) := by decide +kernel
theorem dX8_pieceOf_10 : decode cX8_pieceOf 10 = .ok (.invokevirtual 100, 3) := by decide +kernel
theorem dX8_pieceOf_13 : decode cX8_pieceOf 13 = .ok (.ireturn, 1) := by decide +kernel
theorem dX8_pieceOf_14 : decode cX8_pieceOf 14 = .ok (.aload_n 0, 1) := by decide +kernel
theorem dX8_pieceOf_15 : decode cX8_pieceOf 15 = .ok (.getfield 11, 3) := by decide +kernel
theorem dX8_pieceOf_18 : decode cX8_pieceOf 18 = .ok (.iload_n 1, 1) := by decide +kernel
theorem dX8_pieceOf_19 : decode cX8_pieceOf 19 = .ok (.aaload, 1) := by decide +kernel
theorem dX8_pieceOf_20 : decode cX8_pieceOf 20 = .ok (.astore_n 3, 1) := by decide +kernel
theorem dX8_pieceOf_21 : decode cX8_pieceOf 21 = .ok (.iload_n 2, 1) := by decide +kernel
theorem dX8_pieceOf_22 : decode cX8_pieceOf 22 = .ok (.tableswitch 79 0 6 #[42, 47, 52, 57, 62, 68, 74], 42) := by decide +kernel
theorem dX8_pieceOf_64 : decode cX8_pieceOf 64 = .ok (.aload_n 3, 1) := by decide +kernel
theorem dX8_pieceOf_65 : decode cX8_pieceOf 65 = .ok (.getfield 210, 3) := by decide +kernel
theorem dX8_pieceOf_68 : decode cX8_pieceOf 68 = .ok (.ireturn, 1) := by decide +kernel
theorem dX8_pieceOf_69 : decode cX8_pieceOf 69 = .ok (.aload_n 3, 1) := by decide +kernel
theorem dX8_pieceOf_70 : decode cX8_pieceOf 70 = .ok (.getfield 247, 3) := by decide +kernel
theorem dX8_pieceOf_73 : decode cX8_pieceOf 73 = .ok (.ireturn, 1) := by decide +kernel
theorem dX8_pieceOf_74 : decode cX8_pieceOf 74 = .ok (.aload_n 3, 1) := by decide +kernel
theorem dX8_pieceOf_75 : decode cX8_pieceOf 75 = .ok (.getfield 189, 3) := by decide +kernel
theorem dX8_pieceOf_78 : decode cX8_pieceOf 78 = .ok (.ireturn, 1) := by decide +kernel
theorem dX8_pieceOf_79 : decode cX8_pieceOf 79 = .ok (.aload_n 3, 1) := by decide +kernel
theorem dX8_pieceOf_80 : decode cX8_pieceOf 80 = .ok (.getfield 204, 3) := by decide +kernel
theorem dX8_pieceOf_83 : decode cX8_pieceOf 83 = .ok (.ireturn, 1) := by decide +kernel
theorem dX8_pieceOf_84 : decode cX8_pieceOf 84 = .ok (.aload_n 0, 1) := by decide +kernel
theorem dX8_pieceOf_85 : decode cX8_pieceOf 85 = .ok (.iload_n 1, 1) := by decide +kernel
theorem dX8_pieceOf_86 : decode cX8_pieceOf 86 = .ok (.invokevirtual 178, 3) := by decide +kernel
theorem dX8_pieceOf_89 : decode cX8_pieceOf 89 = .ok (.ireturn, 1) := by decide +kernel
theorem dX8_pieceOf_90 : decode cX8_pieceOf 90 = .ok (.aload_n 0, 1) := by decide +kernel
theorem dX8_pieceOf_91 : decode cX8_pieceOf 91 = .ok (.iload_n 1, 1) := by decide +kernel
theorem dX8_pieceOf_92 : decode cX8_pieceOf 92 = .ok (.invokevirtual 207, 3) := by decide +kernel
theorem dX8_pieceOf_95 : decode cX8_pieceOf 95 = .ok (.ireturn, 1) := by decide +kernel
theorem dX8_pieceOf_96 : decode cX8_pieceOf 96 = .ok (.aload_n 3, 1) := by decide +kernel
theorem dX8_pieceOf_97 : decode cX8_pieceOf 97 = .ok (.getfield 250, 3) := by decide +kernel
theorem dX8_pieceOf_100 : decode cX8_pieceOf 100 = .ok (.ireturn, 1) := by decide +kernel
theorem dX8_pieceOf_101 : decode cX8_pieceOf 101 = .ok (.aload_n 0, 1) := by decide +kernel
theorem dX8_pieceOf_102 : decode cX8_pieceOf 102 = .ok (.bipush (-2), 2) := by decide +kernel
theorem dX8_pieceOf_104 : decode cX8_pieceOf 104 = .ok (.invokevirtual 100, 3) := by decide +kernel
theorem dX8_pieceOf_107 : decode cX8_pieceOf 107 = .ok (.ireturn, 1) := by decide +kernel
theorem dX8_rightOf_0 : decode cX8_rightOf 0 = .ok (.aload_n 0, 1) := by decide +kernel
theorem dX8_rightOf_1 : decode cX8_rightOf 1 = .ok (.iload_n 1, 1) := by decide +kernel
theorem dX8_rightOf_2 : decode cX8_rightOf 2 = .ok (.invokevirtual 253, 3) := by decide +kernel
theorem dX8_rightOf_5 : decode cX8_rightOf 5 = .ok (.ifCond .ne 9, 3) := by decide +kernel
theorem dX8_rightOf_8 : decode cX8_rightOf 8 = .ok (.aload_n 0, 1) := by decide +kernel
theorem dX8_rightOf_9 : decode cX8_rightOf 9 = .ok (.iconst (-1), 1) := by decide +kernel
theorem dX8_rightOf_10 : decode cX8_rightOf 10 = .ok (.invokevirtual 100, 3) := by decide +kernel
theorem dX8_rightOf_13 : decode cX8_rightOf 13 = .ok (.ireturn, 1) := by decide +kernel
theorem dX8_rightOf_14 : decode cX8_rightOf 14 = .ok (.aload_n 0, 1) := by decide +kernel
theorem dX8_rightOf_15 : decode cX8_rightOf 15 = .ok (.getfield 34, 3) := by decide +kernel
theorem dX8_rightOf_18 : decode cX8_rightOf 18 = .ok (.iload_n 1, 1) := by decide +kernel
theorem dX8_rightOf_19 : decode cX8_rightOf 19 = .ok (.aaload, 1) := by decide +kernel
theorem dX8_rightOf_20 : decode cX8_rightOf 20 = .ok (.astore_n 3, 1) := by decide +kernel
theorem dX8_rightOf_21 : decode cX8_rightOf 21 = .ok (.iload_n 2, 1) := by decide +kernel
theorem dX8_rightOf_22 : decode cX8_rightOf 22 = .ok (.tableswitch 117 0 8 #[50, 55, 61, 67, 72, 77, 90, 107, 112], 50) := by decide +kernel
theorem dX8_rightOf_72 : decode cX8_rightOf 72 = .ok (.aload_n 3, 1) := by decide +kernel
theorem dX8_rightOf_73 : decode cX8_rightOf 73 = .ok (.getfield 140, 3) := by decide +kernel
theorem dX8_rightOf_76 : decode cX8_rightOf 76 = .ok (.ireturn, 1) := by decide +kernel
theorem dX8_rightOf_77 : decode cX8_rightOf 77 = .ok (.aload_n 0, 1) := by decide +kernel
theorem dX8_rightOf_78 : decode cX8_rightOf 78 = .ok (.aload_n 3, 1) := by decide +kernel
theorem dX8_rightOf_79 : decode cX8_rightOf 79 = .ok (.invokevirtual 256, 3) := by decide +kernel
theorem dX8_rightOf_82 : decode cX8_rightOf 82 = .ok (.ireturn, 1) := by decide +kernel
theorem dX8_rightOf_83 : decode cX8_rightOf 83 = .ok (.aload_n 0, 1) := by decide +kernel
theorem dX8_rightOf_84 : decode cX8_rightOf 84 = .ok (.iload_n 1, 1) := by decide +kernel
theorem dX8_rightOf_85 : decode cX8_rightOf 85 = .ok (.invokevirtual 146, 3) := by decide +kernel
theorem dX8_rightOf_88 : decode cX8_rightOf 88 = .ok (.ireturn, 1) := by decide +kernel
theorem dX8_rightOf_89 : decode cX8_rightOf 89 = .ok (.aload_n 3, 1) := by decide +kernel
theorem dX8_rightOf_90 : decode cX8_rightOf 90 = .ok (.getfield 259, 3) := by decide +kernel
theorem dX8_rightOf_93 : decode cX8_rightOf 93 = .ok (.ireturn, 1) := by decide +kernel
theorem dX8_rightOf_94 : decode cX8_rightOf 94 = .ok (.aload_n 3, 1) := by decide +kernel
theorem dX8_rightOf_95 : decode cX8_rightOf 95 = .ok (.getfield 149, 3) := by decide +kernel
theorem dX8_rightOf_98 : decode cX8_rightOf 98 = .ok (.ireturn, 1) := by decide +kernel
theorem dX8_rightOf_99 : decode cX8_rightOf 99 = .ok (.aload_n 3, 1) := by decide +kernel
theorem dX8_rightOf_100 : decode cX8_rightOf 100 = .ok (.getfield 262, 3) := by decide +kernel
theorem dX8_rightOf_103 : decode cX8_rightOf 103 = .ok (.ifCond .eq 7, 3) := by decide +kernel
theorem dX8_rightOf_106 : decode cX8_rightOf 106 = .ok (.iconst 1, 1) := by decide +kernel
theorem dX8_rightOf_107 : decode cX8_rightOf 107 = .ok (.goto 4, 3) := by decide +kernel
theorem dX8_rightOf_110 : decode cX8_rightOf 110 = .ok (.iconst 0, 1) := by decide +kernel
theorem dX8_rightOf_111 : decode cX8_rightOf 111 = .ok (.ireturn, 1) := by decide +kernel
theorem dX8_rightOf_112 : decode cX8_rightOf 112 = .ok (.aload_n 3, 1) := by decide +kernel
theorem dX8_rightOf_113 : decode cX8_rightOf 113 = .ok (.aload_n 0, 1) := by decide +kernel
theorem dX8_rightOf_114 : decode cX8_rightOf 114 = .ok (.getfield 91, 3) := by decide +kernel
theorem dX8_rightOf_117 : decode cX8_rightOf 117 = .ok (.invokevirtual 143, 3) := by decide +kernel
theorem dX8_rightOf_120 : decode cX8_rightOf 120 = .ok (.ifCond .eq 7, 3) := by decide +kernel
theorem dX8_rightOf_123 : decode cX8_rightOf 123 = .ok (.iconst 1, 1) := by decide +kernel
theorem dX8_rightOf_124 : decode cX8_rightOf 124 = .ok (.goto 4, 3) := by decide +kernel
theorem dX8_rightOf_127 : decode cX8_rightOf 127 = .ok (.iconst 0, 1) := by decide +kernel
theorem dX8_rightOf_128 : decode cX8_rightOf 128 = .ok (.ireturn, 1) := by decide +kernel
theorem dX8_rightOf_129 : decode cX8_rightOf 129 = .ok (.aload_n 3, 1) := by decide +kernel
theorem dX8_rightOf_130 : decode cX8_rightOf 130 = .ok (.getfield 266, 3) := by decide +kernel
theorem dX8_rightOf_133 : decode cX8_rightOf 133 = .ok (.ireturn, 1) := by decide +kernel
theorem dX8_rightOf_134 : decode cX8_rightOf 134 = .ok (.aload_n 3, 1) := by decide +kernel
theorem dX8_rightOf_135 : decode cX8_rightOf 135 = .ok (.getfield 269, 3) := by decide +kernel
theorem dX8_rightOf_138 : decode cX8_rightOf 138 = .ok (.ireturn, 1) := by decide +kernel
theorem dX8_rightOf_139 : decode cX8_rightOf 139 = .ok (.aload_n 0, 1) := by decide +kernel
theorem dX8_rightOf_140 : decode cX8_rightOf 140 = .ok (.bipush (-2), 2) := by decide +kernel
theorem dX8_rightOf_142 : decode cX8_rightOf 142 = .ok (.invokevirtual 100, 3) := by decide +kernel
theorem dX8_rightOf_145 : decode cX8_rightOf 145 = .ok (.ireturn, 1) := by decide +kernel
theorem dX8_herdOf_0 : decode cX8_herdOf 0 = .ok (.aload_n 0, 1) := by decide +kernel
theorem dX8_herdOf_1 : decode cX8_herdOf 1 = .ok (.iload_n 1, 1) := by decide +kernel
theorem dX8_herdOf_2 : decode cX8_herdOf 2 = .ok (.invokevirtual 157, 3) := by decide +kernel
theorem dX8_herdOf_5 : decode cX8_herdOf 5 = .ok (.ifCond .ne 9, 3) := by decide +kernel
theorem dX8_herdOf_8 : decode cX8_herdOf 8 = .ok (.aload_n 0, 1) := by decide +kernel
theorem dX8_herdOf_9 : decode cX8_herdOf 9 = .ok (.iconst (-1), 1) := by decide +kernel
theorem dX8_herdOf_10 : decode cX8_herdOf 10 = .ok (.invokevirtual 100, 3) := by decide +kernel
theorem dX8_herdOf_13 : decode cX8_herdOf 13 = .ok (.ireturn, 1) := by decide +kernel
theorem dX8_herdOf_14 : decode cX8_herdOf 14 = .ok (.aload_n 0, 1) := by decide +kernel
theorem dX8_herdOf_15 : decode cX8_herdOf 15 = .ok (.getfield 40, 3) := by decide +kernel
theorem dX8_herdOf_18 : decode cX8_herdOf 18 = .ok (.iload_n 1, 1) := by decide +kernel
theorem dX8_herdOf_19 : decode cX8_herdOf 19 = .ok (.aaload, 1) := by decide +kernel
theorem dX8_herdOf_20 : decode cX8_herdOf 20 = .ok (.astore_n 3, 1) := by decide +kernel
theorem dX8_herdOf_21 : decode cX8_herdOf 21 = .ok (.iload_n 2, 1) := by decide +kernel
theorem dX8_herdOf_22 : decode cX8_herdOf 22 = .ok (.tableswitch 81 0 6 #[42, 47, 52, 57, 62, 67, 72], 42) := by decide +kernel
theorem dX8_herdOf_64 : decode cX8_herdOf 64 = .ok (.aload_n 3, 1) := by decide +kernel
theorem dX8_herdOf_65 : decode cX8_herdOf 65 = .ok (.getfield 169, 3) := by decide +kernel
theorem dX8_herdOf_68 : decode cX8_herdOf 68 = .ok (.ireturn, 1) := by decide +kernel
theorem dX8_herdOf_69 : decode cX8_herdOf 69 = .ok (.aload_n 3, 1) := by decide +kernel
theorem dX8_herdOf_70 : decode cX8_herdOf 70 = .ok (.getfield 272, 3) := by decide +kernel
theorem dX8_herdOf_73 : decode cX8_herdOf 73 = .ok (.ireturn, 1) := by decide +kernel
theorem dX8_herdOf_74 : decode cX8_herdOf 74 = .ok (.aload_n 3, 1) := by decide +kernel
theorem dX8_herdOf_75 : decode cX8_herdOf 75 = .ok (.getfield 275, 3) := by decide +kernel
theorem dX8_herdOf_78 : decode cX8_herdOf 78 = .ok (.ireturn, 1) := by decide +kernel
theorem dX8_herdOf_79 : decode cX8_herdOf 79 = .ok (.aload_n 3, 1) := by decide +kernel
theorem dX8_herdOf_80 : decode cX8_herdOf 80 = .ok (.getfield 163, 3) := by decide +kernel
theorem dX8_herdOf_83 : decode cX8_herdOf 83 = .ok (.ireturn, 1) := by decide +kernel
theorem dX8_herdOf_84 : decode cX8_herdOf 84 = .ok (.aload_n 3, 1) := by decide +kernel
theorem dX8_herdOf_85 : decode cX8_herdOf 85 = .ok (.getfield 278, 3) := by decide +kernel
theorem dX8_herdOf_88 : decode cX8_herdOf 88 = .ok (.ireturn, 1) := by decide +kernel
theorem dX8_herdOf_89 : decode cX8_herdOf 89 = .ok (.aload_n 3, 1) := by decide +kernel
theorem dX8_herdOf_90 : decode cX8_herdOf 90 = .ok (.getfield 160, 3) := by decide +kernel
theorem dX8_herdOf_93 : decode cX8_herdOf 93 = .ok (.ireturn, 1) := by decide +kernel
theorem dX8_herdOf_94 : decode cX8_herdOf 94 = .ok (.aload_n 3, 1) := by decide +kernel
theorem dX8_herdOf_95 : decode cX8_herdOf 95 = .ok (.aload_n 0, 1) := by decide +kernel
theorem dX8_herdOf_96 : decode cX8_herdOf 96 = .ok (.getfield 91, 3) := by decide +kernel
theorem dX8_herdOf_99 : decode cX8_herdOf 99 = .ok (.invokevirtual 225, 3) := by decide +kernel
theorem dX8_herdOf_102 : decode cX8_herdOf 102 = .ok (.ireturn, 1) := by decide +kernel
theorem dX8_herdOf_103 : decode cX8_herdOf 103 = .ok (.aload_n 0, 1) := by decide +kernel
theorem dX8_herdOf_104 : decode cX8_herdOf 104 = .ok (.bipush (-2), 2) := by decide +kernel
theorem dX8_herdOf_106 : decode cX8_herdOf 106 = .ok (.invokevirtual 100, 3) := by decide +kernel
theorem dX8_herdOf_109 : decode cX8_herdOf 109 = .ok (.ireturn, 1) := by decide +kernel
theorem dX8_ownerOf_0 : decode cX8_ownerOf 0 = .ok (.iload_n 1, 1) := by decide +kernel
theorem dX8_ownerOf_1 : decode cX8_ownerOf 1 = .ok (.iconst (-1), 1) := by decide +kernel
theorem dX8_ownerOf_2 : decode cX8_ownerOf 2 = .ok (.if_icmp .ne 7, 3) := by decide +kernel
theorem dX8_ownerOf_5 : decode cX8_ownerOf 5 = .ok (.iconst 1, 1) := by decide +kernel
theorem dX8_ownerOf_6 : decode cX8_ownerOf 6 = .ok (.goto 4, 3) := by decide +kernel
theorem dX8_ownerOf_9 : decode cX8_ownerOf 9 = .ok (.iconst 0, 1) := by decide +kernel
theorem dX8_ownerOf_10 : decode cX8_ownerOf 10 = .ok (.istore_n 3, 1) := by decide +kernel
theorem dX8_ownerOf_11 : decode cX8_ownerOf 11 = .ok (.iload_n 3, 1) := by decide +kernel
theorem dX8_ownerOf_12 : decode cX8_ownerOf 12 = .ok (.ifCond .ne 17, 3) := by decide +kernel
theorem dX8_ownerOf_15 : decode cX8_ownerOf 15 = .ok (.aload_n 0, 1) := by decide +kernel
theorem dX8_ownerOf_16 : decode cX8_ownerOf 16 = .ok (.iload_n 1, 1) := by decide +kernel
theorem dX8_ownerOf_17 : decode cX8_ownerOf 17 = .ok (.invokevirtual 108, 3) := by decide +kernel
theorem dX8_ownerOf_20 : decode cX8_ownerOf 20 = .ok (.ifCond .ne 9, 3) := by decide +kernel
theorem dX8_ownerOf_23 : decode cX8_ownerOf 23 = .ok (.aload_n 0, 1) := by decide +kernel
theorem dX8_ownerOf_24 : decode cX8_ownerOf 24 = .ok (.iconst (-1), 1) := by decide +kernel
theorem dX8_ownerOf_25 : decode cX8_ownerOf 25 = .ok (.invokevirtual 100, 3) := by decide +kernel
theorem dX8_ownerOf_28 : decode cX8_ownerOf 28 = .ok (.ireturn, 1) := by decide +kernel
theorem dX8_ownerOf_29 : decode cX8_ownerOf 29 = .ok (.iload_n 3, 1) := by decide +kernel
theorem dX8_ownerOf_30 : decode cX8_ownerOf 30 = .ok (.ifCond .eq 10, 3) := by decide +kernel
theorem dX8_ownerOf_33 : decode cX8_ownerOf 33 = .ok (.aload_n 0, 1) := by decide +kernel
theorem dX8_ownerOf_34 : decode cX8_ownerOf 34 = .ok (.getfield 24, 3) := by decide +kernel
theorem dX8_ownerOf_37 : decode cX8_ownerOf 37 = .ok (.goto 9, 3) := by decide +kernel
theorem dX8_ownerOf_40 : decode cX8_ownerOf 40 = .ok (.aload_n 0, 1) := by decide +kernel
theorem dX8_ownerOf_41 : decode cX8_ownerOf 41 = .ok (.getfield 17, 3) := by decide +kernel
theorem dX8_ownerOf_44 : decode cX8_ownerOf 44 = .ok (.iload_n 1, 1) := by decide +kernel
theorem dX8_ownerOf_45 : decode cX8_ownerOf 45 = .ok (.aaload, 1) := by decide +kernel
theorem dX8_ownerOf_46 : decode cX8_ownerOf 46 = .ok (.astore 4, 2) := by decide +kernel
theorem dX8_ownerOf_48 : decode cX8_ownerOf 48 = .ok (.iload_n 2, 1) := by decide +kernel
theorem dX8_ownerOf_49 : decode cX8_ownerOf 49 = .ok (.tableswitch 61 0 3 #[31, 37, 43, 52], 31) := by decide +kernel
theorem dX8_ownerOf_80 : decode cX8_ownerOf 80 = .ok (.aload 4, 2) := by decide +kernel
theorem dX8_ownerOf_82 : decode cX8_ownerOf 82 = .ok (.getfield 228, 3) := by decide +kernel
theorem dX8_ownerOf_85 : decode cX8_ownerOf 85 = .ok (.ireturn, 1) := by decide +kernel
theorem dX8_ownerOf_86 : decode cX8_ownerOf 86 = .ok (.aload 4, 2) := by decide +kernel
theorem dX8_ownerOf_88 : decode cX8_ownerOf 88 = .ok (.getfield 281, 3) := by decide +kernel
theorem dX8_ownerOf_91 : decode cX8_ownerOf 91 = .ok (.ireturn, 1) := by decide +kernel
theorem dX8_ownerOf_92 : decode cX8_ownerOf 92 = .ok (.aload_n 0, 1) := by decide +kernel
theorem dX8_ownerOf_93 : decode cX8_ownerOf 93 = .ok (.iload_n 1, 1) := by decide +kernel
theorem dX8_ownerOf_94 : decode cX8_ownerOf 94 = .ok (.invokevirtual 284, 3) := by decide +kernel
theorem dX8_ownerOf_97 : decode cX8_ownerOf 97 = .ok (.invokevirtual 288, 3) := by decide +kernel
theorem dX8_ownerOf_100 : decode cX8_ownerOf 100 = .ok (.ireturn, 1) := by decide +kernel
theorem dX8_ownerOf_101 : decode cX8_ownerOf 101 = .ok (.aload_n 0, 1) := by decide +kernel
theorem dX8_ownerOf_102 : decode cX8_ownerOf 102 = .ok (.iload_n 1, 1) := by decide +kernel
theorem dX8_ownerOf_103 : decode cX8_ownerOf 103 = .ok (.invokevirtual 284, 3) := by decide +kernel
theorem dX8_ownerOf_106 : decode cX8_ownerOf 106 = .ok (.invokevirtual 291, 3) := by decide +kernel
theorem dX8_ownerOf_109 : decode cX8_ownerOf 109 = .ok (.ireturn, 1) := by decide +kernel
theorem dX8_ownerOf_110 : decode cX8_ownerOf 110 = .ok (.aload_n 0, 1) := by decide +kernel
theorem dX8_ownerOf_111 : decode cX8_ownerOf 111 = .ok (.bipush (-2), 2) := by decide +kernel
theorem dX8_ownerOf_113 : decode cX8_ownerOf 113 = .ok (.invokevirtual 100, 3) := by decide +kernel
theorem dX8_ownerOf_116 : decode cX8_ownerOf 116 = .ok (.ireturn, 1) := by decide +kernel
theorem dX8_count_0 : decode cX8_count 0 = .ok (.iload_n 1, 1) := by decide +kernel
theorem dX8_count_1 : decode cX8_count 1 = .ok (.tableswitch 105 0 9 #[55, 60, 65, 70, 75, 80, 85, 90, 95, 100], 55) := by decide +kernel
theorem dX8_count_56 : decode cX8_count 56 = .ok (.aload_n 0, 1) := by decide +kernel
theorem dX8_count_57 : decode cX8_count 57 = .ok (.getfield 91, 3) := by decide +kernel
theorem dX8_count_60 : decode cX8_count 60 = .ok (.ireturn, 1) := by decide +kernel
theorem dX8_count_61 : decode cX8_count 61 = .ok (.aload_n 0, 1) := by decide +kernel
theorem dX8_count_62 : decode cX8_count 62 = .ok (.getfield 75, 3) := by decide +kernel
theorem dX8_count_65 : decode cX8_count 65 = .ok (.ireturn, 1) := by decide +kernel
theorem dX8_count_66 : decode cX8_count 66 = .ok (.aload_n 0, 1) := by decide +kernel
theorem dX8_count_67 : decode cX8_count 67 = .ok (.getfield 79, 3) := by decide +kernel
