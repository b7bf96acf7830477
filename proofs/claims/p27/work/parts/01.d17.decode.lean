theorem dX9_sells_61 : decode cX9_sells 61 = .ok (.aload_n 0, 1) := by decide +kernel
theorem dX9_sells_62 : decode cX9_sells 62 = .ok (.getfield 98, 3) := by decide +kernel
theorem dX9_sells_65 : decode cX9_sells 65 = .ok (.iload_n 1, 1) := by decide +kernel
theorem dX9_sells_66 : decode cX9_sells 66 = .ok (.iconst 2, 1) := by decide +kernel
theorem dX9_sells_67 : decode cX9_sells 67 = .ok (.iastore, 1) := by decide +kernel
theorem dX9_sells_68 : decode cX9_sells 68 = .ok (.aload_n 0, 1) := by decide +kernel
theorem dX9_sells_69 : decode cX9_sells 69 = .ok (.dup, 1) := by decide +kernel
theorem dX9_sells_70 : decode cX9_sells 70 = .ok (.getfield 205, 3) := by decide +kernel
theorem dX9_sells_73 : decode cX9_sells 73 = .ok (.iload_n 3, 1) := by decide +kernel
theorem dX9_sells_74 : decode cX9_sells 74 = .ok (.iadd, 1) := by decide +kernel
theorem dX9_sells_75 : decode cX9_sells 75 = .ok (.putfield 205, 3) := by decide +kernel
theorem dX9_sells_78 : decode cX9_sells 78 = .ok (.aload_n 0, 1) := by decide +kernel
theorem dX9_sells_79 : decode cX9_sells 79 = .ok (.getfield 32, 3) := by decide +kernel
theorem dX9_sells_82 : decode cX9_sells 82 = .ok (.aload_n 0, 1) := by decide +kernel
theorem dX9_sells_83 : decode cX9_sells 83 = .ok (.getfield 80, 3) := by decide +kernel
theorem dX9_sells_86 : decode cX9_sells 86 = .ok (.iload_n 1, 1) := by decide +kernel
theorem dX9_sells_87 : decode cX9_sells 87 = .ok (.iaload, 1) := by decide +kernel
theorem dX9_sells_88 : decode cX9_sells 88 = .ok (.dup2, 1) := by decide +kernel
theorem dX9_sells_89 : decode cX9_sells 89 = .ok (.iaload, 1) := by decide +kernel
theorem dX9_sells_90 : decode cX9_sells 90 = .ok (.iload_n 2, 1) := by decide +kernel
theorem dX9_sells_91 : decode cX9_sells 91 = .ok (.iload_n 3, 1) := by decide +kernel
theorem dX9_sells_92 : decode cX9_sells 92 = .ok (.isub, 1) := by decide +kernel
theorem dX9_sells_93 : decode cX9_sells 93 = .ok (.iadd, 1) := by decide +kernel
theorem dX9_sells_94 : decode cX9_sells 94 = .ok (.iastore, 1) := by decide +kernel
theorem dX9_sells_95 : decode cX9_sells 95 = .ok (.iinc 1 1, 3) := by decide +kernel
theorem dX9_sells_98 : decode cX9_sells 98 = .ok (.goto (-96), 3) := by decide +kernel
theorem dX9_sells_101 : decode cX9_sells 101 = .ok (.return_, 1) := by decide +kernel
theorem dX9_isAsked_0 : decode cX9_isAsked 0 = .ok (.aload_n 0, 1) := by decide +kernel
theorem dX9_isAsked_1 : decode cX9_isAsked 1 = .ok (.iload_n 1, 1) := by decide +kernel
theorem dX9_isAsked_2 : decode cX9_isAsked 2 = .ok (.invokevirtual 155, 3) := by decide +kernel
theorem dX9_isAsked_5 : decode cX9_isAsked 5 = .ok (.istore_n 2, 1) := by decide +kernel
theorem dX9_isAsked_6 : decode cX9_isAsked 6 = .ok (.iconst 0, 1) := by decide +kernel
theorem dX9_isAsked_7 : decode cX9_isAsked 7 = .ok (.istore_n 3, 1) := by decide +kernel
theorem dX9_isAsked_8 : decode cX9_isAsked 8 = .ok (.iconst 0, 1) := by decide +kernel
theorem dX9_isAsked_9 : decode cX9_isAsked 9 = .ok (.istore 4, 2) := by decide +kernel
theorem dX9_isAsked_11 : decode cX9_isAsked 11 = .ok (.iload 4, 2) := by decide +kernel
theorem dX9_isAsked_13 : decode cX9_isAsked 13 = .ok (.aload_n 0, 1) := by decide +kernel
theorem dX9_isAsked_14 : decode cX9_isAsked 14 = .ok (.getfield 164, 3) := by decide +kernel
theorem dX9_isAsked_17 : decode cX9_isAsked 17 = .ok (.if_icmp .ge 86, 3) := by decide +kernel
theorem dX9_isAsked_20 : decode cX9_isAsked 20 = .ok (.iload_n 3, 1) := by decide +kernel
theorem dX9_isAsked_21 : decode cX9_isAsked 21 = .ok (.ifCond .ne 82, 3) := by decide +kernel
theorem dX9_isAsked_24 : decode cX9_isAsked 24 = .ok (.aload_n 0, 1) := by decide +kernel
theorem dX9_isAsked_25 : decode cX9_isAsked 25 = .ok (.iload 4, 2) := by decide +kernel
theorem dX9_isAsked_27 : decode cX9_isAsked 27 = .ok (.invokevirtual 167, 3) := by decide +kernel
theorem dX9_isAsked_30 : decode cX9_isAsked 30 = .ok (.ifCond .eq 65, 3) := by decide +kernel
theorem dX9_isAsked_33 : decode cX9_isAsked 33 = .ok (.aload_n 0, 1) := by decide +kernel
theorem dX9_isAsked_34 : decode cX9_isAsked 34 = .ok (.getfield 80, 3) := by decide +kernel
theorem dX9_isAsked_37 : decode cX9_isAsked 37 = .ok (.iload 4, 2) := by decide +kernel
theorem dX9_isAsked_39 : decode cX9_isAsked 39 = .ok (.iaload, 1) := by decide +kernel
theorem dX9_isAsked_40 : decode cX9_isAsked 40 = .ok (.iload_n 2, 1) := by decide +kernel
theorem dX9_isAsked_41 : decode cX9_isAsked 41 = .ok (.if_icmp .ne 54, 3) := by decide +kernel
theorem dX9_isAsked_44 : decode cX9_isAsked 44 = .ok (.aload_n 0, 1) := by decide +kernel
theorem dX9_isAsked_45 : decode cX9_isAsked 45 = .ok (.getfield 50, 3) := by decide +kernel
theorem dX9_isAsked_48 : decode cX9_isAsked 48 = .ok (.iload_n 1, 1) := by decide +kernel
theorem dX9_isAsked_49 : decode cX9_isAsked 49 = .ok (.iaload, 1) := by decide +kernel
theorem dX9_isAsked_50 : decode cX9_isAsked 50 = .ok (.iconst 2, 1) := by decide +kernel
theorem dX9_isAsked_51 : decode cX9_isAsked 51 = .ok (.if_icmp .ne 14, 3) := by decide +kernel
theorem dX9_isAsked_54 : decode cX9_isAsked 54 = .ok (.aload_n 0, 1) := by decide +kernel
theorem dX9_isAsked_55 : decode cX9_isAsked 55 = .ok (.getfield 83, 3) := by decide +kernel
theorem dX9_isAsked_58 : decode cX9_isAsked 58 = .ok (.iload 4, 2) := by decide +kernel
theorem dX9_isAsked_60 : decode cX9_isAsked 60 = .ok (.iaload, 1) := by decide +kernel
theorem dX9_isAsked_61 : decode cX9_isAsked 61 = .ok (.iconst 2, 1) := by decide +kernel
theorem dX9_isAsked_62 : decode cX9_isAsked 62 = .ok (.if_icmp .ne 33, 3) := by decide +kernel
theorem dX9_isAsked_65 : decode cX9_isAsked 65 = .ok (.aload_n 0, 1) := by decide +kernel
theorem dX9_isAsked_66 : decode cX9_isAsked 66 = .ok (.getfield 50, 3) := by decide +kernel
theorem dX9_isAsked_69 : decode cX9_isAsked 69 = .ok (.iload_n 1, 1) := by decide +kernel
theorem dX9_isAsked_70 : decode cX9_isAsked 70 = .ok (.iaload, 1) := by decide +kernel
theorem dX9_isAsked_71 : decode cX9_isAsked 71 = .ok (.iconst 3, 1) := by decide +kernel
theorem dX9_isAsked_72 : decode cX9_isAsked 72 = .ok (.if_icmp .ne 19, 3) := by decide +kernel
theorem dX9_isAsked_75 : decode cX9_isAsked 75 = .ok (.aload_n 0, 1) := by decide +kernel
theorem dX9_isAsked_76 : decode cX9_isAsked 76 = .ok (.getfield 89, 3) := by decide +kernel
theorem dX9_isAsked_79 : decode cX9_isAsked 79 = .ok (.iload 4, 2) := by decide +kernel
theorem dX9_isAsked_81 : decode cX9_isAsked 81 = .ok (.iaload, 1) := by decide +kernel
theorem dX9_isAsked_82 : decode cX9_isAsked 82 = .ok (.aload_n 0, 1) := by decide +kernel
theorem dX9_isAsked_83 : decode cX9_isAsked 83 = .ok (.getfield 65, 3) := by decide +kernel
theorem dX9_isAsked_86 : decode cX9_isAsked 86 = .ok (.iload_n 1, 1) := by decide +kernel
theorem dX9_isAsked_87 : decode cX9_isAsked 87 = .ok (.iaload, 1) := by decide +kernel
theorem dX9_isAsked_88 : decode cX9_isAsked 88 = .ok (.if_icmp .ne 7, 3) := by decide +kernel
theorem dX9_isAsked_91 : decode cX9_isAsked 91 = .ok (.iconst 1, 1) := by decide +kernel
theorem dX9_isAsked_92 : decode cX9_isAsked 92 = .ok (.goto 4, 3) := by decide +kernel
theorem dX9_isAsked_95 : decode cX9_isAsked 95 = .ok (.iconst 0, 1) := by decide +kernel
theorem dX9_isAsked_96 : decode cX9_isAsked 96 = .ok (.istore_n 3, 1) := by decide +kernel
theorem dX9_isAsked_97 : decode cX9_isAsked 97 = .ok (.iinc 4 1, 3) := by decide +kernel
theorem dX9_isAsked_100 : decode cX9_isAsked 100 = .ok (.goto (-89), 3) := by decide +kernel
theorem dX9_isAsked_103 : decode cX9_isAsked 103 = .ok (.iload_n 3, 1) := by decide +kernel
theorem dX9_isAsked_104 : decode cX9_isAsked 104 = .ok (.ireturn, 1) := by decide +kernel
theorem dX9_lapses_0 : decode cX9_lapses 0 = .ok (.aload_n 0, 1) := by decide +kernel
theorem dX9_lapses_1 : decode cX9_lapses 1 = .ok (.getfield 148, 3) := by decide +kernel
theorem dX9_lapses_4 : decode cX9_lapses 4 = .ok (.iconst 1, 1) := by decide +kernel
theorem dX9_lapses_5 : decode cX9_lapses 5 = .ok (.isub, 1) := by decide +kernel
theorem dX9_lapses_6 : decode cX9_lapses 6 = .ok (.istore_n 1, 1) := by decide +kernel
theorem dX9_lapses_7 : decode cX9_lapses 7 = .ok (.iload_n 1, 1) := by decide +kernel
theorem dX9_lapses_8 : decode cX9_lapses 8 = .ok (.ifCond .lt 120, 3) := by decide +kernel
theorem dX9_lapses_11 : decode cX9_lapses 11 = .ok (.aload_n 0, 1) := by decide +kernel
theorem dX9_lapses_12 : decode cX9_lapses 12 = .ok (.getfield 77, 3) := by decide +kernel
theorem dX9_lapses_15 : decode cX9_lapses 15 = .ok (.iload_n 1, 1) := by decide +kernel
theorem dX9_lapses_16 : decode cX9_lapses 16 = .ok (.aload_n 0, 1) := by decide +kernel
theorem dX9_lapses_17 : decode cX9_lapses 17 = .ok (.iload_n 1, 1) := by decide +kernel
theorem dX9_lapses_18 : decode cX9_lapses 18 = .ok (.invokevirtual 158, 3) := by decide +kernel
theorem dX9_lapses_21 : decode cX9_lapses 21 = .ok (.ifCond .le 15, 3) := by decide +kernel
theorem dX9_lapses_24 : decode cX9_lapses 24 = .ok (.aload_n 0, 1) := by decide +kernel
theorem dX9_lapses_25 : decode cX9_lapses 25 = .ok (.iload_n 1, 1) := by decide +kernel
theorem dX9_lapses_26 : decode cX9_lapses 26 = .ok (.invokevirtual 208, 3) := by decide +kernel
theorem dX9_lapses_29 : decode cX9_lapses 29 = .ok (.ifCond .eq 7, 3) := by decide +kernel
theorem dX9_lapses_32 : decode cX9_lapses 32 = .ok (.iconst 1, 1) := by decide +kernel
theorem dX9_lapses_33 : decode cX9_lapses 33 = .ok (.goto 4, 3) := by decide +kernel
theorem dX9_lapses_36 : decode cX9_lapses 36 = .ok (.iconst 0, 1) := by decide +kernel
theorem dX9_lapses_37 : decode cX9_lapses 37 = .ok (.bastore, 1) := by decide +kernel
theorem dX9_lapses_38 : decode cX9_lapses 38 = .ok (.iload_n 1, 1) := by decide +kernel
theorem dX9_lapses_39 : decode cX9_lapses 39 = .ok (.iconst 1, 1) := by decide +kernel
theorem dX9_lapses_40 : decode cX9_lapses 40 = .ok (.iadd, 1) := by decide +kernel
theorem dX9_lapses_41 : decode cX9_lapses 41 = .ok (.istore_n 2, 1) := by decide +kernel
theorem dX9_lapses_42 : decode cX9_lapses 42 = .ok (.iload_n 2, 1) := by decide +kernel
theorem dX9_lapses_43 : decode cX9_lapses 43 = .ok (.aload_n 0, 1) := by decide +kernel
theorem dX9_lapses_44 : decode cX9_lapses 44 = .ok (.getfield 148, 3) := by decide +kernel
theorem dX9_lapses_47 : decode cX9_lapses 47 = .ok (.if_icmp .ge 56, 3) := by decide +kernel
theorem dX9_lapses_50 : decode cX9_lapses 50 = .ok (.aload_n 0, 1) := by decide +kernel
theorem dX9_lapses_51 : decode cX9_lapses 51 = .ok (.iload_n 1, 1) := by decide +kernel
theorem dX9_lapses_52 : decode cX9_lapses 52 = .ok (.invokevirtual 144, 3) := by decide +kernel
theorem dX9_lapses_55 : decode cX9_lapses 55 = .ok (.ifCond .eq 48, 3) := by decide +kernel
theorem dX9_lapses_58 : decode cX9_lapses 58 = .ok (.aload_n 0, 1) := by decide +kernel
theorem dX9_lapses_59 : decode cX9_lapses 59 = .ok (.getfield 77, 3) := by decide +kernel
theorem dX9_lapses_62 : decode cX9_lapses 62 = .ok (.iload_n 1, 1) := by decide +kernel
theorem dX9_lapses_63 : decode cX9_lapses 63 = .ok (.aload_n 0, 1) := by decide +kernel
theorem dX9_lapses_64 : decode cX9_lapses 64 = .ok (.getfield 77, 3) := by decide +kernel
theorem dX9_lapses_67 : decode cX9_lapses 67 = .ok (.iload_n 1, 1) := by decide +kernel
theorem dX9_lapses_68 : decode cX9_lapses 68 = .ok (.baload, 1) := by decide +kernel
theorem dX9_lapses_69 : decode cX9_lapses 69 = .ok (.ifCond .ne 22, 3) := by decide +kernel
theorem dX9_lapses_72 : decode cX9_lapses 72 = .ok (.aload_n 0, 1) := by decide +kernel
theorem dX9_lapses_73 : decode cX9_lapses 73 = .ok (.getfield 68, 3) := by decide +kernel
theorem dX9_lapses_76 : decode cX9_lapses 76 = .ok (.iload_n 2, 1) := by decide +kernel
theorem dX9_lapses_77 : decode cX9_lapses 77 = .ok (.iaload, 1) := by decide +kernel
theorem dX9_lapses_78 : decode cX9_lapses 78 = .ok (.iload_n 1, 1) := by decide +kernel
theorem dX9_lapses_79 : decode cX9_lapses 79 = .ok (.if_icmp .ne 16, 3) := by decide +kernel
theorem dX9_lapses_82 : decode cX9_lapses 82 = .ok (.aload_n 0, 1) := by decide +kernel
theorem dX9_lapses_83 : decode cX9_lapses 83 = .ok (.getfield 77, 3) := by decide +kernel
theorem dX9_lapses_86 : decode cX9_lapses 86 = .ok (.iload_n 2, 1) := by decide +kernel
theorem dX9_lapses_87 : decode cX9_lapses 87 = .ok (.baload, 1) := by decide +kernel
theorem dX9_lapses_88 : decode cX9_lapses 88 = .ok (.ifCond .eq 7, 3) := by decide +kernel
theorem dX9_lapses_91 : decode cX9_lapses 91 = .ok (.iconst 1, 1) := by decide +kernel
theorem dX9_lapses_92 : decode cX9_lapses 92 = .ok (.goto 4, 3) := by decide +kernel
theorem dX9_lapses_95 : decode cX9_lapses 95 = .ok (.iconst 0, 1) := by decide +kernel
theorem dX9_lapses_96 : decode cX9_lapses 96 = .ok (.bastore, 1) := by decide +kernel
theorem dX9_lapses_97 : decode cX9_lapses 97 = .ok (.iinc 2 1, 3) := by decide +kernel
theorem dX9_lapses_100 : decode cX9_lapses 100 = .ok (.goto (-58), 3) := by decide +kernel
theorem dX9_lapses_103 : decode cX9_lapses 103 = .ok (.aload_n 0, 1) := by decide +kernel
theorem dX9_lapses_104 : decode cX9_lapses 104 = .ok (.getfield 77, 3) := by decide +kernel
theorem dX9_lapses_107 : decode cX9_lapses 107 = .ok (.iload_n 1, 1) := by decide +kernel
theorem dX9_lapses_108 : decode cX9_lapses 108 = .ok (.baload, 1) := by decide +kernel
theorem dX9_lapses_109 : decode cX9_lapses 109 = .ok (.ifCond .eq 13, 3) := by decide +kernel
theorem dX9_lapses_112 : decode cX9_lapses 112 = .ok (.aload_n 0, 1) := by decide +kernel
theorem dX9_lapses_113 : decode cX9_lapses 113 = .ok (.getfield 71, 3) := by decide +kernel
theorem dX9_lapses_116 : decode cX9_lapses 116 = .ok (.iload_n 1, 1) := by decide +kernel
theorem dX9_lapses_117 : decode cX9_lapses 117 = .ok (.aload_n 0, 1) := by decide +kernel
theorem dX9_lapses_118 : decode cX9_lapses 118 = .ok (.getfield 141, 3) := by decide +kernel
theorem dX9_lapses_121 : decode cX9_lapses 121 = .ok (.iastore, 1) := by decide +kernel
theorem dX9_lapses_122 : decode cX9_lapses 122 = .ok (.iinc 1 (-1), 3) := by decide +kernel
theorem dX9_lapses_125 : decode cX9_lapses 125 = .ok (.goto (-118), 3) := by decide +kernel
theorem dX9_lapses_128 : decode cX9_lapses 128 = .ok (.iconst 0, 1) := by decide +kernel
theorem dX9_lapses_129 : decode cX9_lapses 129 = .ok (.istore_n 1, 1) := by decide +kernel
theorem dX9_lapses_130 : decode cX9_lapses 130 = .ok (.iload_n 1, 1) := by decide +kernel
theorem dX9_lapses_131 : decode cX9_lapses 131 = .ok (.aload_n 0, 1) := by decide +kernel
theorem dX9_lapses_132 : decode cX9_lapses 132 = .ok (.getfield 148, 3) := by decide +kernel
theorem dX9_lapses_135 : decode cX9_lapses 135 = .ok (.if_icmp .ge 71, 3) := by decide +kernel
theorem dX9_lapses_138 : decode cX9_lapses 138 = .ok (.aload_n 0, 1) := by decide +kernel
theorem dX9_lapses_139 : decode cX9_lapses 139 = .ok (.getfield 77, 3) := by decide +kernel
theorem dX9_lapses_142 : decode cX9_lapses 142 = .ok (.iload_n 1, 1) := by decide +kernel
theorem dX9_lapses_143 : decode cX9_lapses 143 = .ok (.aload_n 0, 1) := by decide +kernel
theorem dX9_lapses_144 : decode cX9_lapses 144 = .ok (.iload_n 1, 1) := by decide +kernel
theorem dX9_lapses_145 : decode cX9_lapses 145 = .ok (.invokevirtual 144, 3) := by decide +kernel
theorem dX9_lapses_148 : decode cX9_lapses 148 = .ok (.ifCond .eq 50, 3) := by decide +kernel
theorem dX9_lapses_151 : decode cX9_lapses 151 = .ok (.aload_n 0, 1) := by decide +kernel
theorem dX9_lapses_152 : decode cX9_lapses 152 = .ok (.getfield 59, 3) := by decide +kernel
theorem dX9_lapses_155 : decode cX9_lapses 155 = .ok (.iload_n 1, 1) := by decide +kernel
theorem dX9_lapses_156 : decode cX9_lapses 156 = .ok (.iaload, 1) := by decide +kernel
theorem dX9_lapses_157 : decode cX9_lapses 157 = .ok (.aload_n 0, 1) := by decide +kernel
theorem dX9_lapses_158 : decode cX9_lapses 158 = .ok (.getfield 141, 3) := by decide +kernel
theorem dX9_lapses_161 : decode cX9_lapses 161 = .ok (.bipush 100, 2) := by decide +kernel
theorem dX9_lapses_163 : decode cX9_lapses 163 = .ok (.isub, 1) := by decide +kernel
theorem dX9_lapses_164 : decode cX9_lapses 164 = .ok (.if_icmp .gt 34, 3) := by decide +kernel
theorem dX9_lapses_167 : decode cX9_lapses 167 = .ok (.aload_n 0, 1) := by decide +kernel
theorem dX9_lapses_168 : decode cX9_lapses 168 = .ok (.getfield 71, 3) := by decide +kernel
theorem dX9_lapses_171 : decode cX9_lapses 171 = .ok (.iload_n 1, 1) := by decide +kernel
theorem dX9_lapses_172 : decode cX9_lapses 172 = .ok (.iaload, 1) := by decide +kernel
theorem dX9_lapses_173 : decode cX9_lapses 173 = .ok (.bipush (-9), 2) := by decide +kernel
theorem dX9_lapses_175 : decode cX9_lapses 175 = .ok (.if_icmp .eq 19, 3) := by decide +kernel
theorem dX9_lapses_178 : decode cX9_lapses 178 = .ok (.aload_n 0, 1) := by decide +kernel
theorem dX9_lapses_179 : decode cX9_lapses 179 = .ok (.getfield 71, 3) := by decide +kernel
theorem dX9_lapses_182 : decode cX9_lapses 182 = .ok (.iload_n 1, 1) := by decide +kernel
theorem dX9_lapses_183 : decode cX9_lapses 183 = .ok (.iaload, 1) := by decide +kernel
theorem dX9_lapses_184 : decode cX9_lapses 184 = .ok (.aload_n 0, 1) := by decide +kernel
theorem dX9_lapses_185 : decode cX9_lapses 185 = .ok (.getfield 141, 3) := by decide +kernel
theorem dX9_lapses_188 : decode cX9_lapses 188 = .ok (.bipush 99, 2) := by decide +kernel
theorem dX9_lapses_190 : decode cX9_lapses 190 = .ok (.isub, 1) := by decide +kernel
theorem dX9_lapses_191 : decode cX9_lapses 191 = .ok (.if_icmp .ge 7, 3) := by decide +kernel
theorem dX9_lapses_194 : decode cX9_lapses 194 = .ok (.iconst 1, 1) := by decide +kernel
theorem dX9_lapses_195 : decode cX9_lapses 195 = .ok (.goto 4, 3) := by decide +kernel
theorem dX9_lapses_198 : decode cX9_lapses 198 = .ok (.iconst 0, 1) := by decide +kernel
theorem dX9_lapses_199 : decode cX9_lapses 199 = .ok (.bastore, 1) := by decide +kernel
theorem dX9_lapses_200 : decode cX9_lapses 200 = .ok (.iinc 1 1, 3) := by decide +kernel
theorem dX9_lapses_203 : decode cX9_lapses 203 = .ok (.goto (-73), 3) := by decide +kernel
theorem dX9_lapses_206 : decode cX9_lapses 206 = .ok (.iconst 0, 1) := by decide +kernel
theorem dX9_lapses_207 : decode cX9_lapses 207 = .ok (.istore_n 1, 1) := by decide +kernel
theorem dX9_lapses_208 : decode cX9_lapses 208 = .ok (.iload_n 1, 1) := by decide +kernel
theorem dX9_lapses_209 : decode cX9_lapses 209 = .ok (.aload_n 0, 1) := by decide +kernel
theorem dX9_lapses_210 : decode cX9_lapses 210 = .ok (.getfield 148, 3) := by decide +kernel
theorem dX9_lapses_213 : decode cX9_lapses 213 = .ok (.if_icmp .ge 38, 3) := by decide +kernel
theorem dX9_lapses_216 : decode cX9_lapses 216 = .ok (.aload_n 0, 1) := by decide +kernel
theorem dX9_lapses_217 : decode cX9_lapses 217 = .ok (.getfield 77, 3) := by decide +kernel
theorem dX9_lapses_220 : decode cX9_lapses 220 = .ok (.iload_n 1, 1) := by decide +kernel
theorem dX9_lapses_221 : decode cX9_lapses 221 = .ok (.baload, 1) := by decide +kernel
theorem dX9_lapses_222 : decode cX9_lapses 222 = .ok (.ifCond .ne 6, 3) := by decide +kernel
theorem dX9_lapses_225 : decode cX9_lapses 225 = .ok (.goto 20, 3) := by decide +kernel
theorem dX9_lapses_228 : decode cX9_lapses 228 = .ok (.aload_n 0, 1) := by decide +kernel
theorem dX9_lapses_229 : decode cX9_lapses 229 = .ok (.getfield 74, 3) := by decide +kernel
theorem dX9_lapses_232 : decode cX9_lapses 232 = .ok (.iload_n 1, 1) := by decide +kernel
theorem dX9_lapses_233 : decode cX9_lapses 233 = .ok (.iconst 1, 1) := by decide +kernel
theorem dX9_lapses_234 : decode cX9_lapses 234 = .ok (.bastore, 1) := by decide +kernel
theorem dX9_lapses_235 : decode cX9_lapses 235 = .ok (.aload_n 0, 1) := by decide +kernel
theorem dX9_lapses_236 : decode cX9_lapses 236 = .ok (.dup, 1) := by decide +kernel
theorem dX9_lapses_237 : decode cX9_lapses 237 = .ok (.getfield 211, 3) := by decide +kernel
theorem dX9_lapses_240 : decode cX9_lapses 240 = .ok (.iconst 1, 1) := by decide +kernel
theorem dX9_lapses_241 : decode cX9_lapses 241 = .ok (.iadd, 1) := by decide +kernel
theorem dX9_lapses_242 : decode cX9_lapses 242 = .ok (.putfield 211, 3) := by decide +kernel
theorem dX9_lapses_245 : decode cX9_lapses 245 = .ok (.iinc 1 1, 3) := by decide +kernel
theorem dX9_lapses_248 : decode cX9_lapses 248 = .ok (.goto (-40), 3) := by decide +kernel
theorem dX9_lapses_251 : decode cX9_lapses 251 = .ok (.return_, 1) := by decide +kernel
theorem dX9_pass_0 : decode cX9_pass 0 = .ok (.iload_n 1, 1) := by decide +kernel
theorem dX9_pass_1 : decode cX9_pass 1 = .ok (.iconst 1, 1) := by decide +kernel
theorem dX9_pass_2 : decode cX9_pass 2 = .ok (.if_icmp .ge 10, 3) := by decide +kernel
theorem dX9_pass_5 : decode cX9_pass 5 = .ok (.aload_n 0, 1) := by decide +kernel
theorem dX9_pass_6 : decode cX9_pass 6 = .ok (.bipush (-4), 2) := by decide +kernel
theorem dX9_pass_8 : decode cX9_pass 8 = .ok (.invokevirtual 122, 3) := by decide +kernel
theorem dX9_pass_11 : decode cX9_pass 11 = .ok (.ireturn, 1) := by decide +kernel
theorem dX9_pass_12 : decode cX9_pass 12 = .ok (.iload_n 1, 1) := by decide +kernel
theorem dX9_pass_13 : decode cX9_pass 13 = .ok (.sipush 720, 3) := by decide +kernel
theorem dX9_pass_16 : decode cX9_pass 16 = .ok (.aload_n 0, 1) := by decide +kernel
theorem dX9_pass_17 : decode cX9_pass 17 = .ok (.getfield 141, 3) := by decide +kernel
theorem dX9_pass_20 : decode cX9_pass 20 = .ok (.isub, 1) := by decide +kernel
theorem dX9_pass_21 : decode cX9_pass 21 = .ok (.if_icmp .le 10, 3) := by decide +kernel
theorem dX9_pass_24 : decode cX9_pass 24 = .ok (.aload_n 0, 1) := by decide +kernel
theorem dX9_pass_25 : decode cX9_pass 25 = .ok (.bipush (-6), 2) := by decide +kernel
theorem dX9_pass_27 : decode cX9_pass 27 = .ok (.invokevirtual 122, 3) := by decide +kernel
theorem dX9_pass_30 : decode cX9_pass 30 = .ok (.ireturn, 1) := by decide +kernel
theorem dX9_pass_31 : decode cX9_pass 31 = .ok (.iconst 0, 1) := by decide +kernel
theorem dX9_pass_32 : decode cX9_pass 32 = .ok (.istore_n 2, 1) := by decide +kernel
theorem dX9_pass_33 : decode cX9_pass 33 = .ok (.iconst 0, 1) := by decide +kernel
theorem dX9_pass_34 : decode cX9_pass 34 = .ok (.istore_n 3, 1) := by decide +kernel
theorem dX9_pass_35 : decode cX9_pass 35 = .ok (.iload_n 3, 1) := by decide +kernel
theorem dX9_pass_36 : decode cX9_pass 36 = .ok (.iload_n 1, 1) := by decide +kernel
theorem dX9_pass_37 : decode cX9_pass 37 = .ok (.if_icmp .ge 171, 3) := by decide +kernel
theorem dX9_pass_40 : decode cX9_pass 40 = .ok (.aload_n 0, 1) := by decide +kernel
theorem dX9_pass_41 : decode cX9_pass 41 = .ok (.dup, 1) := by decide +kernel
theorem dX9_pass_42 : decode cX9_pass 42 = .ok (.getfield 141, 3) := by decide +kernel
theorem dX9_pass_45 : decode cX9_pass 45 = .ok (.iconst 1, 1) := by decide +kernel
theorem dX9_pass_46 : decode cX9_pass 46 = .ok (.iadd, 1) := by decide +kernel
theorem dX9_pass_47 : decode cX9_pass 47 = .ok (.putfield 141, 3) := by decide +kernel
theorem dX9_pass_50 : decode cX9_pass 50 = .ok (.aload_n 0, 1) := by decide +kernel
theorem dX9_pass_51 : decode cX9_pass 51 = .ok (.invokevirtual 214, 3) := by decide +kernel
theorem dX9_pass_54 : decode cX9_pass 54 = .ok (.iconst 0, 1) := by decide +kernel
theorem dX9_pass_55 : decode cX9_pass 55 = .ok (.istore 4, 2) := by decide +kernel
theorem dX9_pass_57 : decode cX9_pass 57 = .ok (.iload 4, 2) := by decide +kernel
theorem dX9_pass_59 : decode cX9_pass 59 = .ok (.bipush 6, 2) := by decide +kernel
theorem dX9_pass_61 : decode cX9_pass 61 = .ok (.if_icmp .ge 17, 3) := by decide +kernel
theorem dX9_pass_64 : decode cX9_pass 64 = .ok (.aload_n 0, 1) := by decide +kernel
theorem dX9_pass_65 : decode cX9_pass 65 = .ok (.getfield 113, 3) := by decide +kernel
theorem dX9_pass_68 : decode cX9_pass 68 = .ok (.iload 4, 2) := by decide +kernel
theorem dX9_pass_70 : decode cX9_pass 70 = .ok (.iconst 0, 1) := by decide +kernel
theorem dX9_pass_71 : decode cX9_pass 71 = .ok (.iastore, 1) := by decide +kernel
theorem dX9_pass_72 : decode cX9_pass 72 = .ok (.iinc 4 1, 3) := by decide +kernel
theorem dX9_pass_75 : decode cX9_pass 75 = .ok (.goto (-18), 3) := by decide +kernel
theorem dX9_pass_78 : decode cX9_pass 78 = .ok (.aload_n 0, 1) := by decide +kernel
theorem dX9_pass_79 : decode cX9_pass 79 = .ok (.aload_n 0, 1) := by decide +kernel
theorem dX9_pass_80 : decode cX9_pass 80 = .ok (.getfield 13, 3) := by decide +kernel
theorem dX9_pass_83 : decode cX9_pass 83 = .ok (.aload_n 0, 1) := by decide +kernel
theorem dX9_pass_84 : decode cX9_pass 84 = .ok (.getfield 110, 3) := by decide +kernel
theorem dX9_pass_87 : decode cX9_pass 87 = .ok (.aload_n 0, 1) := by decide +kernel
theorem dX9_pass_88 : decode cX9_pass 88 = .ok (.getfield 141, 3) := by decide +kernel
theorem dX9_pass_91 : decode cX9_pass 91 = .ok (.aload_n 0, 1) := by decide +kernel
theorem dX9_pass_92 : decode cX9_pass 92 = .ok (.getfield 113, 3) := by decide +kernel
theorem dX9_pass_95 : decode cX9_pass 95 = .ok (.invokevirtual 217, 3) := by decide +kernel
theorem dX9_pass_98 : decode cX9_pass 98 = .ok (.iconst 0, 1) := by decide +kernel
theorem dX9_pass_99 : decode cX9_pass 99 = .ok (.istore 4, 2) := by decide +kernel
theorem dX9_pass_101 : decode cX9_pass 101 = .ok (.iload 4, 2) := by decide +kernel
theorem dX9_pass_103 : decode cX9_pass 103 = .ok (.aload_n 0, 1) := by decide +kernel
theorem dX9_pass_104 : decode cX9_pass 104 = .ok (.getfield 127, 3) := by decide +kernel
theorem dX9_pass_107 : decode cX9_pass 107 = .ok (.if_icmp .ge 42, 3) := by decide +kernel
theorem dX9_pass_110 : decode cX9_pass 110 = .ok (.aload_n 0, 1) := by decide +kernel
theorem dX9_pass_111 : decode cX9_pass 111 = .ok (.getfield 25, 3) := by decide +kernel
theorem dX9_pass_114 : decode cX9_pass 114 = .ok (.iload 4, 2) := by decide +kernel
theorem dX9_pass_116 : decode cX9_pass 116 = .ok (.dup2, 1) := by decide +kernel
theorem dX9_pass_117 : decode cX9_pass 117 = .ok (.iaload, 1) := by decide +kernel
theorem dX9_pass_118 : decode cX9_pass 118 = .ok (.aload_n 0, 1) := by decide +kernel
theorem dX9_pass_119 : decode cX9_pass 119 = .ok (.getfield 113, 3) := by decide +kernel
theorem dX9_pass_122 : decode cX9_pass 122 = .ok (.iload 4, 2) := by decide +kernel
theorem dX9_pass_124 : decode cX9_pass 124 = .ok (.iaload, 1) := by decide +kernel
theorem dX9_pass_125 : decode cX9_pass 125 = .ok (.iadd, 1) := by decide +kernel
theorem dX9_pass_126 : decode cX9_pass 126 = .ok (.iastore, 1) := by decide +kernel
theorem dX9_pass_127 : decode cX9_pass 127 = .ok (.aload_n 0, 1) := by decide +kernel
theorem dX9_pass_128 : decode cX9_pass 128 = .ok (.dup, 1) := by decide +kernel
