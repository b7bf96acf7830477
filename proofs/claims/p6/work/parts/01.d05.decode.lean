theorem dX9_lapses_37 : decode cX9_lapses 37 = .ok (.bastore, 1) := by decide +kernel
theorem dX9_lapses_38 : decode cX9_lapses 38 = .ok (.iload_n 1, 1) := by decide +kernel
theorem dX9_lapses_39 : decode cX9_lapses 39 = .ok (.iconst 1, 1) := by decide +kernel
theorem dX9_lapses_40 : decode cX9_lapses 40 = .ok (.iadd, 1) := by decide +kernel
theorem dX9_lapses_41 : decode cX9_lapses 41 = .ok (.istore_n 2, 1) := by decide +kernel
theorem dX9_lapses_42 : decode cX9_lapses 42 = .ok (.iload_n 2, 1) := by decide +kernel
theorem dX9_lapses_43 : decode cX9_lapses 43 = .ok (.aload_n 0, 1) := by decide +kernel
theorem dX9_lapses_44 : decode cX9_lapses 44 = .ok (.getfield 148, 3) := by decide +kernel
theorem dX9_lapses_47 : decode cX9_lapses 47 = .ok (.if_icmp .ge 56, 3) := by decide +kernel
theorem dX9_lapses_50 : decode cX9_lapses 50 = .ok (.aload_n 0, 1) := by decide +kernel
theorem dX9_lapses_51 : decode cX9_lapses 51 = .ok (.iload_n 1, 1) := by decide +kernel
theorem dX9_lapses_52 : decode cX9_lapses 52 = .ok (.invokevirtual 144, 3) := by decide +kernel
theorem dX9_lapses_55 : decode cX9_lapses 55 = .ok (.ifCond .eq 48, 3) := by decide +kernel
theorem dX9_lapses_58 : decode cX9_lapses 58 = .ok (.aload_n 0, 1) := by decide +kernel
theorem dX9_lapses_59 : decode cX9_lapses 59 = .ok (.getfield 77, 3) := by decide +kernel
theorem dX9_lapses_62 : decode cX9_lapses 62 = .ok (.iload_n 1, 1) := by decide +kernel
theorem dX9_lapses_63 : decode cX9_lapses 63 = .ok (.aload_n 0, 1) := by decide +kernel
theorem dX9_lapses_64 : decode cX9_lapses 64 = .ok (.getfield 77, 3) := by decide +kernel
theorem dX9_lapses_67 : decode cX9_lapses 67 = .ok (.iload_n 1, 1) := by decide +kernel
theorem dX9_lapses_68 : decode cX9_lapses 68 = .ok (.baload, 1) := by decide +kernel
theorem dX9_lapses_69 : decode cX9_lapses 69 = .ok (.ifCond .ne 22, 3) := by decide +kernel
theorem dX9_lapses_72 : decode cX9_lapses 72 = .ok (.aload_n 0, 1) := by decide +kernel
theorem dX9_lapses_73 : decode cX9_lapses 73 = .ok (.getfield 68, 3) := by decide +kernel
theorem dX9_lapses_76 : decode cX9_lapses 76 = .ok (.iload_n 2, 1) := by decide +kernel
theorem dX9_lapses_77 : decode cX9_lapses 77 = .ok (.iaload, 1) := by decide +kernel
theorem dX9_lapses_78 : decode cX9_lapses 78 = .ok (.iload_n 1, 1) := by decide +kernel
theorem dX9_lapses_79 : decode cX9_lapses 79 = .ok (.if_icmp .ne 16, 3) := by decide +kernel
theorem dX9_lapses_82 : decode cX9_lapses 82 = .ok (.aload_n 0, 1) := by decide +kernel
theorem dX9_lapses_83 : decode cX9_lapses 83 = .ok (.getfield 77, 3) := by decide +kernel
theorem dX9_lapses_86 : decode cX9_lapses 86 = .ok (.iload_n 2, 1) := by decide +kernel
theorem dX9_lapses_87 : decode cX9_lapses 87 = .ok (.baload, 1) := by decide +kernel
theorem dX9_lapses_88 : decode cX9_lapses 88 = .ok (.ifCond .eq 7, 3) := by decide +kernel
theorem dX9_lapses_91 : decode cX9_lapses 91 = .ok (.iconst 1, 1) := by decide +kernel
theorem dX9_lapses_92 : decode cX9_lapses 92 = .ok (.goto 4, 3) := by decide +kernel
theorem dX9_lapses_95 : decode cX9_lapses 95 = .ok (.iconst 0, 1) := by decide +kernel
theorem dX9_lapses_96 : decode cX9_lapses 96 = .ok (.bastore, 1) := by decide +kernel
theorem dX9_lapses_97 : decode cX9_lapses 97 = .ok (.iinc 2 1, 3) := by decide +kernel
theorem dX9_lapses_100 : decode cX9_lapses 100 = .ok (.goto (-58), 3) := by decide +kernel
theorem dX9_lapses_103 : decode cX9_lapses 103 = .ok (.aload_n 0, 1) := by decide +kernel
theorem dX9_lapses_104 : decode cX9_lapses 104 = .ok (.getfield 77, 3) := by decide +kernel
theorem dX9_lapses_107 : decode cX9_lapses 107 = .ok (.iload_n 1, 1) := by decide +kernel
theorem dX9_lapses_108 : decode cX9_lapses 108 = .ok (.baload, 1) := by decide +kernel
theorem dX9_lapses_109 : decode cX9_lapses 109 = .ok (.ifCond .eq 13, 3) := by decide +kernel
theorem dX9_lapses_112 : decode cX9_lapses 112 = .ok (.aload_n 0, 1) := by decide +kernel
theorem dX9_lapses_113 : decode cX9_lapses 113 = .ok (.getfield 71, 3) := by decide +kernel
theorem dX9_lapses_116 : decode cX9_lapses 116 = .ok (.iload_n 1, 1) := by decide +kernel
theorem dX9_lapses_117 : decode cX9_lapses 117 = .ok (.aload_n 0, 1) := by decide +kernel
theorem dX9_lapses_118 : decode cX9_lapses 118 = .ok (.getfield 141, 3) := by decide +kernel
theorem dX9_lapses_121 : decode cX9_lapses 121 = .ok (.iastore, 1) := by decide +kernel
theorem dX9_lapses_122 : decode cX9_lapses 122 = .ok (.iinc 1 (-1), 3) := by decide +kernel
theorem dX9_lapses_125 : decode cX9_lapses 125 = .ok (.goto (-118), 3) := by decide +kernel
theorem dX9_lapses_128 : decode cX9_lapses 128 = .ok (.iconst 0, 1) := by decide +kernel
theorem dX9_lapses_129 : decode cX9_lapses 129 = .ok (.istore_n 1, 1) := by decide +kernel
theorem dX9_lapses_130 : decode cX9_lapses 130 = .ok (.iload_n 1, 1) := by decide +kernel
theorem dX9_lapses_131 : decode cX9_lapses 131 = .ok (.aload_n 0, 1) := by decide +kernel
theorem dX9_lapses_132 : decode cX9_lapses 132 = .ok (.getfield 148, 3) := by decide +kernel
theorem dX9_lapses_135 : decode cX9_lapses 135 = .ok (.if_icmp .ge 71, 3) := by decide +kernel
theorem dX9_lapses_138 : decode cX9_lapses 138 = .ok (.aload_n 0, 1) := by decide +kernel
theorem dX9_lapses_139 : decode cX9_lapses 139 = .ok (.getfield 77, 3) := by decide +kernel
theorem dX9_lapses_142 : decode cX9_lapses 142 = .ok (.iload_n 1, 1) := by decide +kernel
theorem dX9_lapses_143 : decode cX9_lapses 143 = .ok (.aload_n 0, 1) := by decide +kernel
theorem dX9_lapses_144 : decode cX9_lapses 144 = .ok (.iload_n 1, 1) := by decide +kernel
theorem dX9_lapses_145 : decode cX9_lapses 145 = .ok (.invokevirtual 144, 3) := by decide +kernel
theorem dX9_lapses_148 : decode cX9_lapses 148 = .ok (.ifCond .eq 50, 3) := by decide +kernel
theorem dX9_lapses_151 : decode cX9_lapses 151 = .ok (.aload_n 0, 1) := by decide +kernel
theorem dX9_lapses_152 : decode cX9_lapses 152 = .ok (.getfield 59, 3) := by decide +kernel
theorem dX9_lapses_155 : decode cX9_lapses 155 = .ok (.iload_n 1, 1) := by decide +kernel
theorem dX9_lapses_156 : decode cX9_lapses 156 = .ok (.iaload, 1) := by decide +kernel
theorem dX9_lapses_157 : decode cX9_lapses 157 = .ok (.aload_n 0, 1) := by decide +kernel
theorem dX9_lapses_158 : decode cX9_lapses 158 = .ok (.getfield 141, 3) := by decide +kernel
theorem dX9_lapses_161 : decode cX9_lapses 161 = .ok (.bipush 100, 2) := by decide +kernel
theorem dX9_lapses_163 : decode cX9_lapses 163 = .ok (.isub, 1) := by decide +kernel
theorem dX9_lapses_164 : decode cX9_lapses 164 = .ok (.if_icmp .gt 34, 3) := by decide +kernel
theorem dX9_lapses_167 : decode cX9_lapses 167 = .ok (.aload_n 0, 1) := by decide +kernel
theorem dX9_lapses_168 : decode cX9_lapses 168 = .ok (.getfield 71, 3) := by decide +kernel
theorem dX9_lapses_171 : decode cX9_lapses 171 = .ok (.iload_n 1, 1) := by decide +kernel
theorem dX9_lapses_172 : decode cX9_lapses 172 = .ok (.iaload, 1) := by decide +kernel
theorem dX9_lapses_173 : decode cX9_lapses 173 = .ok (.bipush (-9), 2) := by decide +kernel
theorem dX9_lapses_175 : decode cX9_lapses 175 = .ok (.if_icmp .eq 19, 3) := by decide +kernel
theorem dX9_lapses_178 : decode cX9_lapses 178 = .ok (.aload_n 0, 1) := by decide +kernel
theorem dX9_lapses_179 : decode cX9_lapses 179 = .ok (.getfield 71, 3) := by decide +kernel
theorem dX9_lapses_182 : decode cX9_lapses 182 = .ok (.iload_n 1, 1) := by decide +kernel
theorem dX9_lapses_183 : decode cX9_lapses 183 = .ok (.iaload, 1) := by decide +kernel
theorem dX9_lapses_184 : decode cX9_lapses 184 = .ok (.aload_n 0, 1) := by decide +kernel
theorem dX9_lapses_185 : decode cX9_lapses 185 = .ok (.getfield 141, 3) := by decide +kernel
theorem dX9_lapses_188 : decode cX9_lapses 188 = .ok (.bipush 99, 2) := by decide +kernel
theorem dX9_lapses_190 : decode cX9_lapses 190 = .ok (.isub, 1) := by decide +kernel
theorem dX9_lapses_191 : decode cX9_lapses 191 = .ok (.if_icmp .ge 7, 3) := by decide +kernel
theorem dX9_lapses_194 : decode cX9_lapses 194 = .ok (.iconst 1, 1) := by decide +kernel
theorem dX9_lapses_195 : decode cX9_lapses 195 = .ok (.goto 4, 3) := by decide +kernel
theorem dX9_lapses_198 : decode cX9_lapses 198 = .ok (.iconst 0, 1) := by decide +kernel
theorem dX9_lapses_199 : decode cX9_lapses 199 = .ok (.bastore, 1) := by decide +kernel
theorem dX9_lapses_200 : decode cX9_lapses 200 = .ok (.iinc 1 1, 3) := by decide +kernel
theorem dX9_lapses_203 : decode cX9_lapses 203 = .ok (.goto (-73), 3) := by decide +kernel
theorem dX9_lapses_206 : decode cX9_lapses 206 = .ok (.iconst 0, 1) := by decide +kernel
theorem dX9_lapses_207 : decode cX9_lapses 207 = .ok (.istore_n 1, 1) := by decide +kernel
theorem dX9_lapses_208 : decode cX9_lapses 208 = .ok (.iload_n 1, 1) := by decide +kernel
theorem dX9_lapses_209 : decode cX9_lapses 209 = .ok (.aload_n 0, 1) := by decide +kernel
theorem dX9_lapses_210 : decode cX9_lapses 210 = .ok (.getfield 148, 3) := by decide +kernel
theorem dX9_lapses_213 : decode cX9_lapses 213 = .ok (.if_icmp .ge 38, 3) := by decide +kernel
theorem dX9_lapses_216 : decode cX9_lapses 216 = .ok (.aload_n 0, 1) := by decide +kernel
theorem dX9_lapses_217 : decode cX9_lapses 217 = .ok (.getfield 77, 3) := by decide +kernel
theorem dX9_lapses_220 : decode cX9_lapses 220 = .ok (.iload_n 1, 1) := by decide +kernel
theorem dX9_lapses_221 : decode cX9_lapses 221 = .ok (.baload, 1) := by decide +kernel
theorem dX9_lapses_222 : decode cX9_lapses 222 = .ok (.ifCond .ne 6, 3) := by decide +kernel
theorem dX9_lapses_225 : decode cX9_lapses 225 = .ok (.goto 20, 3) := by decide +kernel
theorem dX9_lapses_228 : decode cX9_lapses 228 = .ok (.aload_n 0, 1) := by decide +kernel
theorem dX9_lapses_229 : decode cX9_lapses 229 = .ok (.getfield 74, 3) := by decide +kernel
theorem dX9_lapses_232 : decode cX9_lapses 232 = .ok (.iload_n 1, 1) := by decide +kernel
theorem dX9_lapses_233 : decode cX9_lapses 233 = .ok (.iconst 1, 1) := by decide +kernel
theorem dX9_lapses_234 : decode cX9_lapses 234 = .ok (.bastore, 1) := by decide +kernel
theorem dX9_lapses_235 : decode cX9_lapses 235 = .ok (.aload_n 0, 1) := by decide +kernel
theorem dX9_lapses_236 : decode cX9_lapses 236 = .ok (.dup, 1) := by decide +kernel
theorem dX9_lapses_237 : decode cX9_lapses 237 = .ok (.getfield 211, 3) := by decide +kernel
theorem dX9_lapses_240 : decode cX9_lapses 240 = .ok (.iconst 1, 1) := by decide +kernel
theorem dX9_lapses_241 : decode cX9_lapses 241 = .ok (.iadd, 1) := by decide +kernel
theorem dX9_lapses_242 : decode cX9_lapses 242 = .ok (.putfield 211, 3) := by decide +kernel
theorem dX9_lapses_245 : decode cX9_lapses 245 = .ok (.iinc 1 1, 3) := by decide +kernel
theorem dX9_lapses_248 : decode cX9_lapses 248 = .ok (.goto (-40), 3) := by decide +kernel
theorem dX9_lapses_251 : decode cX9_lapses 251 = .ok (.return_, 1) := by decide +kernel
theorem dX9_rest_0 : decode cX9_rest 0 = .ok (.iload_n 1, 1) := by decide +kernel
theorem dX9_rest_1 : decode cX9_rest 1 = .ok (.aload_n 0, 1) := by decide +kernel
theorem dX9_rest_2 : decode cX9_rest 2 = .ok (.getfield 127, 3) := by decide +kernel
theorem dX9_rest_5 : decode cX9_rest 5 = .ok (.invokestatic 134, 3) := by decide +kernel
theorem dX9_rest_8 : decode cX9_rest 8 = .ok (.ifCond .ne 9, 3) := by decide +kernel
theorem dX9_rest_11 : decode cX9_rest 11 = .ok (.aload_n 0, 1) := by decide +kernel
theorem dX9_rest_12 : decode cX9_rest 12 = .ok (.iconst (-1), 1) := by decide +kernel
theorem dX9_rest_13 : decode cX9_rest 13 = .ok (.invokevirtual 122, 3) := by decide +kernel
theorem dX9_rest_16 : decode cX9_rest 16 = .ok (.ireturn, 1) := by decide +kernel
theorem dX9_rest_17 : decode cX9_rest 17 = .ok (.iload_n 2, 1) := by decide +kernel
theorem dX9_rest_18 : decode cX9_rest 18 = .ok (.aload_n 0, 1) := by decide +kernel
theorem dX9_rest_19 : decode cX9_rest 19 = .ok (.getfield 141, 3) := by decide +kernel
theorem dX9_rest_22 : decode cX9_rest 22 = .ok (.if_icmp .ge 10, 3) := by decide +kernel
theorem dX9_rest_25 : decode cX9_rest 25 = .ok (.aload_n 0, 1) := by decide +kernel
theorem dX9_rest_26 : decode cX9_rest 26 = .ok (.bipush (-4), 2) := by decide +kernel
theorem dX9_rest_28 : decode cX9_rest 28 = .ok (.invokevirtual 122, 3) := by decide +kernel
theorem dX9_rest_31 : decode cX9_rest 31 = .ok (.ireturn, 1) := by decide +kernel
theorem dX9_rest_32 : decode cX9_rest 32 = .ok (.iload_n 2, 1) := by decide +kernel
theorem dX9_rest_33 : decode cX9_rest 33 = .ok (.sipush 740, 3) := by decide +kernel
theorem dX9_rest_36 : decode cX9_rest 36 = .ok (.if_icmp .le 10, 3) := by decide +kernel
theorem dX9_rest_39 : decode cX9_rest 39 = .ok (.aload_n 0, 1) := by decide +kernel
theorem dX9_rest_40 : decode cX9_rest 40 = .ok (.bipush (-6), 2) := by decide +kernel
theorem dX9_rest_42 : decode cX9_rest 42 = .ok (.invokevirtual 122, 3) := by decide +kernel
theorem dX9_rest_45 : decode cX9_rest 45 = .ok (.ireturn, 1) := by decide +kernel
theorem dX9_rest_46 : decode cX9_rest 46 = .ok (.aload_n 0, 1) := by decide +kernel
theorem dX9_rest_47 : decode cX9_rest 47 = .ok (.getfield 22, 3) := by decide +kernel
theorem dX9_rest_50 : decode cX9_rest 50 = .ok (.iload_n 1, 1) := by decide +kernel
theorem dX9_rest_51 : decode cX9_rest 51 = .ok (.iaload, 1) := by decide +kernel
theorem dX9_rest_52 : decode cX9_rest 52 = .ok (.istore_n 3, 1) := by decide +kernel
theorem dX9_rest_53 : decode cX9_rest 53 = .ok (.aload_n 0, 1) := by decide +kernel
theorem dX9_rest_54 : decode cX9_rest 54 = .ok (.getfield 22, 3) := by decide +kernel
theorem dX9_rest_57 : decode cX9_rest 57 = .ok (.iload_n 1, 1) := by decide +kernel
theorem dX9_rest_58 : decode cX9_rest 58 = .ok (.iload_n 2, 1) := by decide +kernel
theorem dX9_rest_59 : decode cX9_rest 59 = .ok (.iastore, 1) := by decide +kernel
theorem dX9_rest_60 : decode cX9_rest 60 = .ok (.iload_n 3, 1) := by decide +kernel
theorem dX9_rest_61 : decode cX9_rest 61 = .ok (.ireturn, 1) := by decide +kernel
theorem dX9_cut_0 : decode cX9_cut 0 = .ok (.iload_n 1, 1) := by decide +kernel
theorem dX9_cut_1 : decode cX9_cut 1 = .ok (.aload_n 0, 1) := by decide +kernel
theorem dX9_cut_2 : decode cX9_cut 2 = .ok (.getfield 127, 3) := by decide +kernel
theorem dX9_cut_5 : decode cX9_cut 5 = .ok (.invokestatic 134, 3) := by decide +kernel
theorem dX9_cut_8 : decode cX9_cut 8 = .ok (.ifCond .ne 9, 3) := by decide +kernel
theorem dX9_cut_11 : decode cX9_cut 11 = .ok (.aload_n 0, 1) := by decide +kernel
theorem dX9_cut_12 : decode cX9_cut 12 = .ok (.iconst (-1), 1) := by decide +kernel
theorem dX9_cut_13 : decode cX9_cut 13 = .ok (.invokevirtual 122, 3) := by decide +kernel
theorem dX9_cut_16 : decode cX9_cut 16 = .ok (.ireturn, 1) := by decide +kernel
theorem dX9_cut_17 : decode cX9_cut 17 = .ok (.iconst 0, 1) := by decide +kernel
theorem dX9_cut_18 : decode cX9_cut 18 = .ok (.istore_n 2, 1) := by decide +kernel
theorem dX9_cut_19 : decode cX9_cut 19 = .ok (.iconst 0, 1) := by decide +kernel
theorem dX9_cut_20 : decode cX9_cut 20 = .ok (.istore_n 3, 1) := by decide +kernel
theorem dX9_cut_21 : decode cX9_cut 21 = .ok (.iload_n 3, 1) := by decide +kernel
theorem dX9_cut_22 : decode cX9_cut 22 = .ok (.aload_n 0, 1) := by decide +kernel
theorem dX9_cut_23 : decode cX9_cut 23 = .ok (.getfield 164, 3) := by decide +kernel
theorem dX9_cut_26 : decode cX9_cut 26 = .ok (.if_icmp .ge 37, 3) := by decide +kernel
theorem dX9_cut_29 : decode cX9_cut 29 = .ok (.iload_n 2, 1) := by decide +kernel
theorem dX9_cut_30 : decode cX9_cut 30 = .ok (.ifCond .ne 21, 3) := by decide +kernel
theorem dX9_cut_33 : decode cX9_cut 33 = .ok (.aload_n 0, 1) := by decide +kernel
theorem dX9_cut_34 : decode cX9_cut 34 = .ok (.iload_n 3, 1) := by decide +kernel
theorem dX9_cut_35 : decode cX9_cut 35 = .ok (.invokevirtual 167, 3) := by decide +kernel
theorem dX9_cut_38 : decode cX9_cut 38 = .ok (.ifCond .eq 17, 3) := by decide +kernel
theorem dX9_cut_41 : decode cX9_cut 41 = .ok (.aload_n 0, 1) := by decide +kernel
theorem dX9_cut_42 : decode cX9_cut 42 = .ok (.getfield 89, 3) := by decide +kernel
theorem dX9_cut_45 : decode cX9_cut 45 = .ok (.iload_n 3, 1) := by decide +kernel
theorem dX9_cut_46 : decode cX9_cut 46 = .ok (.iaload, 1) := by decide +kernel
theorem dX9_cut_47 : decode cX9_cut 47 = .ok (.iload_n 1, 1) := by decide +kernel
theorem dX9_cut_48 : decode cX9_cut 48 = .ok (.if_icmp .ne 7, 3) := by decide +kernel
theorem dX9_cut_51 : decode cX9_cut 51 = .ok (.iconst 1, 1) := by decide +kernel
theorem dX9_cut_52 : decode cX9_cut 52 = .ok (.goto 4, 3) := by decide +kernel
theorem dX9_cut_55 : decode cX9_cut 55 = .ok (.iconst 0, 1) := by decide +kernel
theorem dX9_cut_56 : decode cX9_cut 56 = .ok (.istore_n 2, 1) := by decide +kernel
theorem dX9_cut_57 : decode cX9_cut 57 = .ok (.iinc 3 1, 3) := by decide +kernel
theorem dX9_cut_60 : decode cX9_cut 60 = .ok (.goto (-39), 3) := by decide +kernel
theorem dX9_cut_63 : decode cX9_cut 63 = .ok (.aload_n 0, 1) := by decide +kernel
theorem dX9_cut_64 : decode cX9_cut 64 = .ok (.iload_n 1, 1) := by decide +kernel
theorem dX9_cut_65 : decode cX9_cut 65 = .ok (.invokevirtual 182, 3) := by decide +kernel
theorem dX9_cut_68 : decode cX9_cut 68 = .ok (.ifCond .ne 7, 3) := by decide +kernel
theorem dX9_cut_71 : decode cX9_cut 71 = .ok (.iload_n 2, 1) := by decide +kernel
theorem dX9_cut_72 : decode cX9_cut 72 = .ok (.ifCond .eq 10, 3) := by decide +kernel
theorem dX9_cut_75 : decode cX9_cut 75 = .ok (.aload_n 0, 1) := by decide +kernel
theorem dX9_cut_76 : decode cX9_cut 76 = .ok (.bipush (-3), 2) := by decide +kernel
theorem dX9_cut_78 : decode cX9_cut 78 = .ok (.invokevirtual 122, 3) := by decide +kernel
theorem dX9_cut_81 : decode cX9_cut 81 = .ok (.ireturn, 1) := by decide +kernel
theorem dX9_cut_82 : decode cX9_cut 82 = .ok (.iconst 0, 1) := by decide +kernel
theorem dX9_cut_83 : decode cX9_cut 83 = .ok (.aload_n 0, 1) := by decide +kernel
theorem dX9_cut_84 : decode cX9_cut 84 = .ok (.getfield 13, 3) := by decide +kernel
theorem dX9_cut_87 : decode cX9_cut 87 = .ok (.iload_n 1, 1) := by decide +kernel
theorem dX9_cut_88 : decode cX9_cut 88 = .ok (.iaload, 1) := by decide +kernel
theorem dX9_cut_89 : decode cX9_cut 89 = .ok (.bipush 100, 2) := by decide +kernel
theorem dX9_cut_91 : decode cX9_cut 91 = .ok (.isub, 1) := by decide +kernel
theorem dX9_cut_92 : decode cX9_cut 92 = .ok (.invokestatic 179, 3) := by decide +kernel
theorem dX9_cut_95 : decode cX9_cut 95 = .ok (.istore_n 3, 1) := by decide +kernel
theorem dX9_cut_96 : decode cX9_cut 96 = .ok (.aload_n 0, 1) := by decide +kernel
theorem dX9_cut_97 : decode cX9_cut 97 = .ok (.getfield 13, 3) := by decide +kernel
theorem dX9_cut_100 : decode cX9_cut 100 = .ok (.iload_n 1, 1) := by decide +kernel
theorem dX9_cut_101 : decode cX9_cut 101 = .ok (.dup2, 1) := by decide +kernel
theorem dX9_cut_102 : decode cX9_cut 102 = .ok (.iaload, 1) := by decide +kernel
theorem dX9_cut_103 : decode cX9_cut 103 = .ok (.iload_n 3, 1) := by decide +kernel
theorem dX9_cut_104 : decode cX9_cut 104 = .ok (.isub, 1) := by decide +kernel
theorem dX9_cut_105 : decode cX9_cut 105 = .ok (.iastore, 1) := by decide +kernel
theorem dX9_cut_106 : decode cX9_cut 106 = .ok (.aload_n 0, 1) := by decide +kernel
theorem dX9_cut_107 : decode cX9_cut 107 = .ok (.getfield 22, 3) := by decide +kernel
theorem dX9_cut_110 : decode cX9_cut 110 = .ok (.iload_n 1, 1) := by decide +kernel
theorem dX9_cut_111 : decode cX9_cut 111 = .ok (.aload_n 0, 1) := by decide +kernel
theorem dX9_cut_112 : decode cX9_cut 112 = .ok (.getfield 141, 3) := by decide +kernel
theorem dX9_cut_115 : decode cX9_cut 115 = .ok (.bipush 20, 2) := by decide +kernel
theorem dX9_cut_117 : decode cX9_cut 117 = .ok (.iadd, 1) := by decide +kernel
theorem dX9_cut_118 : decode cX9_cut 118 = .ok (.iastore, 1) := by decide +kernel
theorem dX9_cut_119 : decode cX9_cut 119 = .ok (.lconst 0, 1) := by decide +kernel
theorem dX9_cut_120 : decode cX9_cut 120 = .ok (.lstore 4, 2) := by decide +kernel
theorem dX9_cut_122 : decode cX9_cut 122 = .ok (.iconst 0, 1) := by decide +kernel
theorem dX9_cut_123 : decode cX9_cut 123 = .ok (.istore 6, 2) := by decide +kernel
theorem dX9_cut_125 : decode cX9_cut 125 = .ok (.iload 6, 2) := by decide +kernel
theorem dX9_cut_127 : decode cX9_cut 127 = .ok (.aload_n 0, 1) := by decide +kernel
theorem dX9_cut_128 : decode cX9_cut 128 = .ok (.getfield 148, 3) := by decide +kernel
theorem dX9_cut_131 : decode cX9_cut 131 = .ok (.if_icmp .ge 22, 3) := by decide +kernel
theorem dX9_cut_134 : decode cX9_cut 134 = .ok (.lload 4, 2) := by decide +kernel
theorem dX9_cut_136 : decode cX9_cut 136 = .ok (.aload_n 0, 1) := by decide +kernel
theorem dX9_cut_137 : decode cX9_cut 137 = .ok (.iload 6, 2) := by decide +kernel
theorem dX9_cut_139 : decode cX9_cut 139 = .ok (.iload_n 1, 1) := by decide +kernel
theorem dX9_cut_140 : decode cX9_cut 140 = .ok (.invokevirtual 233, 3) := by decide +kernel
theorem dX9_cut_143 : decode cX9_cut 143 = .ok (.i2l, 1) := by decide +kernel
theorem dX9_cut_144 : decode cX9_cut 144 = .ok (.ladd, 1) := by decide +kernel
theorem dX9_cut_145 : decode cX9_cut 145 = .ok (.lstore 4, 2) := by decide +kernel
theorem dX9_cut_147 : decode cX9_cut 147 = .ok (.iinc 6 1, 3) := by decide +kernel
theorem dX9_cut_150 : decode cX9_cut 150 = .ok (.goto (-25), 3) := by decide +kernel
theorem dX9_cut_153 : decode cX9_cut 153 = .ok (.iload_n 3, 1) := by decide +kernel
theorem dX9_cut_154 : decode cX9_cut 154 = .ok (.istore 6, 2) := by decide +kernel
theorem dX9_cut_156 : decode cX9_cut 156 = .ok (.iconst 0, 1) := by decide +kernel
theorem dX9_cut_157 : decode cX9_cut 157 = .ok (.istore 7, 2) := by decide +kernel
theorem dX9_cut_159 : decode cX9_cut 159 = .ok (.iload 7, 2) := by decide +kernel
theorem dX9_cut_161 : decode cX9_cut 161 = .ok (.aload_n 0, 1) := by decide +kernel
