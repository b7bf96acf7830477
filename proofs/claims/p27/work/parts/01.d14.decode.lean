theorem dX9_isOut_9 : decode cX9_isOut 9 = .ok (.aload_n 0, 1) := by decide +kernel
theorem dX9_isOut_10 : decode cX9_isOut 10 = .ok (.getfield 89, 3) := by decide +kernel
theorem dX9_isOut_13 : decode cX9_isOut 13 = .ok (.iload_n 1, 1) := by decide +kernel
theorem dX9_isOut_14 : decode cX9_isOut 14 = .ok (.iaload, 1) := by decide +kernel
theorem dX9_isOut_15 : decode cX9_isOut 15 = .ok (.ifCond .lt 7, 3) := by decide +kernel
theorem dX9_isOut_18 : decode cX9_isOut 18 = .ok (.iconst 1, 1) := by decide +kernel
theorem dX9_isOut_19 : decode cX9_isOut 19 = .ok (.goto 4, 3) := by decide +kernel
theorem dX9_isOut_22 : decode cX9_isOut 22 = .ok (.iconst 0, 1) := by decide +kernel
theorem dX9_isOut_23 : decode cX9_isOut 23 = .ok (.ireturn, 1) := by decide +kernel
theorem dX9_herd_0 : decode cX9_herd 0 = .ok (.iload_n 1, 1) := by decide +kernel
theorem dX9_herd_1 : decode cX9_herd 1 = .ok (.aload_n 0, 1) := by decide +kernel
theorem dX9_herd_2 : decode cX9_herd 2 = .ok (.getfield 131, 3) := by decide +kernel
theorem dX9_herd_5 : decode cX9_herd 5 = .ok (.invokestatic 134, 3) := by decide +kernel
theorem dX9_herd_8 : decode cX9_herd 8 = .ok (.ifCond .ne 9, 3) := by decide +kernel
theorem dX9_herd_11 : decode cX9_herd 11 = .ok (.aload_n 0, 1) := by decide +kernel
theorem dX9_herd_12 : decode cX9_herd 12 = .ok (.iconst (-1), 1) := by decide +kernel
theorem dX9_herd_13 : decode cX9_herd 13 = .ok (.invokevirtual 122, 3) := by decide +kernel
theorem dX9_herd_16 : decode cX9_herd 16 = .ok (.ireturn, 1) := by decide +kernel
theorem dX9_herd_17 : decode cX9_herd 17 = .ok (.iload_n 2, 1) := by decide +kernel
theorem dX9_herd_18 : decode cX9_herd 18 = .ok (.iconst 3, 1) := by decide +kernel
theorem dX9_herd_19 : decode cX9_herd 19 = .ok (.invokestatic 134, 3) := by decide +kernel
theorem dX9_herd_22 : decode cX9_herd 22 = .ok (.ifCond .ne 10, 3) := by decide +kernel
theorem dX9_herd_25 : decode cX9_herd 25 = .ok (.aload_n 0, 1) := by decide +kernel
theorem dX9_herd_26 : decode cX9_herd 26 = .ok (.bipush (-2), 2) := by decide +kernel
theorem dX9_herd_28 : decode cX9_herd 28 = .ok (.invokevirtual 122, 3) := by decide +kernel
theorem dX9_herd_31 : decode cX9_herd 31 = .ok (.ireturn, 1) := by decide +kernel
theorem dX9_herd_32 : decode cX9_herd 32 = .ok (.iload_n 3, 1) := by decide +kernel
theorem dX9_herd_33 : decode cX9_herd 33 = .ok (.iconst 1, 1) := by decide +kernel
theorem dX9_herd_34 : decode cX9_herd 34 = .ok (.if_icmp .ge 10, 3) := by decide +kernel
theorem dX9_herd_37 : decode cX9_herd 37 = .ok (.aload_n 0, 1) := by decide +kernel
theorem dX9_herd_38 : decode cX9_herd 38 = .ok (.bipush (-4), 2) := by decide +kernel
theorem dX9_herd_40 : decode cX9_herd 40 = .ok (.invokevirtual 122, 3) := by decide +kernel
theorem dX9_herd_43 : decode cX9_herd 43 = .ok (.ireturn, 1) := by decide +kernel
theorem dX9_herd_44 : decode cX9_herd 44 = .ok (.iload_n 3, 1) := by decide +kernel
theorem dX9_herd_45 : decode cX9_herd 45 = .ok (.bipush 100, 2) := by decide +kernel
theorem dX9_herd_47 : decode cX9_herd 47 = .ok (.if_icmp .gt 12, 3) := by decide +kernel
theorem dX9_herd_50 : decode cX9_herd 50 = .ok (.aload_n 0, 1) := by decide +kernel
theorem dX9_herd_51 : decode cX9_herd 51 = .ok (.getfield 164, 3) := by decide +kernel
theorem dX9_herd_54 : decode cX9_herd 54 = .ok (.bipush 20, 2) := by decide +kernel
theorem dX9_herd_56 : decode cX9_herd 56 = .ok (.if_icmp .ne 10, 3) := by decide +kernel
theorem dX9_herd_59 : decode cX9_herd 59 = .ok (.aload_n 0, 1) := by decide +kernel
theorem dX9_herd_60 : decode cX9_herd 60 = .ok (.bipush (-6), 2) := by decide +kernel
theorem dX9_herd_62 : decode cX9_herd 62 = .ok (.invokevirtual 122, 3) := by decide +kernel
theorem dX9_herd_65 : decode cX9_herd 65 = .ok (.ireturn, 1) := by decide +kernel
theorem dX9_herd_66 : decode cX9_herd 66 = .ok (.aload_n 0, 1) := by decide +kernel
theorem dX9_herd_67 : decode cX9_herd 67 = .ok (.getfield 80, 3) := by decide +kernel
theorem dX9_herd_70 : decode cX9_herd 70 = .ok (.aload_n 0, 1) := by decide +kernel
theorem dX9_herd_71 : decode cX9_herd 71 = .ok (.getfield 164, 3) := by decide +kernel
theorem dX9_herd_74 : decode cX9_herd 74 = .ok (.iload_n 1, 1) := by decide +kernel
theorem dX9_herd_75 : decode cX9_herd 75 = .ok (.iastore, 1) := by decide +kernel
theorem dX9_herd_76 : decode cX9_herd 76 = .ok (.aload_n 0, 1) := by decide +kernel
theorem dX9_herd_77 : decode cX9_herd 77 = .ok (.getfield 83, 3) := by decide +kernel
theorem dX9_herd_80 : decode cX9_herd 80 = .ok (.aload_n 0, 1) := by decide +kernel
theorem dX9_herd_81 : decode cX9_herd 81 = .ok (.getfield 164, 3) := by decide +kernel
theorem dX9_herd_84 : decode cX9_herd 84 = .ok (.iload_n 2, 1) := by decide +kernel
theorem dX9_herd_85 : decode cX9_herd 85 = .ok (.iastore, 1) := by decide +kernel
theorem dX9_herd_86 : decode cX9_herd 86 = .ok (.aload_n 0, 1) := by decide +kernel
theorem dX9_herd_87 : decode cX9_herd 87 = .ok (.getfield 86, 3) := by decide +kernel
theorem dX9_herd_90 : decode cX9_herd 90 = .ok (.aload_n 0, 1) := by decide +kernel
theorem dX9_herd_91 : decode cX9_herd 91 = .ok (.getfield 164, 3) := by decide +kernel
theorem dX9_herd_94 : decode cX9_herd 94 = .ok (.iload_n 3, 1) := by decide +kernel
theorem dX9_herd_95 : decode cX9_herd 95 = .ok (.iastore, 1) := by decide +kernel
theorem dX9_herd_96 : decode cX9_herd 96 = .ok (.aload_n 0, 1) := by decide +kernel
theorem dX9_herd_97 : decode cX9_herd 97 = .ok (.getfield 89, 3) := by decide +kernel
theorem dX9_herd_100 : decode cX9_herd 100 = .ok (.aload_n 0, 1) := by decide +kernel
theorem dX9_herd_101 : decode cX9_herd 101 = .ok (.getfield 164, 3) := by decide +kernel
theorem dX9_herd_104 : decode cX9_herd 104 = .ok (.iconst (-1), 1) := by decide +kernel
theorem dX9_herd_105 : decode cX9_herd 105 = .ok (.iastore, 1) := by decide +kernel
theorem dX9_herd_106 : decode cX9_herd 106 = .ok (.aload_n 0, 1) := by decide +kernel
theorem dX9_herd_107 : decode cX9_herd 107 = .ok (.dup, 1) := by decide +kernel
theorem dX9_herd_108 : decode cX9_herd 108 = .ok (.getfield 164, 3) := by decide +kernel
theorem dX9_herd_111 : decode cX9_herd 111 = .ok (.iconst 1, 1) := by decide +kernel
theorem dX9_herd_112 : decode cX9_herd 112 = .ok (.iadd, 1) := by decide +kernel
theorem dX9_herd_113 : decode cX9_herd 113 = .ok (.putfield 164, 3) := by decide +kernel
theorem dX9_herd_116 : decode cX9_herd 116 = .ok (.aload_n 0, 1) := by decide +kernel
theorem dX9_herd_117 : decode cX9_herd 117 = .ok (.getfield 164, 3) := by decide +kernel
theorem dX9_herd_120 : decode cX9_herd 120 = .ok (.iconst 1, 1) := by decide +kernel
theorem dX9_herd_121 : decode cX9_herd 121 = .ok (.isub, 1) := by decide +kernel
theorem dX9_herd_122 : decode cX9_herd 122 = .ok (.ireturn, 1) := by decide +kernel
theorem dX9_lacksOf_0 : decode cX9_lacksOf 0 = .ok (.iconst 0, 1) := by decide +kernel
theorem dX9_lacksOf_1 : decode cX9_lacksOf 1 = .ok (.istore_n 2, 1) := by decide +kernel
theorem dX9_lacksOf_2 : decode cX9_lacksOf 2 = .ok (.iconst 0, 1) := by decide +kernel
theorem dX9_lacksOf_3 : decode cX9_lacksOf 3 = .ok (.istore_n 3, 1) := by decide +kernel
theorem dX9_lacksOf_4 : decode cX9_lacksOf 4 = .ok (.iconst 0, 1) := by decide +kernel
theorem dX9_lacksOf_5 : decode cX9_lacksOf 5 = .ok (.istore 4, 2) := by decide +kernel
theorem dX9_lacksOf_7 : decode cX9_lacksOf 7 = .ok (.iconst 0, 1) := by decide +kernel
theorem dX9_lacksOf_8 : decode cX9_lacksOf 8 = .ok (.istore 5, 2) := by decide +kernel
theorem dX9_lacksOf_10 : decode cX9_lacksOf 10 = .ok (.iconst 0, 1) := by decide +kernel
theorem dX9_lacksOf_11 : decode cX9_lacksOf 11 = .ok (.istore 6, 2) := by decide +kernel
theorem dX9_lacksOf_13 : decode cX9_lacksOf 13 = .ok (.iload 6, 2) := by decide +kernel
theorem dX9_lacksOf_15 : decode cX9_lacksOf 15 = .ok (.aload_n 0, 1) := by decide +kernel
theorem dX9_lacksOf_16 : decode cX9_lacksOf 16 = .ok (.getfield 127, 3) := by decide +kernel
theorem dX9_lacksOf_19 : decode cX9_lacksOf 19 = .ok (.if_icmp .ge 210, 3) := by decide +kernel
theorem dX9_lacksOf_22 : decode cX9_lacksOf 22 = .ok (.iconst 0, 1) := by decide +kernel
theorem dX9_lacksOf_23 : decode cX9_lacksOf 23 = .ok (.istore 7, 2) := by decide +kernel
theorem dX9_lacksOf_25 : decode cX9_lacksOf 25 = .ok (.iconst 0, 1) := by decide +kernel
theorem dX9_lacksOf_26 : decode cX9_lacksOf 26 = .ok (.istore 8, 2) := by decide +kernel
theorem dX9_lacksOf_28 : decode cX9_lacksOf 28 = .ok (.iconst 0, 1) := by decide +kernel
theorem dX9_lacksOf_29 : decode cX9_lacksOf 29 = .ok (.istore 9, 2) := by decide +kernel
theorem dX9_lacksOf_31 : decode cX9_lacksOf 31 = .ok (.iconst 0, 1) := by decide +kernel
theorem dX9_lacksOf_32 : decode cX9_lacksOf 32 = .ok (.istore 10, 2) := by decide +kernel
theorem dX9_lacksOf_34 : decode cX9_lacksOf 34 = .ok (.iload 10, 2) := by decide +kernel
theorem dX9_lacksOf_36 : decode cX9_lacksOf 36 = .ok (.aload_n 0, 1) := by decide +kernel
theorem dX9_lacksOf_37 : decode cX9_lacksOf 37 = .ok (.getfield 148, 3) := by decide +kernel
theorem dX9_lacksOf_40 : decode cX9_lacksOf 40 = .ok (.if_icmp .ge 57, 3) := by decide +kernel
theorem dX9_lacksOf_43 : decode cX9_lacksOf 43 = .ok (.iload 7, 2) := by decide +kernel
theorem dX9_lacksOf_45 : decode cX9_lacksOf 45 = .ok (.aload_n 0, 1) := by decide +kernel
theorem dX9_lacksOf_46 : decode cX9_lacksOf 46 = .ok (.getfield 50, 3) := by decide +kernel
theorem dX9_lacksOf_49 : decode cX9_lacksOf 49 = .ok (.iload 10, 2) := by decide +kernel
theorem dX9_lacksOf_51 : decode cX9_lacksOf 51 = .ok (.iaload, 1) := by decide +kernel
theorem dX9_lacksOf_52 : decode cX9_lacksOf 52 = .ok (.iconst 3, 1) := by decide +kernel
theorem dX9_lacksOf_53 : decode cX9_lacksOf 53 = .ok (.if_icmp .ne 34, 3) := by decide +kernel
theorem dX9_lacksOf_56 : decode cX9_lacksOf 56 = .ok (.aload_n 0, 1) := by decide +kernel
theorem dX9_lacksOf_57 : decode cX9_lacksOf 57 = .ok (.getfield 65, 3) := by decide +kernel
theorem dX9_lacksOf_60 : decode cX9_lacksOf 60 = .ok (.iload 10, 2) := by decide +kernel
theorem dX9_lacksOf_62 : decode cX9_lacksOf 62 = .ok (.iaload, 1) := by decide +kernel
theorem dX9_lacksOf_63 : decode cX9_lacksOf 63 = .ok (.iload 6, 2) := by decide +kernel
theorem dX9_lacksOf_65 : decode cX9_lacksOf 65 = .ok (.if_icmp .ne 22, 3) := by decide +kernel
theorem dX9_lacksOf_68 : decode cX9_lacksOf 68 = .ok (.aload_n 0, 1) := by decide +kernel
theorem dX9_lacksOf_69 : decode cX9_lacksOf 69 = .ok (.iload 10, 2) := by decide +kernel
theorem dX9_lacksOf_71 : decode cX9_lacksOf 71 = .ok (.invokevirtual 155, 3) := by decide +kernel
theorem dX9_lacksOf_74 : decode cX9_lacksOf 74 = .ok (.iload_n 1, 1) := by decide +kernel
theorem dX9_lacksOf_75 : decode cX9_lacksOf 75 = .ok (.if_icmp .ne 12, 3) := by decide +kernel
theorem dX9_lacksOf_78 : decode cX9_lacksOf 78 = .ok (.aload_n 0, 1) := by decide +kernel
theorem dX9_lacksOf_79 : decode cX9_lacksOf 79 = .ok (.iload 10, 2) := by decide +kernel
theorem dX9_lacksOf_81 : decode cX9_lacksOf 81 = .ok (.invokevirtual 158, 3) := by decide +kernel
theorem dX9_lacksOf_84 : decode cX9_lacksOf 84 = .ok (.goto 4, 3) := by decide +kernel
theorem dX9_lacksOf_87 : decode cX9_lacksOf 87 = .ok (.iconst 0, 1) := by decide +kernel
theorem dX9_lacksOf_88 : decode cX9_lacksOf 88 = .ok (.iadd, 1) := by decide +kernel
theorem dX9_lacksOf_89 : decode cX9_lacksOf 89 = .ok (.istore 7, 2) := by decide +kernel
theorem dX9_lacksOf_91 : decode cX9_lacksOf 91 = .ok (.iinc 10 1, 3) := by decide +kernel
theorem dX9_lacksOf_94 : decode cX9_lacksOf 94 = .ok (.goto (-60), 3) := by decide +kernel
theorem dX9_lacksOf_97 : decode cX9_lacksOf 97 = .ok (.iconst 0, 1) := by decide +kernel
theorem dX9_lacksOf_98 : decode cX9_lacksOf 98 = .ok (.istore 10, 2) := by decide +kernel
theorem dX9_lacksOf_100 : decode cX9_lacksOf 100 = .ok (.iload 10, 2) := by decide +kernel
theorem dX9_lacksOf_102 : decode cX9_lacksOf 102 = .ok (.aload_n 0, 1) := by decide +kernel
theorem dX9_lacksOf_103 : decode cX9_lacksOf 103 = .ok (.getfield 164, 3) := by decide +kernel
theorem dX9_lacksOf_106 : decode cX9_lacksOf 106 = .ok (.if_icmp .ge 80, 3) := by decide +kernel
theorem dX9_lacksOf_109 : decode cX9_lacksOf 109 = .ok (.aload_n 0, 1) := by decide +kernel
theorem dX9_lacksOf_110 : decode cX9_lacksOf 110 = .ok (.iload 10, 2) := by decide +kernel
theorem dX9_lacksOf_112 : decode cX9_lacksOf 112 = .ok (.invokevirtual 167, 3) := by decide +kernel
theorem dX9_lacksOf_115 : decode cX9_lacksOf 115 = .ok (.ifCond .eq 65, 3) := by decide +kernel
theorem dX9_lacksOf_118 : decode cX9_lacksOf 118 = .ok (.aload_n 0, 1) := by decide +kernel
theorem dX9_lacksOf_119 : decode cX9_lacksOf 119 = .ok (.getfield 80, 3) := by decide +kernel
theorem dX9_lacksOf_122 : decode cX9_lacksOf 122 = .ok (.iload 10, 2) := by decide +kernel
theorem dX9_lacksOf_124 : decode cX9_lacksOf 124 = .ok (.iaload, 1) := by decide +kernel
theorem dX9_lacksOf_125 : decode cX9_lacksOf 125 = .ok (.iload_n 1, 1) := by decide +kernel
theorem dX9_lacksOf_126 : decode cX9_lacksOf 126 = .ok (.if_icmp .ne 54, 3) := by decide +kernel
theorem dX9_lacksOf_129 : decode cX9_lacksOf 129 = .ok (.aload_n 0, 1) := by decide +kernel
theorem dX9_lacksOf_130 : decode cX9_lacksOf 130 = .ok (.getfield 89, 3) := by decide +kernel
theorem dX9_lacksOf_133 : decode cX9_lacksOf 133 = .ok (.iload 10, 2) := by decide +kernel
theorem dX9_lacksOf_135 : decode cX9_lacksOf 135 = .ok (.iaload, 1) := by decide +kernel
theorem dX9_lacksOf_136 : decode cX9_lacksOf 136 = .ok (.iload 6, 2) := by decide +kernel
theorem dX9_lacksOf_138 : decode cX9_lacksOf 138 = .ok (.if_icmp .eq 6, 3) := by decide +kernel
theorem dX9_lacksOf_141 : decode cX9_lacksOf 141 = .ok (.goto 39, 3) := by decide +kernel
theorem dX9_lacksOf_144 : decode cX9_lacksOf 144 = .ok (.aload_n 0, 1) := by decide +kernel
theorem dX9_lacksOf_145 : decode cX9_lacksOf 145 = .ok (.getfield 83, 3) := by decide +kernel
theorem dX9_lacksOf_148 : decode cX9_lacksOf 148 = .ok (.iload 10, 2) := by decide +kernel
theorem dX9_lacksOf_150 : decode cX9_lacksOf 150 = .ok (.iaload, 1) := by decide +kernel
theorem dX9_lacksOf_151 : decode cX9_lacksOf 151 = .ok (.iconst 2, 1) := by decide +kernel
theorem dX9_lacksOf_152 : decode cX9_lacksOf 152 = .ok (.if_icmp .ne 17, 3) := by decide +kernel
theorem dX9_lacksOf_155 : decode cX9_lacksOf 155 = .ok (.iload 9, 2) := by decide +kernel
theorem dX9_lacksOf_157 : decode cX9_lacksOf 157 = .ok (.aload_n 0, 1) := by decide +kernel
theorem dX9_lacksOf_158 : decode cX9_lacksOf 158 = .ok (.iload 10, 2) := by decide +kernel
theorem dX9_lacksOf_160 : decode cX9_lacksOf 160 = .ok (.invokevirtual 170, 3) := by decide +kernel
theorem dX9_lacksOf_163 : decode cX9_lacksOf 163 = .ok (.iadd, 1) := by decide +kernel
theorem dX9_lacksOf_164 : decode cX9_lacksOf 164 = .ok (.istore 9, 2) := by decide +kernel
theorem dX9_lacksOf_166 : decode cX9_lacksOf 166 = .ok (.goto 14, 3) := by decide +kernel
theorem dX9_lacksOf_169 : decode cX9_lacksOf 169 = .ok (.iload 8, 2) := by decide +kernel
theorem dX9_lacksOf_171 : decode cX9_lacksOf 171 = .ok (.aload_n 0, 1) := by decide +kernel
theorem dX9_lacksOf_172 : decode cX9_lacksOf 172 = .ok (.iload 10, 2) := by decide +kernel
theorem dX9_lacksOf_174 : decode cX9_lacksOf 174 = .ok (.invokevirtual 170, 3) := by decide +kernel
theorem dX9_lacksOf_177 : decode cX9_lacksOf 177 = .ok (.iadd, 1) := by decide +kernel
theorem dX9_lacksOf_178 : decode cX9_lacksOf 178 = .ok (.istore 8, 2) := by decide +kernel
theorem dX9_lacksOf_180 : decode cX9_lacksOf 180 = .ok (.iinc 10 1, 3) := by decide +kernel
theorem dX9_lacksOf_183 : decode cX9_lacksOf 183 = .ok (.goto (-83), 3) := by decide +kernel
theorem dX9_lacksOf_186 : decode cX9_lacksOf 186 = .ok (.iload 7, 2) := by decide +kernel
theorem dX9_lacksOf_188 : decode cX9_lacksOf 188 = .ok (.iload 8, 2) := by decide +kernel
theorem dX9_lacksOf_190 : decode cX9_lacksOf 190 = .ok (.invokestatic 173, 3) := by decide +kernel
theorem dX9_lacksOf_193 : decode cX9_lacksOf 193 = .ok (.istore 10, 2) := by decide +kernel
theorem dX9_lacksOf_195 : decode cX9_lacksOf 195 = .ok (.iload 5, 2) := by decide +kernel
theorem dX9_lacksOf_197 : decode cX9_lacksOf 197 = .ok (.iload 8, 2) := by decide +kernel
theorem dX9_lacksOf_199 : decode cX9_lacksOf 199 = .ok (.iload 10, 2) := by decide +kernel
theorem dX9_lacksOf_201 : decode cX9_lacksOf 201 = .ok (.isub, 1) := by decide +kernel
theorem dX9_lacksOf_202 : decode cX9_lacksOf 202 = .ok (.iadd, 1) := by decide +kernel
theorem dX9_lacksOf_203 : decode cX9_lacksOf 203 = .ok (.istore 5, 2) := by decide +kernel
theorem dX9_lacksOf_205 : decode cX9_lacksOf 205 = .ok (.iload 4, 2) := by decide +kernel
theorem dX9_lacksOf_207 : decode cX9_lacksOf 207 = .ok (.iload 9, 2) := by decide +kernel
theorem dX9_lacksOf_209 : decode cX9_lacksOf 209 = .ok (.iload 7, 2) := by decide +kernel
theorem dX9_lacksOf_211 : decode cX9_lacksOf 211 = .ok (.iload 10, 2) := by decide +kernel
theorem dX9_lacksOf_213 : decode cX9_lacksOf 213 = .ok (.isub, 1) := by decide +kernel
theorem dX9_lacksOf_214 : decode cX9_lacksOf 214 = .ok (.iload 9, 2) := by decide +kernel
theorem dX9_lacksOf_216 : decode cX9_lacksOf 216 = .ok (.invokestatic 173, 3) := by decide +kernel
theorem dX9_lacksOf_219 : decode cX9_lacksOf 219 = .ok (.isub, 1) := by decide +kernel
theorem dX9_lacksOf_220 : decode cX9_lacksOf 220 = .ok (.iadd, 1) := by decide +kernel
theorem dX9_lacksOf_221 : decode cX9_lacksOf 221 = .ok (.istore 4, 2) := by decide +kernel
theorem dX9_lacksOf_223 : decode cX9_lacksOf 223 = .ok (.iinc 6 1, 3) := by decide +kernel
theorem dX9_lacksOf_226 : decode cX9_lacksOf 226 = .ok (.goto (-213), 3) := by decide +kernel
theorem dX9_lacksOf_229 : decode cX9_lacksOf 229 = .ok (.iconst 0, 1) := by decide +kernel
theorem dX9_lacksOf_230 : decode cX9_lacksOf 230 = .ok (.istore 6, 2) := by decide +kernel
theorem dX9_lacksOf_232 : decode cX9_lacksOf 232 = .ok (.iload 6, 2) := by decide +kernel
theorem dX9_lacksOf_234 : decode cX9_lacksOf 234 = .ok (.aload_n 0, 1) := by decide +kernel
theorem dX9_lacksOf_235 : decode cX9_lacksOf 235 = .ok (.getfield 148, 3) := by decide +kernel
theorem dX9_lacksOf_238 : decode cX9_lacksOf 238 = .ok (.if_icmp .ge 65, 3) := by decide +kernel
theorem dX9_lacksOf_241 : decode cX9_lacksOf 241 = .ok (.aload_n 0, 1) := by decide +kernel
theorem dX9_lacksOf_242 : decode cX9_lacksOf 242 = .ok (.iload 6, 2) := by decide +kernel
theorem dX9_lacksOf_244 : decode cX9_lacksOf 244 = .ok (.invokevirtual 155, 3) := by decide +kernel
theorem dX9_lacksOf_247 : decode cX9_lacksOf 247 = .ok (.iload_n 1, 1) := by decide +kernel
theorem dX9_lacksOf_248 : decode cX9_lacksOf 248 = .ok (.if_icmp .eq 6, 3) := by decide +kernel
theorem dX9_lacksOf_251 : decode cX9_lacksOf 251 = .ok (.goto 46, 3) := by decide +kernel
theorem dX9_lacksOf_254 : decode cX9_lacksOf 254 = .ok (.aload_n 0, 1) := by decide +kernel
theorem dX9_lacksOf_255 : decode cX9_lacksOf 255 = .ok (.getfield 50, 3) := by decide +kernel
theorem dX9_lacksOf_258 : decode cX9_lacksOf 258 = .ok (.iload 6, 2) := by decide +kernel
theorem dX9_lacksOf_260 : decode cX9_lacksOf 260 = .ok (.iaload, 1) := by decide +kernel
theorem dX9_lacksOf_261 : decode cX9_lacksOf 261 = .ok (.iconst 2, 1) := by decide +kernel
theorem dX9_lacksOf_262 : decode cX9_lacksOf 262 = .ok (.if_icmp .ne 15, 3) := by decide +kernel
theorem dX9_lacksOf_265 : decode cX9_lacksOf 265 = .ok (.iload_n 3, 1) := by decide +kernel
theorem dX9_lacksOf_266 : decode cX9_lacksOf 266 = .ok (.aload_n 0, 1) := by decide +kernel
theorem dX9_lacksOf_267 : decode cX9_lacksOf 267 = .ok (.iload 6, 2) := by decide +kernel
theorem dX9_lacksOf_269 : decode cX9_lacksOf 269 = .ok (.invokevirtual 158, 3) := by decide +kernel
theorem dX9_lacksOf_272 : decode cX9_lacksOf 272 = .ok (.iadd, 1) := by decide +kernel
theorem dX9_lacksOf_273 : decode cX9_lacksOf 273 = .ok (.istore_n 3, 1) := by decide +kernel
theorem dX9_lacksOf_274 : decode cX9_lacksOf 274 = .ok (.goto 23, 3) := by decide +kernel
theorem dX9_lacksOf_277 : decode cX9_lacksOf 277 = .ok (.aload_n 0, 1) := by decide +kernel
theorem dX9_lacksOf_278 : decode cX9_lacksOf 278 = .ok (.getfield 50, 3) := by decide +kernel
theorem dX9_lacksOf_281 : decode cX9_lacksOf 281 = .ok (.iload 6, 2) := by decide +kernel
theorem dX9_lacksOf_283 : decode cX9_lacksOf 283 = .ok (.iaload, 1) := by decide +kernel
theorem dX9_lacksOf_284 : decode cX9_lacksOf 284 = .ok (.iconst 3, 1) := by decide +kernel
theorem dX9_lacksOf_285 : decode cX9_lacksOf 285 = .ok (.if_icmp .eq 12, 3) := by decide +kernel
theorem dX9_lacksOf_288 : decode cX9_lacksOf 288 = .ok (.iload_n 2, 1) := by decide +kernel
theorem dX9_lacksOf_289 : decode cX9_lacksOf 289 = .ok (.aload_n 0, 1) := by decide +kernel
theorem dX9_lacksOf_290 : decode cX9_lacksOf 290 = .ok (.iload 6, 2) := by decide +kernel
theorem dX9_lacksOf_292 : decode cX9_lacksOf 292 = .ok (.invokevirtual 158, 3) := by decide +kernel
theorem dX9_lacksOf_295 : decode cX9_lacksOf 295 = .ok (.iadd, 1) := by decide +kernel
theorem dX9_lacksOf_296 : decode cX9_lacksOf 296 = .ok (.istore_n 2, 1) := by decide +kernel
theorem dX9_lacksOf_297 : decode cX9_lacksOf 297 = .ok (.iinc 6 1, 3) := by decide +kernel
theorem dX9_lacksOf_300 : decode cX9_lacksOf 300 = .ok (.goto (-68), 3) := by decide +kernel
theorem dX9_lacksOf_303 : decode cX9_lacksOf 303 = .ok (.iload 5, 2) := by decide +kernel
theorem dX9_lacksOf_305 : decode cX9_lacksOf 305 = .ok (.iconst 0, 1) := by decide +kernel
theorem dX9_lacksOf_306 : decode cX9_lacksOf 306 = .ok (.iload 4, 2) := by decide +kernel
theorem dX9_lacksOf_308 : decode cX9_lacksOf 308 = .ok (.iload_n 3, 1) := by decide +kernel
theorem dX9_lacksOf_309 : decode cX9_lacksOf 309 = .ok (.isub, 1) := by decide +kernel
theorem dX9_lacksOf_310 : decode cX9_lacksOf 310 = .ok (.invokestatic 179, 3) := by decide +kernel
theorem dX9_lacksOf_313 : decode cX9_lacksOf 313 = .ok (.iadd, 1) := by decide +kernel
theorem dX9_lacksOf_314 : decode cX9_lacksOf 314 = .ok (.iload_n 2, 1) := by decide +kernel
theorem dX9_lacksOf_315 : decode cX9_lacksOf 315 = .ok (.isub, 1) := by decide +kernel
theorem dX9_lacksOf_316 : decode cX9_lacksOf 316 = .ok (.istore 6, 2) := by decide +kernel
theorem dX9_lacksOf_318 : decode cX9_lacksOf 318 = .ok (.iconst 0, 1) := by decide +kernel
theorem dX9_lacksOf_319 : decode cX9_lacksOf 319 = .ok (.iload 6, 2) := by decide +kernel
theorem dX9_lacksOf_321 : decode cX9_lacksOf 321 = .ok (.invokestatic 179, 3) := by decide +kernel
theorem dX9_lacksOf_324 : decode cX9_lacksOf 324 = .ok (.ireturn, 1) := by decide +kernel
theorem dX9_rests_0 : decode cX9_rests 0 = .ok (.aload_n 0, 1) := by decide +kernel
theorem dX9_rests_1 : decode cX9_rests 1 = .ok (.getfield 141, 3) := by decide +kernel
theorem dX9_rests_4 : decode cX9_rests 4 = .ok (.aload_n 0, 1) := by decide +kernel
theorem dX9_rests_5 : decode cX9_rests 5 = .ok (.getfield 22, 3) := by decide +kernel
theorem dX9_rests_8 : decode cX9_rests 8 = .ok (.iload_n 1, 1) := by decide +kernel
theorem dX9_rests_9 : decode cX9_rests 9 = .ok (.iaload, 1) := by decide +kernel
theorem dX9_rests_10 : decode cX9_rests 10 = .ok (.if_icmp .gt 7, 3) := by decide +kernel
theorem dX9_rests_13 : decode cX9_rests 13 = .ok (.iconst 1, 1) := by decide +kernel
theorem dX9_rests_14 : decode cX9_rests 14 = .ok (.goto 4, 3) := by decide +kernel
theorem dX9_rests_17 : decode cX9_rests 17 = .ok (.iconst 0, 1) := by decide +kernel
theorem dX9_rests_18 : decode cX9_rests 18 = .ok (.ireturn, 1) := by decide +kernel
theorem dX9_put_0 : decode cX9_put 0 = .ok (.iload_n 1, 1) := by decide +kernel
theorem dX9_put_1 : decode cX9_put 1 = .ok (.aload_n 0, 1) := by decide +kernel
theorem dX9_put_2 : decode cX9_put 2 = .ok (.getfield 164, 3) := by decide +kernel
theorem dX9_put_5 : decode cX9_put 5 = .ok (.invokestatic 134, 3) := by decide +kernel
theorem dX9_put_8 : decode cX9_put 8 = .ok (.ifCond .eq 14, 3) := by decide +kernel
theorem dX9_put_11 : decode cX9_put 11 = .ok (.iload_n 2, 1) := by decide +kernel
theorem dX9_put_12 : decode cX9_put 12 = .ok (.aload_n 0, 1) := by decide +kernel
theorem dX9_put_13 : decode cX9_put 13 = .ok (.getfield 127, 3) := by decide +kernel
theorem dX9_put_16 : decode cX9_put 16 = .ok (.invokestatic 134, 3) := by decide +kernel
theorem dX9_put_19 : decode cX9_put 19 = .ok (.ifCond .ne 9, 3) := by decide +kernel
theorem dX9_put_22 : decode cX9_put 22 = .ok (.aload_n 0, 1) := by decide +kernel
theorem dX9_put_23 : decode cX9_put 23 = .ok (.iconst (-1), 1) := by decide +kernel
theorem dX9_put_24 : decode cX9_put 24 = .ok (.invokevirtual 122, 3) := by decide +kernel
theorem dX9_put_27 : decode cX9_put 27 = .ok (.ireturn, 1) := by decide +kernel
theorem dX9_put_28 : decode cX9_put 28 = .ok (.aload_n 0, 1) := by decide +kernel
theorem dX9_put_29 : decode cX9_put 29 = .ok (.getfield 98, 3) := by decide +kernel
theorem dX9_put_32 : decode cX9_put 32 = .ok (.iload_n 1, 1) := by decide +kernel
theorem dX9_put_33 : decode cX9_put 33 = .ok (.iaload, 1) := by decide +kernel
theorem dX9_put_34 : decode cX9_put 34 = .ok (.ifCond .ne 20, 3) := by decide +kernel
theorem dX9_put_37 : decode cX9_put 37 = .ok (.aload_n 0, 1) := by decide +kernel
theorem dX9_put_38 : decode cX9_put 38 = .ok (.getfield 89, 3) := by decide +kernel
theorem dX9_put_41 : decode cX9_put 41 = .ok (.iload_n 1, 1) := by decide +kernel
theorem dX9_put_42 : decode cX9_put 42 = .ok (.iaload, 1) := by decide +kernel
theorem dX9_put_43 : decode cX9_put 43 = .ok (.ifCond .ge 11, 3) := by decide +kernel
theorem dX9_put_46 : decode cX9_put 46 = .ok (.aload_n 0, 1) := by decide +kernel
theorem dX9_put_47 : decode cX9_put 47 = .ok (.iload_n 2, 1) := by decide +kernel
theorem dX9_put_48 : decode cX9_put 48 = .ok (.invokevirtual 182, 3) := by decide +kernel
theorem dX9_put_51 : decode cX9_put 51 = .ok (.ifCond .eq 10, 3) := by decide +kernel
theorem dX9_put_54 : decode cX9_put 54 = .ok (.aload_n 0, 1) := by decide +kernel
theorem dX9_put_55 : decode cX9_put 55 = .ok (.bipush (-3), 2) := by decide +kernel
theorem dX9_put_57 : decode cX9_put 57 = .ok (.invokevirtual 122, 3) := by decide +kernel
theorem dX9_put_60 : decode cX9_put 60 = .ok (.ireturn, 1) := by decide +kernel
theorem dX9_put_61 : decode cX9_put 61 = .ok (.aload_n 0, 1) := by decide +kernel
theorem dX9_put_62 : decode cX9_put 62 = .ok (.getfield 89, 3) := by decide +kernel
theorem dX9_put_65 : decode cX9_put 65 = .ok (.iload_n 1, 1) := by decide +kernel
theorem dX9_put_66 : decode cX9_put 66 = .ok (.iload_n 2, 1) := by decide +kernel
theorem dX9_put_67 : decode cX9_put 67 = .ok (.iastore, 1) := by decide +kernel
theorem dX9_put_68 : decode cX9_put 68 = .ok (.aload_n 0, 1) := by decide +kernel
