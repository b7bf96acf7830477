theorem dX9_init_0 : decode cX9_init 0 = .ok (.aload_n 0, 1) := by decide +kernel
theorem dX9_init_1 : decode cX9_init 1 = .ok (.invokespecial 1, 3) := by decide +kernel
theorem dX9_init_4 : decode cX9_init 4 = .ok (.aload_n 0, 1) := by decide +kernel
theorem dX9_init_5 : decode cX9_init 5 = .ok (.bipush 7, 2) := by decide +kernel
theorem dX9_init_7 : decode cX9_init 7 = .ok (.newarray .int, 2) := by decide +kernel
theorem dX9_init_9 : decode cX9_init 9 = .ok (.putfield 7, 3) := by decide +kernel
theorem dX9_init_12 : decode cX9_init 12 = .ok (.aload_n 0, 1) := by decide +kernel
theorem dX9_init_13 : decode cX9_init 13 = .ok (.bipush 6, 2) := by decide +kernel
theorem dX9_init_15 : decode cX9_init 15 = .ok (.newarray .int, 2) := by decide +kernel
theorem dX9_init_17 : decode cX9_init 17 = .ok (.putfield 13, 3) := by decide +kernel
theorem dX9_init_20 : decode cX9_init 20 = .ok (.aload_n 0, 1) := by decide +kernel
theorem dX9_init_21 : decode cX9_init 21 = .ok (.bipush 6, 2) := by decide +kernel
theorem dX9_init_23 : decode cX9_init 23 = .ok (.newarray .int, 2) := by decide +kernel
theorem dX9_init_25 : decode cX9_init 25 = .ok (.putfield 16, 3) := by decide +kernel
theorem dX9_init_28 : decode cX9_init 28 = .ok (.aload_n 0, 1) := by decide +kernel
theorem dX9_init_29 : decode cX9_init 29 = .ok (.bipush 6, 2) := by decide +kernel
theorem dX9_init_31 : decode cX9_init 31 = .ok (.newarray .int, 2) := by decide +kernel
theorem dX9_init_33 : decode cX9_init 33 = .ok (.putfield 19, 3) := by decide +kernel
theorem dX9_init_36 : decode cX9_init 36 = .ok (.aload_n 0, 1) := by decide +kernel
theorem dX9_init_37 : decode cX9_init 37 = .ok (.bipush 6, 2) := by decide +kernel
theorem dX9_init_39 : decode cX9_init 39 = .ok (.newarray .int, 2) := by decide +kernel
theorem dX9_init_41 : decode cX9_init 41 = .ok (.putfield 22, 3) := by decide +kernel
theorem dX9_init_44 : decode cX9_init 44 = .ok (.aload_n 0, 1) := by decide +kernel
theorem dX9_init_45 : decode cX9_init 45 = .ok (.bipush 6, 2) := by decide +kernel
theorem dX9_init_47 : decode cX9_init 47 = .ok (.newarray .int, 2) := by decide +kernel
theorem dX9_init_49 : decode cX9_init 49 = .ok (.putfield 25, 3) := by decide +kernel
theorem dX9_init_52 : decode cX9_init 52 = .ok (.aload_n 0, 1) := by decide +kernel
theorem dX9_init_53 : decode cX9_init 53 = .ok (.bipush 6, 2) := by decide +kernel
theorem dX9_init_55 : decode cX9_init 55 = .ok (.newarray .boolean, 2) := by decide +kernel
theorem dX9_init_57 : decode cX9_init 57 = .ok (.putfield 28, 3) := by decide +kernel
theorem dX9_init_60 : decode cX9_init 60 = .ok (.aload_n 0, 1) := by decide +kernel
theorem dX9_init_61 : decode cX9_init 61 = .ok (.bipush 10, 2) := by decide +kernel
theorem dX9_init_63 : decode cX9_init 63 = .ok (.newarray .int, 2) := by decide +kernel
theorem dX9_init_65 : decode cX9_init 65 = .ok (.putfield 32, 3) := by decide +kernel
theorem dX9_init_68 : decode cX9_init 68 = .ok (.aload_n 0, 1) := by decide +kernel
theorem dX9_init_69 : decode cX9_init 69 = .ok (.bipush 10, 2) := by decide +kernel
theorem dX9_init_71 : decode cX9_init 71 = .ok (.newarray .int, 2) := by decide +kernel
theorem dX9_init_73 : decode cX9_init 73 = .ok (.putfield 35, 3) := by decide +kernel
theorem dX9_init_76 : decode cX9_init 76 = .ok (.aload_n 0, 1) := by decide +kernel
theorem dX9_init_77 : decode cX9_init 77 = .ok (.bipush 10, 2) := by decide +kernel
theorem dX9_init_79 : decode cX9_init 79 = .ok (.newarray .int, 2) := by decide +kernel
theorem dX9_init_81 : decode cX9_init 81 = .ok (.putfield 38, 3) := by decide +kernel
theorem dX9_init_84 : decode cX9_init 84 = .ok (.aload_n 0, 1) := by decide +kernel
theorem dX9_init_85 : decode cX9_init 85 = .ok (.bipush 100, 2) := by decide +kernel
theorem dX9_init_87 : decode cX9_init 87 = .ok (.newarray .int, 2) := by decide +kernel
theorem dX9_init_89 : decode cX9_init 89 = .ok (.putfield 41, 3) := by decide +kernel
theorem dX9_init_92 : decode cX9_init 92 = .ok (.aload_n 0, 1) := by decide +kernel
theorem dX9_init_93 : decode cX9_init 93 = .ok (.sipush 721, 3) := by decide +kernel
theorem dX9_init_96 : decode cX9_init 96 = .ok (.newarray .int, 2) := by decide +kernel
theorem dX9_init_98 : decode cX9_init 98 = .ok (.putfield 44, 3) := by decide +kernel
theorem dX9_init_101 : decode cX9_init 101 = .ok (.aload_n 0, 1) := by decide +kernel
theorem dX9_init_102 : decode cX9_init 102 = .ok (.sipush 721, 3) := by decide +kernel
theorem dX9_init_105 : decode cX9_init 105 = .ok (.newarray .int, 2) := by decide +kernel
theorem dX9_init_107 : decode cX9_init 107 = .ok (.putfield 47, 3) := by decide +kernel
theorem dX9_init_110 : decode cX9_init 110 = .ok (.aload_n 0, 1) := by decide +kernel
theorem dX9_init_111 : decode cX9_init 111 = .ok (.bipush 60, 2) := by decide +kernel
theorem dX9_init_113 : decode cX9_init 113 = .ok (.newarray .int, 2) := by decide +kernel
theorem dX9_init_115 : decode cX9_init 115 = .ok (.putfield 50, 3) := by decide +kernel
theorem dX9_init_118 : decode cX9_init 118 = .ok (.aload_n 0, 1) := by decide +kernel
theorem dX9_init_119 : decode cX9_init 119 = .ok (.bipush 60, 2) := by decide +kernel
theorem dX9_init_121 : decode cX9_init 121 = .ok (.newarray .int, 2) := by decide +kernel
theorem dX9_init_123 : decode cX9_init 123 = .ok (.putfield 53, 3) := by decide +kernel
theorem dX9_init_126 : decode cX9_init 126 = .ok (.aload_n 0, 1) := by decide +kernel
theorem dX9_init_127 : decode cX9_init 127 = .ok (.bipush 60, 2) := by decide +kernel
theorem dX9_init_129 : decode cX9_init 129 = .ok (.newarray .int, 2) := by decide +kernel
theorem dX9_init_131 : decode cX9_init 131 = .ok (.putfield 56, 3) := by decide +kernel
theorem dX9_init_134 : decode cX9_init 134 = .ok (.aload_n 0, 1) := by decide +kernel
theorem dX9_init_135 : decode cX9_init 135 = .ok (.bipush 60, 2) := by decide +kernel
theorem dX9_init_137 : decode cX9_init 137 = .ok (.newarray .int, 2) := by decide +kernel
theorem dX9_init_139 : decode cX9_init 139 = .ok (.putfield 59, 3) := by decide +kernel
theorem dX9_init_142 : decode cX9_init 142 = .ok (.aload_n 0, 1) := by decide +kernel
theorem dX9_init_143 : decode cX9_init 143 = .ok (.bipush 60, 2) := by decide +kernel
theorem dX9_init_145 : decode cX9_init 145 = .ok (.newarray .int, 2) := by decide +kernel
theorem dX9_init_147 : decode cX9_init 147 = .ok (.putfield 62, 3) := by decide +kernel
theorem dX9_init_150 : decode cX9_init 150 = .ok (.aload_n 0, 1) := by decide +kernel
theorem dX9_init_151 : decode cX9_init 151 = .ok (.bipush 60, 2) := by decide +kernel
theorem dX9_init_153 : decode cX9_init 153 = .ok (.newarray .int, 2) := by decide +kernel
theorem dX9_init_155 : decode cX9_init 155 = .ok (.putfield 65, 3) := by decide +kernel
theorem dX9_init_158 : decode cX9_init 158 = .ok (.aload_n 0, 1) := by decide +kernel
theorem dX9_init_159 : decode cX9_init 159 = .ok (.bipush 60, 2) := by decide +kernel
theorem dX9_init_161 : decode cX9_init 161 = .ok (.newarray .int, 2) := by decide +kernel
theorem dX9_init_163 : decode cX9_init 163 = .ok (.putfield 68, 3) := by decide +kernel
theorem dX9_init_166 : decode cX9_init 166 = .ok (.aload_n 0, 1) := by decide +kernel
theorem dX9_init_167 : decode cX9_init 167 = .ok (.bipush 60, 2) := by decide +kernel
theorem dX9_init_169 : decode cX9_init 169 = .ok (.newarray .int, 2) := by decide +kernel
theorem dX9_init_171 : decode cX9_init 171 = .ok (.putfield 71, 3) := by decide +kernel
theorem dX9_init_174 : decode cX9_init 174 = .ok (.aload_n 0, 1) := by decide +kernel
theorem dX9_init_175 : decode cX9_init 175 = .ok (.bipush 60, 2) := by decide +kernel
theorem dX9_init_177 : decode cX9_init 177 = .ok (.newarray .boolean, 2) := by decide +kernel
theorem dX9_init_179 : decode cX9_init 179 = .ok (.putfield 74, 3) := by decide +kernel
theorem dX9_init_182 : decode cX9_init 182 = .ok (.aload_n 0, 1) := by decide +kernel
theorem dX9_init_183 : decode cX9_init 183 = .ok (.bipush 60, 2) := by decide +kernel
theorem dX9_init_185 : decode cX9_init 185 = .ok (.newarray .boolean, 2) := by decide +kernel
theorem dX9_init_187 : decode cX9_init 187 = .ok (.putfield 77, 3) := by decide +kernel
theorem dX9_init_190 : decode cX9_init 190 = .ok (.aload_n 0, 1) := by decide +kernel
theorem dX9_init_191 : decode cX9_init 191 = .ok (.bipush 20, 2) := by decide +kernel
theorem dX9_init_193 : decode cX9_init 193 = .ok (.newarray .int, 2) := by decide +kernel
theorem dX9_init_195 : decode cX9_init 195 = .ok (.putfield 80, 3) := by decide +kernel
theorem dX9_init_198 : decode cX9_init 198 = .ok (.aload_n 0, 1) := by decide +kernel
theorem dX9_init_199 : decode cX9_init 199 = .ok (.bipush 20, 2) := by decide +kernel
theorem dX9_init_201 : decode cX9_init 201 = .ok (.newarray .int, 2) := by decide +kernel
theorem dX9_init_203 : decode cX9_init 203 = .ok (.putfield 83, 3) := by decide +kernel
theorem dX9_init_206 : decode cX9_init 206 = .ok (.aload_n 0, 1) := by decide +kernel
theorem dX9_init_207 : decode cX9_init 207 = .ok (.bipush 20, 2) := by decide +kernel
theorem dX9_init_209 : decode cX9_init 209 = .ok (.newarray .int, 2) := by decide +kernel
theorem dX9_init_211 : decode cX9_init 211 = .ok (.putfield 86, 3) := by decide +kernel
theorem dX9_init_214 : decode cX9_init 214 = .ok (.aload_n 0, 1) := by decide +kernel
theorem dX9_init_215 : decode cX9_init 215 = .ok (.bipush 20, 2) := by decide +kernel
theorem dX9_init_217 : decode cX9_init 217 = .ok (.newarray .int, 2) := by decide +kernel
theorem dX9_init_219 : decode cX9_init 219 = .ok (.putfield 89, 3) := by decide +kernel
theorem dX9_init_222 : decode cX9_init 222 = .ok (.aload_n 0, 1) := by decide +kernel
theorem dX9_init_223 : decode cX9_init 223 = .ok (.bipush 20, 2) := by decide +kernel
theorem dX9_init_225 : decode cX9_init 225 = .ok (.newarray .int, 2) := by decide +kernel
theorem dX9_init_227 : decode cX9_init 227 = .ok (.putfield 92, 3) := by decide +kernel
theorem dX9_init_230 : decode cX9_init 230 = .ok (.aload_n 0, 1) := by decide +kernel
theorem dX9_init_231 : decode cX9_init 231 = .ok (.bipush 20, 2) := by decide +kernel
theorem dX9_init_233 : decode cX9_init 233 = .ok (.newarray .int, 2) := by decide +kernel
theorem dX9_init_235 : decode cX9_init 235 = .ok (.putfield 95, 3) := by decide +kernel
theorem dX9_init_238 : decode cX9_init 238 = .ok (.aload_n 0, 1) := by decide +kernel
theorem dX9_init_239 : decode cX9_init 239 = .ok (.bipush 20, 2) := by decide +kernel
theorem dX9_init_241 : decode cX9_init 241 = .ok (.newarray .int, 2) := by decide +kernel
theorem dX9_init_243 : decode cX9_init 243 = .ok (.putfield 98, 3) := by decide +kernel
theorem dX9_init_246 : decode cX9_init 246 = .ok (.aload_n 0, 1) := by decide +kernel
theorem dX9_init_247 : decode cX9_init 247 = .ok (.bipush 20, 2) := by decide +kernel
theorem dX9_init_249 : decode cX9_init 249 = .ok (.newarray .int, 2) := by decide +kernel
theorem dX9_init_251 : decode cX9_init 251 = .ok (.putfield 101, 3) := by decide +kernel
theorem dX9_init_254 : decode cX9_init 254 = .ok (.aload_n 0, 1) := by decide +kernel
theorem dX9_init_255 : decode cX9_init 255 = .ok (.bipush 20, 2) := by decide +kernel
theorem dX9_init_257 : decode cX9_init 257 = .ok (.newarray .int, 2) := by decide +kernel
theorem dX9_init_259 : decode cX9_init 259 = .ok (.putfield 104, 3) := by decide +kernel
theorem dX9_init_262 : decode cX9_init 262 = .ok (.aload_n 0, 1) := by decide +kernel
theorem dX9_init_263 : decode cX9_init 263 = .ok (.bipush 6, 2) := by decide +kernel
theorem dX9_init_265 : decode cX9_init 265 = .ok (.newarray .int, 2) := by decide +kernel
theorem dX9_init_267 : decode cX9_init 267 = .ok (.putfield 107, 3) := by decide +kernel
theorem dX9_init_270 : decode cX9_init 270 = .ok (.aload_n 0, 1) := by decide +kernel
theorem dX9_init_271 : decode cX9_init 271 = .ok (.bipush 20, 2) := by decide +kernel
theorem dX9_init_273 : decode cX9_init 273 = .ok (.newarray .int, 2) := by decide +kernel
theorem dX9_init_275 : decode cX9_init 275 = .ok (.putfield 110, 3) := by decide +kernel
theorem dX9_init_278 : decode cX9_init 278 = .ok (.aload_n 0, 1) := by decide +kernel
theorem dX9_init_279 : decode cX9_init 279 = .ok (.bipush 6, 2) := by decide +kernel
theorem dX9_init_281 : decode cX9_init 281 = .ok (.newarray .int, 2) := by decide +kernel
theorem dX9_init_283 : decode cX9_init 283 = .ok (.putfield 113, 3) := by decide +kernel
theorem dX9_init_286 : decode cX9_init 286 = .ok (.aload_n 0, 1) := by decide +kernel
theorem dX9_init_287 : decode cX9_init 287 = .ok (.bipush 8, 2) := by decide +kernel
theorem dX9_init_289 : decode cX9_init 289 = .ok (.newarray .int, 2) := by decide +kernel
theorem dX9_init_291 : decode cX9_init 291 = .ok (.putfield 116, 3) := by decide +kernel
theorem dX9_init_294 : decode cX9_init 294 = .ok (.aload_n 0, 1) := by decide +kernel
theorem dX9_init_295 : decode cX9_init 295 = .ok (.bipush 8, 2) := by decide +kernel
theorem dX9_init_297 : decode cX9_init 297 = .ok (.newarray .int, 2) := by decide +kernel
theorem dX9_init_299 : decode cX9_init 299 = .ok (.putfield 119, 3) := by decide +kernel
theorem dX9_init_302 : decode cX9_init 302 = .ok (.return_, 1) := by decide +kernel
theorem dX9_refuse_0 : decode cX9_refuse 0 = .ok (.aload_n 0, 1) := by decide +kernel
theorem dX9_refuse_1 : decode cX9_refuse 1 = .ok (.getfield 7, 3) := by decide +kernel
theorem dX9_refuse_4 : decode cX9_refuse 4 = .ok (.iload_n 1, 1) := by decide +kernel
theorem dX9_refuse_5 : decode cX9_refuse 5 = .ok (.ineg, 1) := by decide +kernel
theorem dX9_refuse_6 : decode cX9_refuse 6 = .ok (.dup2, 1) := by decide +kernel
theorem dX9_refuse_7 : decode cX9_refuse 7 = .ok (.iaload, 1) := by decide +kernel
theorem dX9_refuse_8 : decode cX9_refuse 8 = .ok (.iconst 1, 1) := by decide +kernel
theorem dX9_refuse_9 : decode cX9_refuse 9 = .ok (.iadd, 1) := by decide +kernel
theorem dX9_refuse_10 : decode cX9_refuse 10 = .ok (.iastore, 1) := by decide +kernel
theorem dX9_refuse_11 : decode cX9_refuse 11 = .ok (.iload_n 1, 1) := by decide +kernel
theorem dX9_refuse_12 : decode cX9_refuse 12 = .ok (.ireturn, 1) := by decide +kernel
theorem dX9_isIn_0 : decode cX9_isIn 0 = .ok (.iload_n 0, 1) := by decide +kernel
theorem dX9_isIn_1 : decode cX9_isIn 1 = .ok (.ifCond .lt 12, 3) := by decide +kernel
theorem dX9_isIn_4 : decode cX9_isIn 4 = .ok (.iload_n 0, 1) := by decide +kernel
theorem dX9_isIn_5 : decode cX9_isIn 5 = .ok (.iload_n 1, 1) := by decide +kernel
theorem dX9_isIn_6 : decode cX9_isIn 6 = .ok (.if_icmp .ge 7, 3) := by decide +kernel
theorem dX9_isIn_9 : decode cX9_isIn 9 = .ok (.iconst 1, 1) := by decide +kernel
theorem dX9_isIn_10 : decode cX9_isIn 10 = .ok (.goto 4, 3) := by decide +kernel
theorem dX9_isIn_13 : decode cX9_isIn 13 = .ok (.iconst 0, 1) := by decide +kernel
theorem dX9_isIn_14 : decode cX9_isIn 14 = .ok (.ireturn, 1) := by decide +kernel
theorem dX9_piece_0 : decode cX9_piece 0 = .ok (.iload_n 1, 1) := by decide +kernel
theorem dX9_piece_1 : decode cX9_piece 1 = .ok (.ifCond .lt 12, 3) := by decide +kernel
theorem dX9_piece_4 : decode cX9_piece 4 = .ok (.iload_n 3, 1) := by decide +kernel
theorem dX9_piece_5 : decode cX9_piece 5 = .ok (.ifCond .lt 8, 3) := by decide +kernel
theorem dX9_piece_8 : decode cX9_piece 8 = .ok (.iload_n 2, 1) := by decide +kernel
theorem dX9_piece_9 : decode cX9_piece 9 = .ok (.iconst 1, 1) := by decide +kernel
theorem dX9_piece_10 : decode cX9_piece 10 = .ok (.if_icmp .ge 10, 3) := by decide +kernel
theorem dX9_piece_13 : decode cX9_piece 13 = .ok (.aload_n 0, 1) := by decide +kernel
theorem dX9_piece_14 : decode cX9_piece 14 = .ok (.bipush (-4), 2) := by decide +kernel
theorem dX9_piece_16 : decode cX9_piece 16 = .ok (.invokevirtual 122, 3) := by decide +kernel
theorem dX9_piece_19 : decode cX9_piece 19 = .ok (.ireturn, 1) := by decide +kernel
theorem dX9_piece_20 : decode cX9_piece 20 = .ok (.iload_n 2, 1) := by decide +kernel
theorem dX9_piece_21 : decode cX9_piece 21 = .ok (.ldc 126, 2) := by decide +kernel
theorem dX9_piece_23 : decode cX9_piece 23 = .ok (.if_icmp .gt 24, 3) := by decide +kernel
theorem dX9_piece_26 : decode cX9_piece 26 = .ok (.iload_n 1, 1) := by decide +kernel
theorem dX9_piece_27 : decode cX9_piece 27 = .ok (.iload_n 2, 1) := by decide +kernel
theorem dX9_piece_28 : decode cX9_piece 28 = .ok (.if_icmp .gt 19, 3) := by decide +kernel
theorem dX9_piece_31 : decode cX9_piece 31 = .ok (.iload_n 3, 1) := by decide +kernel
theorem dX9_piece_32 : decode cX9_piece 32 = .ok (.sipush 10000, 3) := by decide +kernel
theorem dX9_piece_35 : decode cX9_piece 35 = .ok (.if_icmp .gt 12, 3) := by decide +kernel
theorem dX9_piece_38 : decode cX9_piece 38 = .ok (.aload_n 0, 1) := by decide +kernel
theorem dX9_piece_39 : decode cX9_piece 39 = .ok (.getfield 127, 3) := by decide +kernel
theorem dX9_piece_42 : decode cX9_piece 42 = .ok (.bipush 6, 2) := by decide +kernel
theorem dX9_piece_44 : decode cX9_piece 44 = .ok (.if_icmp .ne 10, 3) := by decide +kernel
theorem dX9_piece_47 : decode cX9_piece 47 = .ok (.aload_n 0, 1) := by decide +kernel
theorem dX9_piece_48 : decode cX9_piece 48 = .ok (.bipush (-6), 2) := by decide +kernel
theorem dX9_piece_50 : decode cX9_piece 50 = .ok (.invokevirtual 122, 3) := by decide +kernel
theorem dX9_piece_53 : decode cX9_piece 53 = .ok (.ireturn, 1) := by decide +kernel
theorem dX9_piece_54 : decode cX9_piece 54 = .ok (.aload_n 0, 1) := by decide +kernel
theorem dX9_piece_55 : decode cX9_piece 55 = .ok (.getfield 13, 3) := by decide +kernel
theorem dX9_piece_58 : decode cX9_piece 58 = .ok (.aload_n 0, 1) := by decide +kernel
theorem dX9_piece_59 : decode cX9_piece 59 = .ok (.getfield 127, 3) := by decide +kernel
theorem dX9_piece_62 : decode cX9_piece 62 = .ok (.iload_n 1, 1) := by decide +kernel
theorem dX9_piece_63 : decode cX9_piece 63 = .ok (.iastore, 1) := by decide +kernel
theorem dX9_piece_64 : decode cX9_piece 64 = .ok (.aload_n 0, 1) := by decide +kernel
theorem dX9_piece_65 : decode cX9_piece 65 = .ok (.getfield 16, 3) := by decide +kernel
theorem dX9_piece_68 : decode cX9_piece 68 = .ok (.aload_n 0, 1) := by decide +kernel
theorem dX9_piece_69 : decode cX9_piece 69 = .ok (.getfield 127, 3) := by decide +kernel
theorem dX9_piece_72 : decode cX9_piece 72 = .ok (.iload_n 2, 1) := by decide +kernel
theorem dX9_piece_73 : decode cX9_piece 73 = .ok (.iastore, 1) := by decide +kernel
theorem dX9_piece_74 : decode cX9_piece 74 = .ok (.aload_n 0, 1) := by decide +kernel
theorem dX9_piece_75 : decode cX9_piece 75 = .ok (.getfield 19, 3) := by decide +kernel
theorem dX9_piece_78 : decode cX9_piece 78 = .ok (.aload_n 0, 1) := by decide +kernel
theorem dX9_piece_79 : decode cX9_piece 79 = .ok (.getfield 127, 3) := by decide +kernel
theorem dX9_piece_82 : decode cX9_piece 82 = .ok (.iload_n 3, 1) := by decide +kernel
theorem dX9_piece_83 : decode cX9_piece 83 = .ok (.iastore, 1) := by decide +kernel
theorem dX9_piece_84 : decode cX9_piece 84 = .ok (.aload_n 0, 1) := by decide +kernel
theorem dX9_piece_85 : decode cX9_piece 85 = .ok (.getfield 28, 3) := by decide +kernel
theorem dX9_piece_88 : decode cX9_piece 88 = .ok (.aload_n 0, 1) := by decide +kernel
theorem dX9_piece_89 : decode cX9_piece 89 = .ok (.getfield 127, 3) := by decide +kernel
theorem dX9_piece_92 : decode cX9_piece 92 = .ok (.iload 4, 2) := by decide +kernel
theorem dX9_piece_94 : decode cX9_piece 94 = .ok (.bastore, 1) := by decide +kernel
theorem dX9_piece_95 : decode cX9_piece 95 = .ok (.aload_n 0, 1) := by decide +kernel
theorem dX9_piece_96 : decode cX9_piece 96 = .ok (.getfield 22, 3) := by decide +kernel
theorem dX9_piece_99 : decode cX9_piece 99 = .ok (.aload_n 0, 1) := by decide +kernel
theorem dX9_piece_100 : decode cX9_piece 100 = .ok (.getfield 127, 3) := by decide +kernel
theorem dX9_piece_103 : decode cX9_piece 103 = .ok (.iconst (-1), 1) := by decide +kernel
theorem dX9_piece_104 : decode cX9_piece 104 = .ok (.iastore, 1) := by decide +kernel
theorem dX9_piece_105 : decode cX9_piece 105 = .ok (.aload_n 0, 1) := by decide +kernel
theorem dX9_piece_106 : decode cX9_piece 106 = .ok (.dup, 1) := by decide +kernel
theorem dX9_piece_107 : decode cX9_piece 107 = .ok (.getfield 127, 3) := by decide +kernel
theorem dX9_piece_110 : decode cX9_piece 110 = .ok (.iconst 1, 1) := by decide +kernel
theorem dX9_piece_111 : decode cX9_piece 111 = .ok (.iadd, 1) := by decide +kernel
theorem dX9_piece_112 : decode cX9_piece 112 = .ok (.putfield 127, 3) := by decide +kernel
theorem dX9_piece_115 : decode cX9_piece 115 = .ok (.aload_n 0, 1) := by decide +kernel
theorem dX9_piece_116 : decode cX9_piece 116 = .ok (.getfield 127, 3) := by decide +kernel
theorem dX9_piece_119 : decode cX9_piece 119 = .ok (.iconst 1, 1) := by decide +kernel
theorem dX9_piece_120 : decode cX9_piece 120 = .ok (.isub, 1) := by decide +kernel
theorem dX9_piece_121 : decode cX9_piece 121 = .ok (.ireturn, 1) := by decide +kernel
theorem dX9_owner_0 : decode cX9_owner 0 = .ok (.iload_n 1, 1) := by decide +kernel
theorem dX9_owner_1 : decode cX9_owner 1 = .ok (.ifCond .ge 10, 3) := by decide +kernel
theorem dX9_owner_4 : decode cX9_owner 4 = .ok (.aload_n 0, 1) := by decide +kernel
theorem dX9_owner_5 : decode cX9_owner 5 = .ok (.bipush (-4), 2) := by decide +kernel
theorem dX9_owner_7 : decode cX9_owner 7 = .ok (.invokevirtual 122, 3) := by decide +kernel
theorem dX9_owner_10 : decode cX9_owner 10 = .ok (.ireturn, 1) := by decide +kernel
theorem dX9_owner_11 : decode cX9_owner 11 = .ok (.iload_n 1, 1) := by decide +kernel
theorem dX9_owner_12 : decode cX9_owner 12 = .ok (.ldc 126, 2) := by decide +kernel
theorem dX9_owner_14 : decode cX9_owner 14 = .ok (.if_icmp .gt 12, 3) := by decide +kernel
theorem dX9_owner_17 : decode cX9_owner 17 = .ok (.aload_n 0, 1) := by decide +kernel
