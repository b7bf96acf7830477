theorem dX9_goes_54 : decode cX9_goes 54 = .ok (.istore 7, 2) := by decide +kernel
theorem dX9_goes_56 : decode cX9_goes 56 = .ok (.iload 7, 2) := by decide +kernel
theorem dX9_goes_58 : decode cX9_goes 58 = .ok (.aload_n 0, 1) := by decide +kernel
theorem dX9_goes_59 : decode cX9_goes 59 = .ok (.getfield 127, 3) := by decide +kernel
theorem dX9_goes_62 : decode cX9_goes 62 = .ok (.if_icmp .ge 248, 3) := by decide +kernel
theorem dX9_goes_65 : decode cX9_goes 65 = .ok (.iconst 0, 1) := by decide +kernel
theorem dX9_goes_66 : decode cX9_goes 66 = .ok (.istore 8, 2) := by decide +kernel
theorem dX9_goes_68 : decode cX9_goes 68 = .ok (.iconst 0, 1) := by decide +kernel
theorem dX9_goes_69 : decode cX9_goes 69 = .ok (.istore 9, 2) := by decide +kernel
theorem dX9_goes_71 : decode cX9_goes 71 = .ok (.iload 9, 2) := by decide +kernel
theorem dX9_goes_73 : decode cX9_goes 73 = .ok (.aload_n 0, 1) := by decide +kernel
theorem dX9_goes_74 : decode cX9_goes 74 = .ok (.getfield 164, 3) := by decide +kernel
theorem dX9_goes_77 : decode cX9_goes 77 = .ok (.if_icmp .ge 33, 3) := by decide +kernel
theorem dX9_goes_80 : decode cX9_goes 80 = .ok (.iload 8, 2) := by decide +kernel
theorem dX9_goes_82 : decode cX9_goes 82 = .ok (.aload_n 2, 1) := by decide +kernel
theorem dX9_goes_83 : decode cX9_goes 83 = .ok (.iload 9, 2) := by decide +kernel
theorem dX9_goes_85 : decode cX9_goes 85 = .ok (.iaload, 1) := by decide +kernel
theorem dX9_goes_86 : decode cX9_goes 86 = .ok (.iload 7, 2) := by decide +kernel
theorem dX9_goes_88 : decode cX9_goes 88 = .ok (.if_icmp .ne 12, 3) := by decide +kernel
theorem dX9_goes_91 : decode cX9_goes 91 = .ok (.aload_n 0, 1) := by decide +kernel
theorem dX9_goes_92 : decode cX9_goes 92 = .ok (.iload 9, 2) := by decide +kernel
theorem dX9_goes_94 : decode cX9_goes 94 = .ok (.invokevirtual 170, 3) := by decide +kernel
theorem dX9_goes_97 : decode cX9_goes 97 = .ok (.goto 4, 3) := by decide +kernel
theorem dX9_goes_100 : decode cX9_goes 100 = .ok (.iconst 0, 1) := by decide +kernel
theorem dX9_goes_101 : decode cX9_goes 101 = .ok (.iadd, 1) := by decide +kernel
theorem dX9_goes_102 : decode cX9_goes 102 = .ok (.istore 8, 2) := by decide +kernel
theorem dX9_goes_104 : decode cX9_goes 104 = .ok (.iinc 9 1, 3) := by decide +kernel
theorem dX9_goes_107 : decode cX9_goes 107 = .ok (.goto (-36), 3) := by decide +kernel
theorem dX9_goes_110 : decode cX9_goes 110 = .ok (.iload 5, 2) := by decide +kernel
theorem dX9_goes_112 : decode cX9_goes 112 = .ok (.bipush 8, 2) := by decide +kernel
theorem dX9_goes_114 : decode cX9_goes 114 = .ok (.if_icmp .lt 26, 3) := by decide +kernel
theorem dX9_goes_117 : decode cX9_goes 117 = .ok (.iload 8, 2) := by decide +kernel
theorem dX9_goes_119 : decode cX9_goes 119 = .ok (.ifCond .le 21, 3) := by decide +kernel
theorem dX9_goes_122 : decode cX9_goes 122 = .ok (.aload_n 1, 1) := by decide +kernel
theorem dX9_goes_123 : decode cX9_goes 123 = .ok (.iload 7, 2) := by decide +kernel
theorem dX9_goes_125 : decode cX9_goes 125 = .ok (.iconst 0, 1) := by decide +kernel
theorem dX9_goes_126 : decode cX9_goes 126 = .ok (.aload_n 1, 1) := by decide +kernel
theorem dX9_goes_127 : decode cX9_goes 127 = .ok (.iload 7, 2) := by decide +kernel
theorem dX9_goes_129 : decode cX9_goes 129 = .ok (.iaload, 1) := by decide +kernel
theorem dX9_goes_130 : decode cX9_goes 130 = .ok (.iload 8, 2) := by decide +kernel
theorem dX9_goes_132 : decode cX9_goes 132 = .ok (.bipush 100, 2) := by decide +kernel
theorem dX9_goes_134 : decode cX9_goes 134 = .ok (.idiv, 1) := by decide +kernel
theorem dX9_goes_135 : decode cX9_goes 135 = .ok (.isub, 1) := by decide +kernel
theorem dX9_goes_136 : decode cX9_goes 136 = .ok (.invokestatic 179, 3) := by decide +kernel
theorem dX9_goes_139 : decode cX9_goes 139 = .ok (.iastore, 1) := by decide +kernel
theorem dX9_goes_140 : decode cX9_goes 140 = .ok (.aload_n 1, 1) := by decide +kernel
theorem dX9_goes_141 : decode cX9_goes 141 = .ok (.iload 7, 2) := by decide +kernel
theorem dX9_goes_143 : decode cX9_goes 143 = .ok (.iaload, 1) := by decide +kernel
theorem dX9_goes_144 : decode cX9_goes 144 = .ok (.aload_n 0, 1) := by decide +kernel
theorem dX9_goes_145 : decode cX9_goes 145 = .ok (.getfield 16, 3) := by decide +kernel
theorem dX9_goes_148 : decode cX9_goes 148 = .ok (.iload 7, 2) := by decide +kernel
theorem dX9_goes_150 : decode cX9_goes 150 = .ok (.iaload, 1) := by decide +kernel
theorem dX9_goes_151 : decode cX9_goes 151 = .ok (.if_icmp .ge 45, 3) := by decide +kernel
theorem dX9_goes_154 : decode cX9_goes 154 = .ok (.aload_n 1, 1) := by decide +kernel
theorem dX9_goes_155 : decode cX9_goes 155 = .ok (.iload 7, 2) := by decide +kernel
theorem dX9_goes_157 : decode cX9_goes 157 = .ok (.aload_n 0, 1) := by decide +kernel
theorem dX9_goes_158 : decode cX9_goes 158 = .ok (.getfield 16, 3) := by decide +kernel
theorem dX9_goes_161 : decode cX9_goes 161 = .ok (.iload 7, 2) := by decide +kernel
theorem dX9_goes_163 : decode cX9_goes 163 = .ok (.iaload, 1) := by decide +kernel
theorem dX9_goes_164 : decode cX9_goes 164 = .ok (.i2l, 1) := by decide +kernel
theorem dX9_goes_165 : decode cX9_goes 165 = .ok (.aload_n 1, 1) := by decide +kernel
theorem dX9_goes_166 : decode cX9_goes 166 = .ok (.iload 7, 2) := by decide +kernel
theorem dX9_goes_168 : decode cX9_goes 168 = .ok (.iaload, 1) := by decide +kernel
theorem dX9_goes_169 : decode cX9_goes 169 = .ok (.i2l, 1) := by decide +kernel
theorem dX9_goes_170 : decode cX9_goes 170 = .ok (.lconst 1, 1) := by decide +kernel
theorem dX9_goes_171 : decode cX9_goes 171 = .ok (.iload 6, 2) := by decide +kernel
theorem dX9_goes_173 : decode cX9_goes 173 = .ok (.i2l, 1) := by decide +kernel
theorem dX9_goes_174 : decode cX9_goes 174 = .ok (.aload_n 0, 1) := by decide +kernel
theorem dX9_goes_175 : decode cX9_goes 175 = .ok (.getfield 16, 3) := by decide +kernel
theorem dX9_goes_178 : decode cX9_goes 178 = .ok (.iload 7, 2) := by decide +kernel
theorem dX9_goes_180 : decode cX9_goes 180 = .ok (.iaload, 1) := by decide +kernel
theorem dX9_goes_181 : decode cX9_goes 181 = .ok (.i2l, 1) := by decide +kernel
theorem dX9_goes_182 : decode cX9_goes 182 = .ok (.lmul, 1) := by decide +kernel
theorem dX9_goes_183 : decode cX9_goes 183 = .ok (.ldc2_w 194, 3) := by decide +kernel
theorem dX9_goes_186 : decode cX9_goes 186 = .ok (.ldiv, 1) := by decide +kernel
theorem dX9_goes_187 : decode cX9_goes 187 = .ok (.invokestatic 196, 3) := by decide +kernel
theorem dX9_goes_190 : decode cX9_goes 190 = .ok (.ladd, 1) := by decide +kernel
theorem dX9_goes_191 : decode cX9_goes 191 = .ok (.invokestatic 199, 3) := by decide +kernel
theorem dX9_goes_194 : decode cX9_goes 194 = .ok (.l2i, 1) := by decide +kernel
theorem dX9_goes_195 : decode cX9_goes 195 = .ok (.iastore, 1) := by decide +kernel
theorem dX9_goes_196 : decode cX9_goes 196 = .ok (.aload_n 1, 1) := by decide +kernel
theorem dX9_goes_197 : decode cX9_goes 197 = .ok (.iload 7, 2) := by decide +kernel
theorem dX9_goes_199 : decode cX9_goes 199 = .ok (.iaload, 1) := by decide +kernel
theorem dX9_goes_200 : decode cX9_goes 200 = .ok (.iload 8, 2) := by decide +kernel
theorem dX9_goes_202 : decode cX9_goes 202 = .ok (.invokestatic 173, 3) := by decide +kernel
theorem dX9_goes_205 : decode cX9_goes 205 = .ok (.istore 9, 2) := by decide +kernel
theorem dX9_goes_207 : decode cX9_goes 207 = .ok (.aload_n 1, 1) := by decide +kernel
theorem dX9_goes_208 : decode cX9_goes 208 = .ok (.iload 7, 2) := by decide +kernel
theorem dX9_goes_210 : decode cX9_goes 210 = .ok (.dup2, 1) := by decide +kernel
theorem dX9_goes_211 : decode cX9_goes 211 = .ok (.iaload, 1) := by decide +kernel
theorem dX9_goes_212 : decode cX9_goes 212 = .ok (.iload 9, 2) := by decide +kernel
theorem dX9_goes_214 : decode cX9_goes 214 = .ok (.isub, 1) := by decide +kernel
theorem dX9_goes_215 : decode cX9_goes 215 = .ok (.iastore, 1) := by decide +kernel
theorem dX9_goes_216 : decode cX9_goes 216 = .ok (.aload 4, 2) := by decide +kernel
theorem dX9_goes_218 : decode cX9_goes 218 = .ok (.iload 7, 2) := by decide +kernel
theorem dX9_goes_220 : decode cX9_goes 220 = .ok (.dup2, 1) := by decide +kernel
theorem dX9_goes_221 : decode cX9_goes 221 = .ok (.iaload, 1) := by decide +kernel
theorem dX9_goes_222 : decode cX9_goes 222 = .ok (.iload 9, 2) := by decide +kernel
theorem dX9_goes_224 : decode cX9_goes 224 = .ok (.iadd, 1) := by decide +kernel
theorem dX9_goes_225 : decode cX9_goes 225 = .ok (.iastore, 1) := by decide +kernel
theorem dX9_goes_226 : decode cX9_goes 226 = .ok (.iload 8, 2) := by decide +kernel
theorem dX9_goes_228 : decode cX9_goes 228 = .ok (.iload 9, 2) := by decide +kernel
theorem dX9_goes_230 : decode cX9_goes 230 = .ok (.if_icmp .le 17, 3) := by decide +kernel
theorem dX9_goes_233 : decode cX9_goes 233 = .ok (.aload_n 0, 1) := by decide +kernel
theorem dX9_goes_234 : decode cX9_goes 234 = .ok (.aload_n 2, 1) := by decide +kernel
theorem dX9_goes_235 : decode cX9_goes 235 = .ok (.iload 7, 2) := by decide +kernel
theorem dX9_goes_237 : decode cX9_goes 237 = .ok (.iload 8, 2) := by decide +kernel
theorem dX9_goes_239 : decode cX9_goes 239 = .ok (.iload 8, 2) := by decide +kernel
theorem dX9_goes_241 : decode cX9_goes 241 = .ok (.iload 9, 2) := by decide +kernel
theorem dX9_goes_243 : decode cX9_goes 243 = .ok (.isub, 1) := by decide +kernel
theorem dX9_goes_244 : decode cX9_goes 244 = .ok (.invokevirtual 201, 3) := by decide +kernel
theorem dX9_goes_247 : decode cX9_goes 247 = .ok (.iconst 0, 1) := by decide +kernel
theorem dX9_goes_248 : decode cX9_goes 248 = .ok (.istore 10, 2) := by decide +kernel
theorem dX9_goes_250 : decode cX9_goes 250 = .ok (.iload 10, 2) := by decide +kernel
theorem dX9_goes_252 : decode cX9_goes 252 = .ok (.aload_n 0, 1) := by decide +kernel
theorem dX9_goes_253 : decode cX9_goes 253 = .ok (.getfield 164, 3) := by decide +kernel
theorem dX9_goes_256 : decode cX9_goes 256 = .ok (.if_icmp .ge 48, 3) := by decide +kernel
theorem dX9_goes_259 : decode cX9_goes 259 = .ok (.aload_n 0, 1) := by decide +kernel
theorem dX9_goes_260 : decode cX9_goes 260 = .ok (.getfield 104, 3) := by decide +kernel
theorem dX9_goes_263 : decode cX9_goes 263 = .ok (.iload 10, 2) := by decide +kernel
theorem dX9_goes_265 : decode cX9_goes 265 = .ok (.dup2, 1) := by decide +kernel
theorem dX9_goes_266 : decode cX9_goes 266 = .ok (.iaload, 1) := by decide +kernel
theorem dX9_goes_267 : decode cX9_goes 267 = .ok (.aload_n 2, 1) := by decide +kernel
theorem dX9_goes_268 : decode cX9_goes 268 = .ok (.iload 10, 2) := by decide +kernel
theorem dX9_goes_270 : decode cX9_goes 270 = .ok (.iaload, 1) := by decide +kernel
theorem dX9_goes_271 : decode cX9_goes 271 = .ok (.iload 7, 2) := by decide +kernel
theorem dX9_goes_273 : decode cX9_goes 273 = .ok (.if_icmp .ne 22, 3) := by decide +kernel
theorem dX9_goes_276 : decode cX9_goes 276 = .ok (.aload_n 0, 1) := by decide +kernel
theorem dX9_goes_277 : decode cX9_goes 277 = .ok (.getfield 28, 3) := by decide +kernel
theorem dX9_goes_280 : decode cX9_goes 280 = .ok (.iload 7, 2) := by decide +kernel
theorem dX9_goes_282 : decode cX9_goes 282 = .ok (.baload, 1) := by decide +kernel
theorem dX9_goes_283 : decode cX9_goes 283 = .ok (.ifCond .ne 12, 3) := by decide +kernel
theorem dX9_goes_286 : decode cX9_goes 286 = .ok (.aload_n 0, 1) := by decide +kernel
theorem dX9_goes_287 : decode cX9_goes 287 = .ok (.iload 10, 2) := by decide +kernel
theorem dX9_goes_289 : decode cX9_goes 289 = .ok (.invokevirtual 170, 3) := by decide +kernel
theorem dX9_goes_292 : decode cX9_goes 292 = .ok (.goto 4, 3) := by decide +kernel
theorem dX9_goes_295 : decode cX9_goes 295 = .ok (.iconst 0, 1) := by decide +kernel
theorem dX9_goes_296 : decode cX9_goes 296 = .ok (.iadd, 1) := by decide +kernel
theorem dX9_goes_297 : decode cX9_goes 297 = .ok (.iastore, 1) := by decide +kernel
theorem dX9_goes_298 : decode cX9_goes 298 = .ok (.iinc 10 1, 3) := by decide +kernel
theorem dX9_goes_301 : decode cX9_goes 301 = .ok (.goto (-51), 3) := by decide +kernel
theorem dX9_goes_304 : decode cX9_goes 304 = .ok (.iinc 7 1, 3) := by decide +kernel
theorem dX9_goes_307 : decode cX9_goes 307 = .ok (.goto (-251), 3) := by decide +kernel
theorem dX9_goes_310 : decode cX9_goes 310 = .ok (.return_, 1) := by decide +kernel
theorem dX9_places_0 : decode cX9_places 0 = .ok (.iconst 0, 1) := by decide +kernel
theorem dX9_places_1 : decode cX9_places 1 = .ok (.istore_n 1, 1) := by decide +kernel
theorem dX9_places_2 : decode cX9_places 2 = .ok (.iload_n 1, 1) := by decide +kernel
theorem dX9_places_3 : decode cX9_places 3 = .ok (.bipush 20, 2) := by decide +kernel
theorem dX9_places_5 : decode cX9_places 5 = .ok (.if_icmp .ge 41, 3) := by decide +kernel
theorem dX9_places_8 : decode cX9_places 8 = .ok (.aload_n 0, 1) := by decide +kernel
theorem dX9_places_9 : decode cX9_places 9 = .ok (.getfield 110, 3) := by decide +kernel
theorem dX9_places_12 : decode cX9_places 12 = .ok (.iload_n 1, 1) := by decide +kernel
theorem dX9_places_13 : decode cX9_places 13 = .ok (.iload_n 1, 1) := by decide +kernel
theorem dX9_places_14 : decode cX9_places 14 = .ok (.aload_n 0, 1) := by decide +kernel
theorem dX9_places_15 : decode cX9_places 15 = .ok (.getfield 164, 3) := by decide +kernel
theorem dX9_places_18 : decode cX9_places 18 = .ok (.if_icmp .ge 20, 3) := by decide +kernel
theorem dX9_places_21 : decode cX9_places 21 = .ok (.aload_n 0, 1) := by decide +kernel
theorem dX9_places_22 : decode cX9_places 22 = .ok (.iload_n 1, 1) := by decide +kernel
theorem dX9_places_23 : decode cX9_places 23 = .ok (.invokevirtual 167, 3) := by decide +kernel
theorem dX9_places_26 : decode cX9_places 26 = .ok (.ifCond .eq 12, 3) := by decide +kernel
theorem dX9_places_29 : decode cX9_places 29 = .ok (.aload_n 0, 1) := by decide +kernel
theorem dX9_places_30 : decode cX9_places 30 = .ok (.getfield 89, 3) := by decide +kernel
theorem dX9_places_33 : decode cX9_places 33 = .ok (.iload_n 1, 1) := by decide +kernel
theorem dX9_places_34 : decode cX9_places 34 = .ok (.iaload, 1) := by decide +kernel
theorem dX9_places_35 : decode cX9_places 35 = .ok (.goto 4, 3) := by decide +kernel
theorem dX9_places_38 : decode cX9_places 38 = .ok (.iconst (-1), 1) := by decide +kernel
theorem dX9_places_39 : decode cX9_places 39 = .ok (.iastore, 1) := by decide +kernel
theorem dX9_places_40 : decode cX9_places 40 = .ok (.iinc 1 1, 3) := by decide +kernel
theorem dX9_places_43 : decode cX9_places 43 = .ok (.goto (-41), 3) := by decide +kernel
theorem dX9_places_46 : decode cX9_places 46 = .ok (.return_, 1) := by decide +kernel
theorem dX9_sells_0 : decode cX9_sells 0 = .ok (.iconst 0, 1) := by decide +kernel
theorem dX9_sells_1 : decode cX9_sells 1 = .ok (.istore_n 1, 1) := by decide +kernel
theorem dX9_sells_2 : decode cX9_sells 2 = .ok (.iload_n 1, 1) := by decide +kernel
theorem dX9_sells_3 : decode cX9_sells 3 = .ok (.aload_n 0, 1) := by decide +kernel
theorem dX9_sells_4 : decode cX9_sells 4 = .ok (.getfield 164, 3) := by decide +kernel
theorem dX9_sells_7 : decode cX9_sells 7 = .ok (.if_icmp .ge 94, 3) := by decide +kernel
theorem dX9_sells_10 : decode cX9_sells 10 = .ok (.aload_n 0, 1) := by decide +kernel
theorem dX9_sells_11 : decode cX9_sells 11 = .ok (.getfield 98, 3) := by decide +kernel
theorem dX9_sells_14 : decode cX9_sells 14 = .ok (.iload_n 1, 1) := by decide +kernel
theorem dX9_sells_15 : decode cX9_sells 15 = .ok (.iaload, 1) := by decide +kernel
theorem dX9_sells_16 : decode cX9_sells 16 = .ok (.iconst 1, 1) := by decide +kernel
theorem dX9_sells_17 : decode cX9_sells 17 = .ok (.if_icmp .ne 78, 3) := by decide +kernel
theorem dX9_sells_20 : decode cX9_sells 20 = .ok (.aload_n 0, 1) := by decide +kernel
theorem dX9_sells_21 : decode cX9_sells 21 = .ok (.getfield 141, 3) := by decide +kernel
theorem dX9_sells_24 : decode cX9_sells 24 = .ok (.aload_n 0, 1) := by decide +kernel
theorem dX9_sells_25 : decode cX9_sells 25 = .ok (.getfield 101, 3) := by decide +kernel
theorem dX9_sells_28 : decode cX9_sells 28 = .ok (.iload_n 1, 1) := by decide +kernel
theorem dX9_sells_29 : decode cX9_sells 29 = .ok (.iaload, 1) := by decide +kernel
theorem dX9_sells_30 : decode cX9_sells 30 = .ok (.isub, 1) := by decide +kernel
theorem dX9_sells_31 : decode cX9_sells 31 = .ok (.iconst 1, 1) := by decide +kernel
theorem dX9_sells_32 : decode cX9_sells 32 = .ok (.iadd, 1) := by decide +kernel
theorem dX9_sells_33 : decode cX9_sells 33 = .ok (.bipush 31, 2) := by decide +kernel
theorem dX9_sells_35 : decode cX9_sells 35 = .ok (.if_icmp .ge 6, 3) := by decide +kernel
theorem dX9_sells_38 : decode cX9_sells 38 = .ok (.goto 57, 3) := by decide +kernel
theorem dX9_sells_41 : decode cX9_sells 41 = .ok (.aload_n 0, 1) := by decide +kernel
theorem dX9_sells_42 : decode cX9_sells 42 = .ok (.iload_n 1, 1) := by decide +kernel
theorem dX9_sells_43 : decode cX9_sells 43 = .ok (.invokevirtual 170, 3) := by decide +kernel
theorem dX9_sells_46 : decode cX9_sells 46 = .ok (.istore_n 2, 1) := by decide +kernel
theorem dX9_sells_47 : decode cX9_sells 47 = .ok (.iload_n 2, 1) := by decide +kernel
theorem dX9_sells_48 : decode cX9_sells 48 = .ok (.bipush 31, 2) := by decide +kernel
theorem dX9_sells_50 : decode cX9_sells 50 = .ok (.aload_n 0, 1) := by decide +kernel
theorem dX9_sells_51 : decode cX9_sells 51 = .ok (.getfield 86, 3) := by decide +kernel
theorem dX9_sells_54 : decode cX9_sells 54 = .ok (.iload_n 1, 1) := by decide +kernel
theorem dX9_sells_55 : decode cX9_sells 55 = .ok (.iaload, 1) := by decide +kernel
theorem dX9_sells_56 : decode cX9_sells 56 = .ok (.imul, 1) := by decide +kernel
theorem dX9_sells_57 : decode cX9_sells 57 = .ok (.invokestatic 173, 3) := by decide +kernel
theorem dX9_sells_60 : decode cX9_sells 60 = .ok (.istore_n 3, 1) := by decide +kernel
theorem dX9_sells_61 : decode cX9_sells 61 = .ok (.aload_n 0, 1) := by decide +kernel
theorem dX9_sells_62 : decode cX9_sells 62 = .ok (.getfield 98, 3) := by decide +kernel
theorem dX9_sells_65 : decode cX9_sells 65 = .ok (.iload_n 1, 1) := by decide +kernel
theorem dX9_sells_66 : decode cX9_sells 66 = .ok (.iconst 2, 1) := by decide +kernel
theorem dX9_sells_67 : decode cX9_sells 67 = .ok (.iastore, 1) := by decide +kernel
theorem dX9_sells_68 : decode cX9_sells 68 = .ok (.aload_n 0, 1) := by decide +kernel
theorem dX9_sells_69 : decode cX9_sells 69 = .ok (.dup, 1) := by decide +kernel
theorem dX9_sells_70 : decode cX9_sells 70 = .ok (.getfield 205, 3) := by decide +kernel
theorem dX9_sells_73 : decode cX9_sells 73 = .ok (.iload_n 3, 1) := by decide +kernel
theorem dX9_sells_74 : decode cX9_sells 74 = .ok (.iadd, 1) := by decide +kernel
theorem dX9_sells_75 : decode cX9_sells 75 = .ok (.putfield 205, 3) := by decide +kernel
theorem dX9_sells_78 : decode cX9_sells 78 = .ok (.aload_n 0, 1) := by decide +kernel
theorem dX9_sells_79 : decode cX9_sells 79 = .ok (.getfield 32, 3) := by decide +kernel
theorem dX9_sells_82 : decode cX9_sells 82 = .ok (.aload_n 0, 1) := by decide +kernel
theorem dX9_sells_83 : decode cX9_sells 83 = .ok (.getfield 80, 3) := by decide +kernel
theorem dX9_sells_86 : decode cX9_sells 86 = .ok (.iload_n 1, 1) := by decide +kernel
theorem dX9_sells_87 : decode cX9_sells 87 = .ok (.iaload, 1) := by decide +kernel
theorem dX9_sells_88 : decode cX9_sells 88 = .ok (.dup2, 1) := by decide +kernel
theorem dX9_sells_89 : decode cX9_sells 89 = .ok (.iaload, 1) := by decide +kernel
theorem dX9_sells_90 : decode cX9_sells 90 = .ok (.iload_n 2, 1) := by decide +kernel
theorem dX9_sells_91 : decode cX9_sells 91 = .ok (.iload_n 3, 1) := by decide +kernel
theorem dX9_sells_92 : decode cX9_sells 92 = .ok (.isub, 1) := by decide +kernel
theorem dX9_sells_93 : decode cX9_sells 93 = .ok (.iadd, 1) := by decide +kernel
theorem dX9_sells_94 : decode cX9_sells 94 = .ok (.iastore, 1) := by decide +kernel
theorem dX9_sells_95 : decode cX9_sells 95 = .ok (.iinc 1 1, 3) := by decide +kernel
theorem dX9_sells_98 : decode cX9_sells 98 = .ok (.goto (-96), 3) := by decide +kernel
theorem dX9_sells_101 : decode cX9_sells 101 = .ok (.return_, 1) := by decide +kernel
theorem dX9_lapses_0 : decode cX9_lapses 0 = .ok (.aload_n 0, 1) := by decide +kernel
theorem dX9_lapses_1 : decode cX9_lapses 1 = .ok (.getfield 148, 3) := by decide +kernel
theorem dX9_lapses_4 : decode cX9_lapses 4 = .ok (.iconst 1, 1) := by decide +kernel
theorem dX9_lapses_5 : decode cX9_lapses 5 = .ok (.isub, 1) := by decide +kernel
theorem dX9_lapses_6 : decode cX9_lapses 6 = .ok (.istore_n 1, 1) := by decide +kernel
theorem dX9_lapses_7 : decode cX9_lapses 7 = .ok (.iload_n 1, 1) := by decide +kernel
theorem dX9_lapses_8 : decode cX9_lapses 8 = .ok (.ifCond .lt 120, 3) := by decide +kernel
theorem dX9_lapses_11 : decode cX9_lapses 11 = .ok (.aload_n 0, 1) := by decide +kernel
theorem dX9_lapses_12 : decode cX9_lapses 12 = .ok (.getfield 77, 3) := by decide +kernel
theorem dX9_lapses_15 : decode cX9_lapses 15 = .ok (.iload_n 1, 1) := by decide +kernel
theorem dX9_lapses_16 : decode cX9_lapses 16 = .ok (.aload_n 0, 1) := by decide +kernel
theorem dX9_lapses_17 : decode cX9_lapses 17 = .ok (.iload_n 1, 1) := by decide +kernel
theorem dX9_lapses_18 : decode cX9_lapses 18 = .ok (.invokevirtual 158, 3) := by decide +kernel
theorem dX9_lapses_21 : decode cX9_lapses 21 = .ok (.ifCond .le 15, 3) := by decide +kernel
theorem dX9_lapses_24 : decode cX9_lapses 24 = .ok (.aload_n 0, 1) := by decide +kernel
theorem dX9_lapses_25 : decode cX9_lapses 25 = .ok (.iload_n 1, 1) := by decide +kernel
