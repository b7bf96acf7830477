theorem dX9_goes_110 : decode cX9_goes 110 = .ok (.iload 5, 2) := by decide +kernel
theorem dX9_goes_112 : decode cX9_goes 112 = .ok (.bipush 8, 2) := by decide +kernel
theorem dX9_goes_114 : decode cX9_goes 114 = .ok (.if_icmp .lt 26, 3) := by decide +kernel
theorem dX9_goes_117 : decode cX9_goes 117 = .ok (.iload 8, 2) := by decide +kernel
theorem dX9_goes_119 : decode cX9_goes 119 = .ok (.ifCond .le 21, 3) := by decide +kernel
theorem dX9_goes_122 : decode cX9_goes 122 = .ok (.aload_n 1, 1) := by decide +kernel
theorem dX9_goes_123 : decode cX9_goes 123 = .ok (.iload 7, 2) := by decide +kernel
theorem dX9_goes_125 : decode cX9_goes 125 = .ok (.iconst 0, 1) := by decide +kernel
theorem dX9_goes_126 : decode cX9_goes 126 = .ok (.aload_n 1, 1) := by decide +kernel
theorem dX9_goes_127 : decode cX9_goes 127 = .ok (.iload 7, 2) := by decide +kernel
theorem dX9_goes_129 : decode cX9_goes 129 = .ok (.iaload, 1) := by decide +kernel
theorem dX9_goes_130 : decode cX9_goes 130 = .ok (.iload 8, 2) := by decide +kernel
theorem dX9_goes_132 : decode cX9_goes 132 = .ok (.bipush 100, 2) := by decide +kernel
theorem dX9_goes_134 : decode cX9_goes 134 = .ok (.idiv, 1) := by decide +kernel
theorem dX9_goes_135 : decode cX9_goes 135 = .ok (.isub, 1) := by decide +kernel
theorem dX9_goes_136 : decode cX9_goes 136 = .ok (.invokestatic 179, 3) := by decide +kernel
theorem dX9_goes_139 : decode cX9_goes 139 = .ok (.iastore, 1) := by decide +kernel
theorem dX9_goes_140 : decode cX9_goes 140 = .ok (.aload_n 1, 1) := by decide +kernel
theorem dX9_goes_141 : decode cX9_goes 141 = .ok (.iload 7, 2) := by decide +kernel
theorem dX9_goes_143 : decode cX9_goes 143 = .ok (.iaload, 1) := by decide +kernel
theorem dX9_goes_144 : decode cX9_goes 144 = .ok (.aload_n 0, 1) := by decide +kernel
theorem dX9_goes_145 : decode cX9_goes 145 = .ok (.getfield 16, 3) := by decide +kernel
theorem dX9_goes_148 : decode cX9_goes 148 = .ok (.iload 7, 2) := by decide +kernel
theorem dX9_goes_150 : decode cX9_goes 150 = .ok (.iaload, 1) := by decide +kernel
theorem dX9_goes_151 : decode cX9_goes 151 = .ok (.if_icmp .ge 45, 3) := by decide +kernel
theorem dX9_goes_154 : decode cX9_goes 154 = .ok (.aload_n 1, 1) := by decide +kernel
theorem dX9_goes_155 : decode cX9_goes 155 = .ok (.iload 7, 2) := by decide +kernel
theorem dX9_goes_157 : decode cX9_goes 157 = .ok (.aload_n 0, 1) := by decide +kernel
theorem dX9_goes_158 : decode cX9_goes 158 = .ok (.getfield 16, 3) := by decide +kernel
theorem dX9_goes_161 : decode cX9_goes 161 = .ok (.iload 7, 2) := by decide +kernel
theorem dX9_goes_163 : decode cX9_goes 163 = .ok (.iaload, 1) := by decide +kernel
theorem dX9_goes_164 : decode cX9_goes 164 = .ok (.i2l, 1) := by decide +kernel
theorem dX9_goes_165 : decode cX9_goes 165 = .ok (.aload_n 1, 1) := by decide +kernel
theorem dX9_goes_166 : decode cX9_goes 166 = .ok (.iload 7, 2) := by decide +kernel
theorem dX9_goes_168 : decode cX9_goes 168 = .ok (.iaload, 1) := by decide +kernel
theorem dX9_goes_169 : decode cX9_goes 169 = .ok (.i2l, 1) := by decide +kernel
theorem dX9_goes_170 : decode cX9_goes 170 = .ok (.lconst 1, 1) := by decide +kernel
theorem dX9_goes_171 : decode cX9_goes 171 = .ok (.iload 6, 2) := by decide +kernel
theorem dX9_goes_173 : decode cX9_goes 173 = .ok (.i2l, 1) := by decide +kernel
theorem dX9_goes_174 : decode cX9_goes 174 = .ok (.aload_n 0, 1) := by decide +kernel
theorem dX9_goes_175 : decode cX9_goes 175 = .ok (.getfield 16, 3) := by decide +kernel
theorem dX9_goes_178 : decode cX9_goes 178 = .ok (.iload 7, 2) := by decide +kernel
theorem dX9_goes_180 : decode cX9_goes 180 = .ok (.iaload, 1) := by decide +kernel
theorem dX9_goes_181 : decode cX9_goes 181 = .ok (.i2l, 1) := by decide +kernel
theorem dX9_goes_182 : decode cX9_goes 182 = .ok (.lmul, 1) := by decide +kernel
theorem dX9_goes_183 : decode cX9_goes 183 = .ok (.ldc2_w 194, 3) := by decide +kernel
theorem dX9_goes_186 : decode cX9_goes 186 = .ok (.ldiv, 1) := by decide +kernel
theorem dX9_goes_187 : decode cX9_goes 187 = .ok (.invokestatic 196, 3) := by decide +kernel
theorem dX9_goes_190 : decode cX9_goes 190 = .ok (.ladd, 1) := by decide +kernel
theorem dX9_goes_191 : decode cX9_goes 191 = .ok (.invokestatic 199, 3) := by decide +kernel
theorem dX9_goes_194 : decode cX9_goes 194 = .ok (.l2i, 1) := by decide +kernel
theorem dX9_goes_195 : decode cX9_goes 195 = .ok (.iastore, 1) := by decide +kernel
theorem dX9_goes_196 : decode cX9_goes 196 = .ok (.aload_n 1, 1) := by decide +kernel
theorem dX9_goes_197 : decode cX9_goes 197 = .ok (.iload 7, 2) := by decide +kernel
theorem dX9_goes_199 : decode cX9_goes 199 = .ok (.iaload, 1) := by decide +kernel
theorem dX9_goes_200 : decode cX9_goes 200 = .ok (.iload 8, 2) := by decide +kernel
theorem dX9_goes_202 : decode cX9_goes 202 = .ok (.invokestatic 173, 3) := by decide +kernel
theorem dX9_goes_205 : decode cX9_goes 205 = .ok (.istore 9, 2) := by decide +kernel
theorem dX9_goes_207 : decode cX9_goes 207 = .ok (.aload_n 1, 1) := by decide +kernel
theorem dX9_goes_208 : decode cX9_goes 208 = .ok (.iload 7, 2) := by decide +kernel
theorem dX9_goes_210 : decode cX9_goes 210 = .ok (.dup2, 1) := by decide +kernel
theorem dX9_goes_211 : decode cX9_goes 211 = .ok (.iaload, 1) := by decide +kernel
theorem dX9_goes_212 : decode cX9_goes 212 = .ok (.iload 9, 2) := by decide +kernel
theorem dX9_goes_214 : decode cX9_goes 214 = .ok (.isub, 1) := by decide +kernel
theorem dX9_goes_215 : decode cX9_goes 215 = .ok (.iastore, 1) := by decide +kernel
theorem dX9_goes_216 : decode cX9_goes 216 = .ok (.aload 4, 2) := by decide +kernel
theorem dX9_goes_218 : decode cX9_goes 218 = .ok (.iload 7, 2) := by decide +kernel
theorem dX9_goes_220 : decode cX9_goes 220 = .ok (.dup2, 1) := by decide +kernel
theorem dX9_goes_221 : decode cX9_goes 221 = .ok (.iaload, 1) := by decide +kernel
theorem dX9_goes_222 : decode cX9_goes 222 = .ok (.iload 9, 2) := by decide +kernel
theorem dX9_goes_224 : decode cX9_goes 224 = .ok (.iadd, 1) := by decide +kernel
theorem dX9_goes_225 : decode cX9_goes 225 = .ok (.iastore, 1) := by decide +kernel
theorem dX9_goes_226 : decode cX9_goes 226 = .ok (.iload 8, 2) := by decide +kernel
theorem dX9_goes_228 : decode cX9_goes 228 = .ok (.iload 9, 2) := by decide +kernel
theorem dX9_goes_230 : decode cX9_goes 230 = .ok (.if_icmp .le 17, 3) := by decide +kernel
theorem dX9_goes_233 : decode cX9_goes 233 = .ok (.aload_n 0, 1) := by decide +kernel
theorem dX9_goes_234 : decode cX9_goes 234 = .ok (.aload_n 2, 1) := by decide +kernel
theorem dX9_goes_235 : decode cX9_goes 235 = .ok (.iload 7, 2) := by decide +kernel
theorem dX9_goes_237 : decode cX9_goes 237 = .ok (.iload 8, 2) := by decide +kernel
theorem dX9_goes_239 : decode cX9_goes 239 = .ok (.iload 8, 2) := by decide +kernel
theorem dX9_goes_241 : decode cX9_goes 241 = .ok (.iload 9, 2) := by decide +kernel
theorem dX9_goes_243 : decode cX9_goes 243 = .ok (.isub, 1) := by decide +kernel
theorem dX9_goes_244 : decode cX9_goes 244 = .ok (.invokevirtual 201, 3) := by decide +kernel
theorem dX9_goes_247 : decode cX9_goes 247 = .ok (.iconst 0, 1) := by decide +kernel
theorem dX9_goes_248 : decode cX9_goes 248 = .ok (.istore 10, 2) := by decide +kernel
theorem dX9_goes_250 : decode cX9_goes 250 = .ok (.iload 10, 2) := by decide +kernel
theorem dX9_goes_252 : decode cX9_goes 252 = .ok (.aload_n 0, 1) := by decide +kernel
theorem dX9_goes_253 : decode cX9_goes 253 = .ok (.getfield 164, 3) := by decide +kernel
theorem dX9_goes_256 : decode cX9_goes 256 = .ok (.if_icmp .ge 48, 3) := by decide +kernel
theorem dX9_goes_259 : decode cX9_goes 259 = .ok (.aload_n 0, 1) := by decide +kernel
theorem dX9_goes_260 : decode cX9_goes 260 = .ok (.getfield 104, 3) := by decide +kernel
theorem dX9_goes_263 : decode cX9_goes 263 = .ok (.iload 10, 2) := by decide +kernel
theorem dX9_goes_265 : decode cX9_goes 265 = .ok (.dup2, 1) := by decide +kernel
theorem dX9_goes_266 : decode cX9_goes 266 = .ok (.iaload, 1) := by decide +kernel
theorem dX9_goes_267 : decode cX9_goes 267 = .ok (.aload_n 2, 1) := by decide +kernel
theorem dX9_goes_268 : decode cX9_goes 268 = .ok (.iload 10, 2) := by decide +kernel
theorem dX9_goes_270 : decode cX9_goes 270 = .ok (.iaload, 1) := by decide +kernel
theorem dX9_goes_271 : decode cX9_goes 271 = .ok (.iload 7, 2) := by decide +kernel
theorem dX9_goes_273 : decode cX9_goes 273 = .ok (.if_icmp .ne 22, 3) := by decide +kernel
theorem dX9_goes_276 : decode cX9_goes 276 = .ok (.aload_n 0, 1) := by decide +kernel
theorem dX9_goes_277 : decode cX9_goes 277 = .ok (.getfield 28, 3) := by decide +kernel
theorem dX9_goes_280 : decode cX9_goes 280 = .ok (.iload 7, 2) := by decide +kernel
theorem dX9_goes_282 : decode cX9_goes 282 = .ok (.baload, 1) := by decide +kernel
theorem dX9_goes_283 : decode cX9_goes 283 = .ok (.ifCond .ne 12, 3) := by decide +kernel
theorem dX9_goes_286 : decode cX9_goes 286 = .ok (.aload_n 0, 1) := by decide +kernel
theorem dX9_goes_287 : decode cX9_goes 287 = .ok (.iload 10, 2) := by decide +kernel
theorem dX9_goes_289 : decode cX9_goes 289 = .ok (.invokevirtual 170, 3) := by decide +kernel
theorem dX9_goes_292 : decode cX9_goes 292 = .ok (.goto 4, 3) := by decide +kernel
theorem dX9_goes_295 : decode cX9_goes 295 = .ok (.iconst 0, 1) := by decide +kernel
theorem dX9_goes_296 : decode cX9_goes 296 = .ok (.iadd, 1) := by decide +kernel
theorem dX9_goes_297 : decode cX9_goes 297 = .ok (.iastore, 1) := by decide +kernel
theorem dX9_goes_298 : decode cX9_goes 298 = .ok (.iinc 10 1, 3) := by decide +kernel
theorem dX9_goes_301 : decode cX9_goes 301 = .ok (.goto (-51), 3) := by decide +kernel
theorem dX9_goes_304 : decode cX9_goes 304 = .ok (.iinc 7 1, 3) := by decide +kernel
theorem dX9_goes_307 : decode cX9_goes 307 = .ok (.goto (-251), 3) := by decide +kernel
theorem dX9_goes_310 : decode cX9_goes 310 = .ok (.return_, 1) := by decide +kernel
theorem dX9_shares_0 : decode cX9_shares 0 = .ok (.iload 4, 2) := by decide +kernel
theorem dX9_shares_2 : decode cX9_shares 2 = .ok (.istore 5, 2) := by decide +kernel
theorem dX9_shares_4 : decode cX9_shares 4 = .ok (.iconst 0, 1) := by decide +kernel
theorem dX9_shares_5 : decode cX9_shares 5 = .ok (.istore 6, 2) := by decide +kernel
theorem dX9_shares_7 : decode cX9_shares 7 = .ok (.iload 6, 2) := by decide +kernel
theorem dX9_shares_9 : decode cX9_shares 9 = .ok (.aload_n 0, 1) := by decide +kernel
theorem dX9_shares_10 : decode cX9_shares 10 = .ok (.getfield 164, 3) := by decide +kernel
theorem dX9_shares_13 : decode cX9_shares 13 = .ok (.if_icmp .ge 54, 3) := by decide +kernel
theorem dX9_shares_16 : decode cX9_shares 16 = .ok (.aload_n 1, 1) := by decide +kernel
theorem dX9_shares_17 : decode cX9_shares 17 = .ok (.iload 6, 2) := by decide +kernel
theorem dX9_shares_19 : decode cX9_shares 19 = .ok (.iaload, 1) := by decide +kernel
theorem dX9_shares_20 : decode cX9_shares 20 = .ok (.iload_n 2, 1) := by decide +kernel
theorem dX9_shares_21 : decode cX9_shares 21 = .ok (.if_icmp .eq 6, 3) := by decide +kernel
theorem dX9_shares_24 : decode cX9_shares 24 = .ok (.goto 37, 3) := by decide +kernel
theorem dX9_shares_27 : decode cX9_shares 27 = .ok (.aload_n 0, 1) := by decide +kernel
theorem dX9_shares_28 : decode cX9_shares 28 = .ok (.getfield 104, 3) := by decide +kernel
theorem dX9_shares_31 : decode cX9_shares 31 = .ok (.iload 6, 2) := by decide +kernel
theorem dX9_shares_33 : decode cX9_shares 33 = .ok (.iload 4, 2) := by decide +kernel
theorem dX9_shares_35 : decode cX9_shares 35 = .ok (.i2l, 1) := by decide +kernel
theorem dX9_shares_36 : decode cX9_shares 36 = .ok (.aload_n 0, 1) := by decide +kernel
theorem dX9_shares_37 : decode cX9_shares 37 = .ok (.iload 6, 2) := by decide +kernel
theorem dX9_shares_39 : decode cX9_shares 39 = .ok (.invokevirtual 170, 3) := by decide +kernel
theorem dX9_shares_42 : decode cX9_shares 42 = .ok (.i2l, 1) := by decide +kernel
theorem dX9_shares_43 : decode cX9_shares 43 = .ok (.lmul, 1) := by decide +kernel
theorem dX9_shares_44 : decode cX9_shares 44 = .ok (.iload_n 3, 1) := by decide +kernel
theorem dX9_shares_45 : decode cX9_shares 45 = .ok (.i2l, 1) := by decide +kernel
theorem dX9_shares_46 : decode cX9_shares 46 = .ok (.ldiv, 1) := by decide +kernel
theorem dX9_shares_47 : decode cX9_shares 47 = .ok (.l2i, 1) := by decide +kernel
theorem dX9_shares_48 : decode cX9_shares 48 = .ok (.iastore, 1) := by decide +kernel
theorem dX9_shares_49 : decode cX9_shares 49 = .ok (.iload 5, 2) := by decide +kernel
theorem dX9_shares_51 : decode cX9_shares 51 = .ok (.aload_n 0, 1) := by decide +kernel
theorem dX9_shares_52 : decode cX9_shares 52 = .ok (.getfield 104, 3) := by decide +kernel
theorem dX9_shares_55 : decode cX9_shares 55 = .ok (.iload 6, 2) := by decide +kernel
theorem dX9_shares_57 : decode cX9_shares 57 = .ok (.iaload, 1) := by decide +kernel
theorem dX9_shares_58 : decode cX9_shares 58 = .ok (.isub, 1) := by decide +kernel
theorem dX9_shares_59 : decode cX9_shares 59 = .ok (.istore 5, 2) := by decide +kernel
theorem dX9_shares_61 : decode cX9_shares 61 = .ok (.iinc 6 1, 3) := by decide +kernel
theorem dX9_shares_64 : decode cX9_shares 64 = .ok (.goto (-57), 3) := by decide +kernel
theorem dX9_shares_67 : decode cX9_shares 67 = .ok (.iconst 0, 1) := by decide +kernel
theorem dX9_shares_68 : decode cX9_shares 68 = .ok (.istore 6, 2) := by decide +kernel
theorem dX9_shares_70 : decode cX9_shares 70 = .ok (.iload 6, 2) := by decide +kernel
theorem dX9_shares_72 : decode cX9_shares 72 = .ok (.aload_n 0, 1) := by decide +kernel
theorem dX9_shares_73 : decode cX9_shares 73 = .ok (.getfield 164, 3) := by decide +kernel
theorem dX9_shares_76 : decode cX9_shares 76 = .ok (.if_icmp .ge 139, 3) := by decide +kernel
theorem dX9_shares_79 : decode cX9_shares 79 = .ok (.aload_n 1, 1) := by decide +kernel
theorem dX9_shares_80 : decode cX9_shares 80 = .ok (.iload 6, 2) := by decide +kernel
theorem dX9_shares_82 : decode cX9_shares 82 = .ok (.iaload, 1) := by decide +kernel
theorem dX9_shares_83 : decode cX9_shares 83 = .ok (.iload_n 2, 1) := by decide +kernel
theorem dX9_shares_84 : decode cX9_shares 84 = .ok (.if_icmp .eq 6, 3) := by decide +kernel
theorem dX9_shares_87 : decode cX9_shares 87 = .ok (.goto 122, 3) := by decide +kernel
theorem dX9_shares_90 : decode cX9_shares 90 = .ok (.iload 4, 2) := by decide +kernel
theorem dX9_shares_92 : decode cX9_shares 92 = .ok (.i2l, 1) := by decide +kernel
theorem dX9_shares_93 : decode cX9_shares 93 = .ok (.aload_n 0, 1) := by decide +kernel
theorem dX9_shares_94 : decode cX9_shares 94 = .ok (.iload 6, 2) := by decide +kernel
theorem dX9_shares_96 : decode cX9_shares 96 = .ok (.invokevirtual 170, 3) := by decide +kernel
theorem dX9_shares_99 : decode cX9_shares 99 = .ok (.i2l, 1) := by decide +kernel
theorem dX9_shares_100 : decode cX9_shares 100 = .ok (.lmul, 1) := by decide +kernel
theorem dX9_shares_101 : decode cX9_shares 101 = .ok (.iload_n 3, 1) := by decide +kernel
theorem dX9_shares_102 : decode cX9_shares 102 = .ok (.i2l, 1) := by decide +kernel
theorem dX9_shares_103 : decode cX9_shares 103 = .ok (.lrem, 1) := by decide +kernel
theorem dX9_shares_104 : decode cX9_shares 104 = .ok (.lstore 7, 2) := by decide +kernel
theorem dX9_shares_106 : decode cX9_shares 106 = .ok (.iconst 0, 1) := by decide +kernel
theorem dX9_shares_107 : decode cX9_shares 107 = .ok (.istore 9, 2) := by decide +kernel
theorem dX9_shares_109 : decode cX9_shares 109 = .ok (.iconst 0, 1) := by decide +kernel
theorem dX9_shares_110 : decode cX9_shares 110 = .ok (.istore 10, 2) := by decide +kernel
theorem dX9_shares_112 : decode cX9_shares 112 = .ok (.iload 10, 2) := by decide +kernel
theorem dX9_shares_114 : decode cX9_shares 114 = .ok (.aload_n 0, 1) := by decide +kernel
theorem dX9_shares_115 : decode cX9_shares 115 = .ok (.getfield 164, 3) := by decide +kernel
theorem dX9_shares_118 : decode cX9_shares 118 = .ok (.if_icmp .ge 69, 3) := by decide +kernel
theorem dX9_shares_121 : decode cX9_shares 121 = .ok (.aload_n 1, 1) := by decide +kernel
theorem dX9_shares_122 : decode cX9_shares 122 = .ok (.iload 10, 2) := by decide +kernel
theorem dX9_shares_124 : decode cX9_shares 124 = .ok (.iaload, 1) := by decide +kernel
theorem dX9_shares_125 : decode cX9_shares 125 = .ok (.iload_n 2, 1) := by decide +kernel
theorem dX9_shares_126 : decode cX9_shares 126 = .ok (.if_icmp .eq 6, 3) := by decide +kernel
theorem dX9_shares_129 : decode cX9_shares 129 = .ok (.goto 52, 3) := by decide +kernel
theorem dX9_shares_132 : decode cX9_shares 132 = .ok (.iload 4, 2) := by decide +kernel
theorem dX9_shares_134 : decode cX9_shares 134 = .ok (.i2l, 1) := by decide +kernel
theorem dX9_shares_135 : decode cX9_shares 135 = .ok (.aload_n 0, 1) := by decide +kernel
theorem dX9_shares_136 : decode cX9_shares 136 = .ok (.iload 10, 2) := by decide +kernel
theorem dX9_shares_138 : decode cX9_shares 138 = .ok (.invokevirtual 170, 3) := by decide +kernel
theorem dX9_shares_141 : decode cX9_shares 141 = .ok (.i2l, 1) := by decide +kernel
theorem dX9_shares_142 : decode cX9_shares 142 = .ok (.lmul, 1) := by decide +kernel
theorem dX9_shares_143 : decode cX9_shares 143 = .ok (.iload_n 3, 1) := by decide +kernel
theorem dX9_shares_144 : decode cX9_shares 144 = .ok (.i2l, 1) := by decide +kernel
theorem dX9_shares_145 : decode cX9_shares 145 = .ok (.lrem, 1) := by decide +kernel
theorem dX9_shares_146 : decode cX9_shares 146 = .ok (.lstore 11, 2) := by decide +kernel
theorem dX9_shares_148 : decode cX9_shares 148 = .ok (.iload 9, 2) := by decide +kernel
theorem dX9_shares_150 : decode cX9_shares 150 = .ok (.lload 11, 2) := by decide +kernel
theorem dX9_shares_152 : decode cX9_shares 152 = .ok (.lload 7, 2) := by decide +kernel
theorem dX9_shares_154 : decode cX9_shares 154 = .ok (.lcmp, 1) := by decide +kernel
theorem dX9_shares_155 : decode cX9_shares 155 = .ok (.ifCond .gt 18, 3) := by decide +kernel
theorem dX9_shares_158 : decode cX9_shares 158 = .ok (.lload 11, 2) := by decide +kernel
theorem dX9_shares_160 : decode cX9_shares 160 = .ok (.lload 7, 2) := by decide +kernel
theorem dX9_shares_162 : decode cX9_shares 162 = .ok (.lcmp, 1) := by decide +kernel
theorem dX9_shares_163 : decode cX9_shares 163 = .ok (.ifCond .ne 14, 3) := by decide +kernel
theorem dX9_shares_166 : decode cX9_shares 166 = .ok (.iload 10, 2) := by decide +kernel
theorem dX9_shares_168 : decode cX9_shares 168 = .ok (.iload 6, 2) := by decide +kernel
theorem dX9_shares_170 : decode cX9_shares 170 = .ok (.if_icmp .ge 7, 3) := by decide +kernel
theorem dX9_shares_173 : decode cX9_shares 173 = .ok (.iconst 1, 1) := by decide +kernel
theorem dX9_shares_174 : decode cX9_shares 174 = .ok (.goto 4, 3) := by decide +kernel
theorem dX9_shares_177 : decode cX9_shares 177 = .ok (.iconst 0, 1) := by decide +kernel
theorem dX9_shares_178 : decode cX9_shares 178 = .ok (.iadd, 1) := by decide +kernel
theorem dX9_shares_179 : decode cX9_shares 179 = .ok (.istore 9, 2) := by decide +kernel
theorem dX9_shares_181 : decode cX9_shares 181 = .ok (.iinc 10 1, 3) := by decide +kernel
theorem dX9_shares_184 : decode cX9_shares 184 = .ok (.goto (-72), 3) := by decide +kernel
theorem dX9_shares_187 : decode cX9_shares 187 = .ok (.aload_n 0, 1) := by decide +kernel
theorem dX9_shares_188 : decode cX9_shares 188 = .ok (.getfield 104, 3) := by decide +kernel
theorem dX9_shares_191 : decode cX9_shares 191 = .ok (.iload 6, 2) := by decide +kernel
theorem dX9_shares_193 : decode cX9_shares 193 = .ok (.dup2, 1) := by decide +kernel
theorem dX9_shares_194 : decode cX9_shares 194 = .ok (.iaload, 1) := by decide +kernel
theorem dX9_shares_195 : decode cX9_shares 195 = .ok (.iload 9, 2) := by decide +kernel
theorem dX9_shares_197 : decode cX9_shares 197 = .ok (.iload 5, 2) := by decide +kernel
theorem dX9_shares_199 : decode cX9_shares 199 = .ok (.if_icmp .ge 7, 3) := by decide +kernel
theorem dX9_shares_202 : decode cX9_shares 202 = .ok (.iconst 1, 1) := by decide +kernel
theorem dX9_shares_203 : decode cX9_shares 203 = .ok (.goto 4, 3) := by decide +kernel
theorem dX9_shares_206 : decode cX9_shares 206 = .ok (.iconst 0, 1) := by decide +kernel
theorem dX9_shares_207 : decode cX9_shares 207 = .ok (.iadd, 1) := by decide +kernel
theorem dX9_shares_208 : decode cX9_shares 208 = .ok (.iastore, 1) := by decide +kernel
theorem dX9_shares_209 : decode cX9_shares 209 = .ok (.iinc 6 1, 3) := by decide +kernel
theorem dX9_shares_212 : decode cX9_shares 212 = .ok (.goto (-142), 3) := by decide +kernel
theorem dX9_shares_215 : decode cX9_shares 215 = .ok (.return_, 1) := by decide +kernel
theorem dX9_places_0 : decode cX9_places 0 = .ok (.iconst 0, 1) := by decide +kernel
theorem dX9_places_1 : decode cX9_places 1 = .ok (.istore_n 1, 1) := by decide +kernel
theorem dX9_places_2 : decode cX9_places 2 = .ok (.iload_n 1, 1) := by decide +kernel
theorem dX9_places_3 : decode cX9_places 3 = .ok (.bipush 20, 2) := by decide +kernel
theorem dX9_places_5 : decode cX9_places 5 = .ok (.if_icmp .ge 41, 3) := by decide +kernel
theorem dX9_places_8 : decode cX9_places 8 = .ok (.aload_n 0, 1) := by decide +kernel
theorem dX9_places_9 : decode cX9_places 9 = .ok (.getfield 110, 3) := by decide +kernel
theorem dX9_places_12 : decode cX9_places 12 = .ok (.iload_n 1, 1) := by decide +kernel
theorem dX9_places_13 : decode cX9_places 13 = .ok (.iload_n 1, 1) := by decide +kernel
theorem dX9_places_14 : decode cX9_places 14 = .ok (.aload_n 0, 1) := by decide +kernel
theorem dX9_places_15 : decode cX9_places 15 = .ok (.getfield 164, 3) := by decide +kernel
theorem dX9_places_18 : decode cX9_places 18 = .ok (.if_icmp .ge 20, 3) := by decide +kernel
theorem dX9_places_21 : decode cX9_places 21 = .ok (.aload_n 0, 1) := by decide +kernel
theorem dX9_places_22 : decode cX9_places 22 = .ok (.iload_n 1, 1) := by decide +kernel
theorem dX9_places_23 : decode cX9_places 23 = .ok (.invokevirtual 167, 3) := by decide +kernel
theorem dX9_places_26 : decode cX9_places 26 = .ok (.ifCond .eq 12, 3) := by decide +kernel
theorem dX9_places_29 : decode cX9_places 29 = .ok (.aload_n 0, 1) := by decide +kernel
theorem dX9_places_30 : decode cX9_places 30 = .ok (.getfield 89, 3) := by decide +kernel
theorem dX9_places_33 : decode cX9_places 33 = .ok (.iload_n 1, 1) := by decide +kernel
theorem dX9_places_34 : decode cX9_places 34 = .ok (.iaload, 1) := by decide +kernel
theorem dX9_places_35 : decode cX9_places 35 = .ok (.goto 4, 3) := by decide +kernel
theorem dX9_places_38 : decode cX9_places 38 = .ok (.iconst (-1), 1) := by decide +kernel
theorem dX9_places_39 : decode cX9_places 39 = .ok (.iastore, 1) := by decide +kernel
theorem dX9_places_40 : decode cX9_places 40 = .ok (.iinc 1 1, 3) := by decide +kernel
theorem dX9_places_43 : decode cX9_places 43 = .ok (.goto (-41), 3) := by decide +kernel
theorem dX9_places_46 : decode cX9_places 46 = .ok (.return_, 1) := by decide +kernel
theorem dX9_sells_0 : decode cX9_sells 0 = .ok (.iconst 0, 1) := by decide +kernel
theorem dX9_sells_1 : decode cX9_sells 1 = .ok (.istore_n 1, 1) := by decide +kernel
theorem dX9_sells_2 : decode cX9_sells 2 = .ok (.iload_n 1, 1) := by decide +kernel
theorem dX9_sells_3 : decode cX9_sells 3 = .ok (.aload_n 0, 1) := by decide +kernel
theorem dX9_sells_4 : decode cX9_sells 4 = .ok (.getfield 164, 3) := by decide +kernel
theorem dX9_sells_7 : decode cX9_sells 7 = .ok (.if_icmp .ge 94, 3) := by decide +kernel
theorem dX9_sells_10 : decode cX9_sells 10 = .ok (.aload_n 0, 1) := by decide +kernel
theorem dX9_sells_11 : decode cX9_sells 11 = .ok (.getfield 98, 3) := by decide +kernel
theorem dX9_sells_14 : decode cX9_sells 14 = .ok (.iload_n 1, 1) := by decide +kernel
theorem dX9_sells_15 : decode cX9_sells 15 = .ok (.iaload, 1) := by decide +kernel
theorem dX9_sells_16 : decode cX9_sells 16 = .ok (.iconst 1, 1) := by decide +kernel
theorem dX9_sells_17 : decode cX9_sells 17 = .ok (.if_icmp .ne 78, 3) := by decide +kernel
theorem dX9_sells_20 : decode cX9_sells 20 = .ok (.aload_n 0, 1) := by decide +kernel
theorem dX9_sells_21 : decode cX9_sells 21 = .ok (.getfield 141, 3) := by decide +kernel
theorem dX9_sells_24 : decode cX9_sells 24 = .ok (.aload_n 0, 1) := by decide +kernel
theorem dX9_sells_25 : decode cX9_sells 25 = .ok (.getfield 101, 3) := by decide +kernel
theorem dX9_sells_28 : decode cX9_sells 28 = .ok (.iload_n 1, 1) := by decide +kernel
theorem dX9_sells_29 : decode cX9_sells 29 = .ok (.iaload, 1) := by decide +kernel
theorem dX9_sells_30 : decode cX9_sells 30 = .ok (.isub, 1) := by decide +kernel
theorem dX9_sells_31 : decode cX9_sells 31 = .ok (.iconst 1, 1) := by decide +kernel
theorem dX9_sells_32 : decode cX9_sells 32 = .ok (.iadd, 1) := by decide +kernel
theorem dX9_sells_33 : decode cX9_sells 33 = .ok (.bipush 31, 2) := by decide +kernel
theorem dX9_sells_35 : decode cX9_sells 35 = .ok (.if_icmp .ge 6, 3) := by decide +kernel
theorem dX9_sells_38 : decode cX9_sells 38 = .ok (.goto 57, 3) := by decide +kernel
theorem dX9_sells_41 : decode cX9_sells 41 = .ok (.aload_n 0, 1) := by decide +kernel
theorem dX9_sells_42 : decode cX9_sells 42 = .ok (.iload_n 1, 1) := by decide +kernel
theorem dX9_sells_43 : decode cX9_sells 43 = .ok (.invokevirtual 170, 3) := by decide +kernel
theorem dX9_sells_46 : decode cX9_sells 46 = .ok (.istore_n 2, 1) := by decide +kernel
theorem dX9_sells_47 : decode cX9_sells 47 = .ok (.iload_n 2, 1) := by decide +kernel
theorem dX9_sells_48 : decode cX9_sells 48 = .ok (.bipush 31, 2) := by decide +kernel
theorem dX9_sells_50 : decode cX9_sells 50 = .ok (.aload_n 0, 1) := by decide +kernel
theorem dX9_sells_51 : decode cX9_sells 51 = .ok (.getfield 86, 3) := by decide +kernel
theorem dX9_sells_54 : decode cX9_sells 54 = .ok (.iload_n 1, 1) := by decide +kernel
theorem dX9_sells_55 : decode cX9_sells 55 = .ok (.iaload, 1) := by decide +kernel
theorem dX9_sells_56 : decode cX9_sells 56 = .ok (.imul, 1) := by decide +kernel
theorem dX9_sells_57 : decode cX9_sells 57 = .ok (.invokestatic 173, 3) := by decide +kernel
theorem dX9_sells_60 : decode cX9_sells 60 = .ok (.istore_n 3, 1) := by decide +kernel
