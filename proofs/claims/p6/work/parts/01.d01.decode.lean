theorem dX9_lacksOf_214 : decode cX9_lacksOf 214 = .ok (.iload 9, 2) := by decide +kernel
theorem dX9_lacksOf_216 : decode cX9_lacksOf 216 = .ok (.invokestatic 173, 3) := by decide +kernel
theorem dX9_lacksOf_219 : decode cX9_lacksOf 219 = .ok (.isub, 1) := by decide +kernel
theorem dX9_lacksOf_220 : decode cX9_lacksOf 220 = .ok (.iadd, 1) := by decide +kernel
theorem dX9_lacksOf_221 : decode cX9_lacksOf 221 = .ok (.istore 4, 2) := by decide +kernel
theorem dX9_lacksOf_223 : decode cX9_lacksOf 223 = .ok (.iinc 6 1, 3) := by decide +kernel
theorem dX9_lacksOf_226 : decode cX9_lacksOf 226 = .ok (.goto (-213), 3) := by decide +kernel
theorem dX9_lacksOf_229 : decode cX9_lacksOf 229 = .ok (.iconst 0, 1) := by decide +kernel
theorem dX9_lacksOf_230 : decode cX9_lacksOf 230 = .ok (.istore 6, 2) := by decide +kernel
theorem dX9_lacksOf_232 : decode cX9_lacksOf 232 = .ok (.iload 6, 2) := by decide +kernel
theorem dX9_lacksOf_234 : decode cX9_lacksOf 234 = .ok (.aload_n 0, 1) := by decide +kernel
theorem dX9_lacksOf_235 : decode cX9_lacksOf 235 = .ok (.getfield 148, 3) := by decide +kernel
theorem dX9_lacksOf_238 : decode cX9_lacksOf 238 = .ok (.if_icmp .ge 65, 3) := by decide +kernel
theorem dX9_lacksOf_241 : decode cX9_lacksOf 241 = .ok (.aload_n 0, 1) := by decide +kernel
theorem dX9_lacksOf_242 : decode cX9_lacksOf 242 = .ok (.iload 6, 2) := by decide +kernel
theorem dX9_lacksOf_244 : decode cX9_lacksOf 244 = .ok (.invokevirtual 155, 3) := by decide +kernel
theorem dX9_lacksOf_247 : decode cX9_lacksOf 247 = .ok (.iload_n 1, 1) := by decide +kernel
theorem dX9_lacksOf_248 : decode cX9_lacksOf 248 = .ok (.if_icmp .eq 6, 3) := by decide +kernel
theorem dX9_lacksOf_251 : decode cX9_lacksOf 251 = .ok (.goto 46, 3) := by decide +kernel
theorem dX9_lacksOf_254 : decode cX9_lacksOf 254 = .ok (.aload_n 0, 1) := by decide +kernel
theorem dX9_lacksOf_255 : decode cX9_lacksOf 255 = .ok (.getfield 50, 3) := by decide +kernel
theorem dX9_lacksOf_258 : decode cX9_lacksOf 258 = .ok (.iload 6, 2) := by decide +kernel
theorem dX9_lacksOf_260 : decode cX9_lacksOf 260 = .ok (.iaload, 1) := by decide +kernel
theorem dX9_lacksOf_261 : decode cX9_lacksOf 261 = .ok (.iconst 2, 1) := by decide +kernel
theorem dX9_lacksOf_262 : decode cX9_lacksOf 262 = .ok (.if_icmp .ne 15, 3) := by decide +kernel
theorem dX9_lacksOf_265 : decode cX9_lacksOf 265 = .ok (.iload_n 3, 1) := by decide +kernel
theorem dX9_lacksOf_266 : decode cX9_lacksOf 266 = .ok (.aload_n 0, 1) := by decide +kernel
theorem dX9_lacksOf_267 : decode cX9_lacksOf 267 = .ok (.iload 6, 2) := by decide +kernel
theorem dX9_lacksOf_269 : decode cX9_lacksOf 269 = .ok (.invokevirtual 158, 3) := by decide +kernel
theorem dX9_lacksOf_272 : decode cX9_lacksOf 272 = .ok (.iadd, 1) := by decide +kernel
theorem dX9_lacksOf_273 : decode cX9_lacksOf 273 = .ok (.istore_n 3, 1) := by decide +kernel
theorem dX9_lacksOf_274 : decode cX9_lacksOf 274 = .ok (.goto 23, 3) := by decide +kernel
theorem dX9_lacksOf_277 : decode cX9_lacksOf 277 = .ok (.aload_n 0, 1) := by decide +kernel
theorem dX9_lacksOf_278 : decode cX9_lacksOf 278 = .ok (.getfield 50, 3) := by decide +kernel
theorem dX9_lacksOf_281 : decode cX9_lacksOf 281 = .ok (.iload 6, 2) := by decide +kernel
theorem dX9_lacksOf_283 : decode cX9_lacksOf 283 = .ok (.iaload, 1) := by decide +kernel
theorem dX9_lacksOf_284 : decode cX9_lacksOf 284 = .ok (.iconst 3, 1) := by decide +kernel
theorem dX9_lacksOf_285 : decode cX9_lacksOf 285 = .ok (.if_icmp .eq 12, 3) := by decide +kernel
theorem dX9_lacksOf_288 : decode cX9_lacksOf 288 = .ok (.iload_n 2, 1) := by decide +kernel
theorem dX9_lacksOf_289 : decode cX9_lacksOf 289 = .ok (.aload_n 0, 1) := by decide +kernel
theorem dX9_lacksOf_290 : decode cX9_lacksOf 290 = .ok (.iload 6, 2) := by decide +kernel
theorem dX9_lacksOf_292 : decode cX9_lacksOf 292 = .ok (.invokevirtual 158, 3) := by decide +kernel
theorem dX9_lacksOf_295 : decode cX9_lacksOf 295 = .ok (.iadd, 1) := by decide +kernel
theorem dX9_lacksOf_296 : decode cX9_lacksOf 296 = .ok (.istore_n 2, 1) := by decide +kernel
theorem dX9_lacksOf_297 : decode cX9_lacksOf 297 = .ok (.iinc 6 1, 3) := by decide +kernel
theorem dX9_lacksOf_300 : decode cX9_lacksOf 300 = .ok (.goto (-68), 3) := by decide +kernel
theorem dX9_lacksOf_303 : decode cX9_lacksOf 303 = .ok (.iload 5, 2) := by decide +kernel
theorem dX9_lacksOf_305 : decode cX9_lacksOf 305 = .ok (.iconst 0, 1) := by decide +kernel
theorem dX9_lacksOf_306 : decode cX9_lacksOf 306 = .ok (.iload 4, 2) := by decide +kernel
theorem dX9_lacksOf_308 : decode cX9_lacksOf 308 = .ok (.iload_n 3, 1) := by decide +kernel
theorem dX9_lacksOf_309 : decode cX9_lacksOf 309 = .ok (.isub, 1) := by decide +kernel
theorem dX9_lacksOf_310 : decode cX9_lacksOf 310 = .ok (.invokestatic 179, 3) := by decide +kernel
theorem dX9_lacksOf_313 : decode cX9_lacksOf 313 = .ok (.iadd, 1) := by decide +kernel
theorem dX9_lacksOf_314 : decode cX9_lacksOf 314 = .ok (.iload_n 2, 1) := by decide +kernel
theorem dX9_lacksOf_315 : decode cX9_lacksOf 315 = .ok (.isub, 1) := by decide +kernel
theorem dX9_lacksOf_316 : decode cX9_lacksOf 316 = .ok (.istore 6, 2) := by decide +kernel
theorem dX9_lacksOf_318 : decode cX9_lacksOf 318 = .ok (.iconst 0, 1) := by decide +kernel
theorem dX9_lacksOf_319 : decode cX9_lacksOf 319 = .ok (.iload 6, 2) := by decide +kernel
theorem dX9_lacksOf_321 : decode cX9_lacksOf 321 = .ok (.invokestatic 179, 3) := by decide +kernel
theorem dX9_lacksOf_324 : decode cX9_lacksOf 324 = .ok (.ireturn, 1) := by decide +kernel
theorem dX9_rests_0 : decode cX9_rests 0 = .ok (.aload_n 0, 1) := by decide +kernel
theorem dX9_rests_1 : decode cX9_rests 1 = .ok (.getfield 141, 3) := by decide +kernel
theorem dX9_rests_4 : decode cX9_rests 4 = .ok (.aload_n 0, 1) := by decide +kernel
theorem dX9_rests_5 : decode cX9_rests 5 = .ok (.getfield 22, 3) := by decide +kernel
theorem dX9_rests_8 : decode cX9_rests 8 = .ok (.iload_n 1, 1) := by decide +kernel
theorem dX9_rests_9 : decode cX9_rests 9 = .ok (.iaload, 1) := by decide +kernel
theorem dX9_rests_10 : decode cX9_rests 10 = .ok (.if_icmp .gt 7, 3) := by decide +kernel
theorem dX9_rests_13 : decode cX9_rests 13 = .ok (.iconst 1, 1) := by decide +kernel
theorem dX9_rests_14 : decode cX9_rests 14 = .ok (.goto 4, 3) := by decide +kernel
theorem dX9_rests_17 : decode cX9_rests 17 = .ok (.iconst 0, 1) := by decide +kernel
theorem dX9_rests_18 : decode cX9_rests 18 = .ok (.ireturn, 1) := by decide +kernel
theorem dX9_partsOn_0 : decode cX9_partsOn 0 = .ok (.iconst 0, 1) := by decide +kernel
theorem dX9_partsOn_1 : decode cX9_partsOn 1 = .ok (.istore_n 2, 1) := by decide +kernel
theorem dX9_partsOn_2 : decode cX9_partsOn 2 = .ok (.iconst 0, 1) := by decide +kernel
theorem dX9_partsOn_3 : decode cX9_partsOn 3 = .ok (.istore_n 3, 1) := by decide +kernel
theorem dX9_partsOn_4 : decode cX9_partsOn 4 = .ok (.iload_n 3, 1) := by decide +kernel
theorem dX9_partsOn_5 : decode cX9_partsOn 5 = .ok (.aload_n 0, 1) := by decide +kernel
theorem dX9_partsOn_6 : decode cX9_partsOn 6 = .ok (.getfield 164, 3) := by decide +kernel
theorem dX9_partsOn_9 : decode cX9_partsOn 9 = .ok (.if_icmp .ge 39, 3) := by decide +kernel
theorem dX9_partsOn_12 : decode cX9_partsOn 12 = .ok (.iload_n 2, 1) := by decide +kernel
theorem dX9_partsOn_13 : decode cX9_partsOn 13 = .ok (.aload_n 0, 1) := by decide +kernel
theorem dX9_partsOn_14 : decode cX9_partsOn 14 = .ok (.iload_n 3, 1) := by decide +kernel
theorem dX9_partsOn_15 : decode cX9_partsOn 15 = .ok (.invokevirtual 167, 3) := by decide +kernel
theorem dX9_partsOn_18 : decode cX9_partsOn 18 = .ok (.ifCond .eq 21, 3) := by decide +kernel
theorem dX9_partsOn_21 : decode cX9_partsOn 21 = .ok (.aload_n 0, 1) := by decide +kernel
theorem dX9_partsOn_22 : decode cX9_partsOn 22 = .ok (.getfield 89, 3) := by decide +kernel
theorem dX9_partsOn_25 : decode cX9_partsOn 25 = .ok (.iload_n 3, 1) := by decide +kernel
theorem dX9_partsOn_26 : decode cX9_partsOn 26 = .ok (.iaload, 1) := by decide +kernel
theorem dX9_partsOn_27 : decode cX9_partsOn 27 = .ok (.iload_n 1, 1) := by decide +kernel
theorem dX9_partsOn_28 : decode cX9_partsOn 28 = .ok (.if_icmp .ne 11, 3) := by decide +kernel
theorem dX9_partsOn_31 : decode cX9_partsOn 31 = .ok (.aload_n 0, 1) := by decide +kernel
theorem dX9_partsOn_32 : decode cX9_partsOn 32 = .ok (.iload_n 3, 1) := by decide +kernel
theorem dX9_partsOn_33 : decode cX9_partsOn 33 = .ok (.invokevirtual 170, 3) := by decide +kernel
theorem dX9_partsOn_36 : decode cX9_partsOn 36 = .ok (.goto 4, 3) := by decide +kernel
theorem dX9_partsOn_39 : decode cX9_partsOn 39 = .ok (.iconst 0, 1) := by decide +kernel
theorem dX9_partsOn_40 : decode cX9_partsOn 40 = .ok (.iadd, 1) := by decide +kernel
theorem dX9_partsOn_41 : decode cX9_partsOn 41 = .ok (.istore_n 2, 1) := by decide +kernel
theorem dX9_partsOn_42 : decode cX9_partsOn 42 = .ok (.iinc 3 1, 3) := by decide +kernel
theorem dX9_partsOn_45 : decode cX9_partsOn 45 = .ok (.goto (-41), 3) := by decide +kernel
theorem dX9_partsOn_48 : decode cX9_partsOn 48 = .ok (.iload_n 2, 1) := by decide +kernel
theorem dX9_partsOn_49 : decode cX9_partsOn 49 = .ok (.ireturn, 1) := by decide +kernel
theorem dX9_isAsked_0 : decode cX9_isAsked 0 = .ok (.aload_n 0, 1) := by decide +kernel
theorem dX9_isAsked_1 : decode cX9_isAsked 1 = .ok (.iload_n 1, 1) := by decide +kernel
theorem dX9_isAsked_2 : decode cX9_isAsked 2 = .ok (.invokevirtual 155, 3) := by decide +kernel
theorem dX9_isAsked_5 : decode cX9_isAsked 5 = .ok (.istore_n 2, 1) := by decide +kernel
theorem dX9_isAsked_6 : decode cX9_isAsked 6 = .ok (.iconst 0, 1) := by decide +kernel
theorem dX9_isAsked_7 : decode cX9_isAsked 7 = .ok (.istore_n 3, 1) := by decide +kernel
theorem dX9_isAsked_8 : decode cX9_isAsked 8 = .ok (.iconst 0, 1) := by decide +kernel
theorem dX9_isAsked_9 : decode cX9_isAsked 9 = .ok (.istore 4, 2) := by decide +kernel
theorem dX9_isAsked_11 : decode cX9_isAsked 11 = .ok (.iload 4, 2) := by decide +kernel
theorem dX9_isAsked_13 : decode cX9_isAsked 13 = .ok (.aload_n 0, 1) := by decide +kernel
theorem dX9_isAsked_14 : decode cX9_isAsked 14 = .ok (.getfield 164, 3) := by decide +kernel
theorem dX9_isAsked_17 : decode cX9_isAsked 17 = .ok (.if_icmp .ge 86, 3) := by decide +kernel
theorem dX9_isAsked_20 : decode cX9_isAsked 20 = .ok (.iload_n 3, 1) := by decide +kernel
theorem dX9_isAsked_21 : decode cX9_isAsked 21 = .ok (.ifCond .ne 82, 3) := by decide +kernel
theorem dX9_isAsked_24 : decode cX9_isAsked 24 = .ok (.aload_n 0, 1) := by decide +kernel
theorem dX9_isAsked_25 : decode cX9_isAsked 25 = .ok (.iload 4, 2) := by decide +kernel
theorem dX9_isAsked_27 : decode cX9_isAsked 27 = .ok (.invokevirtual 167, 3) := by decide +kernel
theorem dX9_isAsked_30 : decode cX9_isAsked 30 = .ok (.ifCond .eq 65, 3) := by decide +kernel
theorem dX9_isAsked_33 : decode cX9_isAsked 33 = .ok (.aload_n 0, 1) := by decide +kernel
theorem dX9_isAsked_34 : decode cX9_isAsked 34 = .ok (.getfield 80, 3) := by decide +kernel
theorem dX9_isAsked_37 : decode cX9_isAsked 37 = .ok (.iload 4, 2) := by decide +kernel
theorem dX9_isAsked_39 : decode cX9_isAsked 39 = .ok (.iaload, 1) := by decide +kernel
theorem dX9_isAsked_40 : decode cX9_isAsked 40 = .ok (.iload_n 2, 1) := by decide +kernel
theorem dX9_isAsked_41 : decode cX9_isAsked 41 = .ok (.if_icmp .ne 54, 3) := by decide +kernel
theorem dX9_isAsked_44 : decode cX9_isAsked 44 = .ok (.aload_n 0, 1) := by decide +kernel
theorem dX9_isAsked_45 : decode cX9_isAsked 45 = .ok (.getfield 50, 3) := by decide +kernel
theorem dX9_isAsked_48 : decode cX9_isAsked 48 = .ok (.iload_n 1, 1) := by decide +kernel
theorem dX9_isAsked_49 : decode cX9_isAsked 49 = .ok (.iaload, 1) := by decide +kernel
theorem dX9_isAsked_50 : decode cX9_isAsked 50 = .ok (.iconst 2, 1) := by decide +kernel
theorem dX9_isAsked_51 : decode cX9_isAsked 51 = .ok (.if_icmp .ne 14, 3) := by decide +kernel
theorem dX9_isAsked_54 : decode cX9_isAsked 54 = .ok (.aload_n 0, 1) := by decide +kernel
theorem dX9_isAsked_55 : decode cX9_isAsked 55 = .ok (.getfield 83, 3) := by decide +kernel
theorem dX9_isAsked_58 : decode cX9_isAsked 58 = .ok (.iload 4, 2) := by decide +kernel
theorem dX9_isAsked_60 : decode cX9_isAsked 60 = .ok (.iaload, 1) := by decide +kernel
theorem dX9_isAsked_61 : decode cX9_isAsked 61 = .ok (.iconst 2, 1) := by decide +kernel
theorem dX9_isAsked_62 : decode cX9_isAsked 62 = .ok (.if_icmp .ne 33, 3) := by decide +kernel
theorem dX9_isAsked_65 : decode cX9_isAsked 65 = .ok (.aload_n 0, 1) := by decide +kernel
theorem dX9_isAsked_66 : decode cX9_isAsked 66 = .ok (.getfield 50, 3) := by decide +kernel
theorem dX9_isAsked_69 : decode cX9_isAsked 69 = .ok (.iload_n 1, 1) := by decide +kernel
theorem dX9_isAsked_70 : decode cX9_isAsked 70 = .ok (.iaload, 1) := by decide +kernel
theorem dX9_isAsked_71 : decode cX9_isAsked 71 = .ok (.iconst 3, 1) := by decide +kernel
theorem dX9_isAsked_72 : decode cX9_isAsked 72 = .ok (.if_icmp .ne 19, 3) := by decide +kernel
theorem dX9_isAsked_75 : decode cX9_isAsked 75 = .ok (.aload_n 0, 1) := by decide +kernel
theorem dX9_isAsked_76 : decode cX9_isAsked 76 = .ok (.getfield 89, 3) := by decide +kernel
theorem dX9_isAsked_79 : decode cX9_isAsked 79 = .ok (.iload 4, 2) := by decide +kernel
theorem dX9_isAsked_81 : decode cX9_isAsked 81 = .ok (.iaload, 1) := by decide +kernel
theorem dX9_isAsked_82 : decode cX9_isAsked 82 = .ok (.aload_n 0, 1) := by decide +kernel
theorem dX9_isAsked_83 : decode cX9_isAsked 83 = .ok (.getfield 65, 3) := by decide +kernel
theorem dX9_isAsked_86 : decode cX9_isAsked 86 = .ok (.iload_n 1, 1) := by decide +kernel
theorem dX9_isAsked_87 : decode cX9_isAsked 87 = .ok (.iaload, 1) := by decide +kernel
theorem dX9_isAsked_88 : decode cX9_isAsked 88 = .ok (.if_icmp .ne 7, 3) := by decide +kernel
theorem dX9_isAsked_91 : decode cX9_isAsked 91 = .ok (.iconst 1, 1) := by decide +kernel
theorem dX9_isAsked_92 : decode cX9_isAsked 92 = .ok (.goto 4, 3) := by decide +kernel
theorem dX9_isAsked_95 : decode cX9_isAsked 95 = .ok (.iconst 0, 1) := by decide +kernel
theorem dX9_isAsked_96 : decode cX9_isAsked 96 = .ok (.istore_n 3, 1) := by decide +kernel
theorem dX9_isAsked_97 : decode cX9_isAsked 97 = .ok (.iinc 4 1, 3) := by decide +kernel
theorem dX9_isAsked_100 : decode cX9_isAsked 100 = .ok (.goto (-89), 3) := by decide +kernel
theorem dX9_isAsked_103 : decode cX9_isAsked 103 = .ok (.iload_n 3, 1) := by decide +kernel
theorem dX9_isAsked_104 : decode cX9_isAsked 104 = .ok (.ireturn, 1) := by decide +kernel
theorem dX9_counts_0 : decode cX9_counts 0 = .ok (.aload_n 0, 1) := by decide +kernel
theorem dX9_counts_1 : decode cX9_counts 1 = .ok (.getfield 50, 3) := by decide +kernel
theorem dX9_counts_4 : decode cX9_counts 4 = .ok (.iload_n 1, 1) := by decide +kernel
theorem dX9_counts_5 : decode cX9_counts 5 = .ok (.iaload, 1) := by decide +kernel
theorem dX9_counts_6 : decode cX9_counts 6 = .ok (.iconst 2, 1) := by decide +kernel
theorem dX9_counts_7 : decode cX9_counts 7 = .ok (.if_icmp .eq 23, 3) := by decide +kernel
theorem dX9_counts_10 : decode cX9_counts 10 = .ok (.aload_n 0, 1) := by decide +kernel
theorem dX9_counts_11 : decode cX9_counts 11 = .ok (.getfield 50, 3) := by decide +kernel
theorem dX9_counts_14 : decode cX9_counts 14 = .ok (.iload_n 1, 1) := by decide +kernel
theorem dX9_counts_15 : decode cX9_counts 15 = .ok (.iaload, 1) := by decide +kernel
theorem dX9_counts_16 : decode cX9_counts 16 = .ok (.iconst 3, 1) := by decide +kernel
theorem dX9_counts_17 : decode cX9_counts 17 = .ok (.if_icmp .ne 17, 3) := by decide +kernel
theorem dX9_counts_20 : decode cX9_counts 20 = .ok (.aload_n 0, 1) := by decide +kernel
theorem dX9_counts_21 : decode cX9_counts 21 = .ok (.getfield 65, 3) := by decide +kernel
theorem dX9_counts_24 : decode cX9_counts 24 = .ok (.iload_n 1, 1) := by decide +kernel
theorem dX9_counts_25 : decode cX9_counts 25 = .ok (.iaload, 1) := by decide +kernel
theorem dX9_counts_26 : decode cX9_counts 26 = .ok (.iload_n 2, 1) := by decide +kernel
theorem dX9_counts_27 : decode cX9_counts 27 = .ok (.if_icmp .eq 7, 3) := by decide +kernel
theorem dX9_counts_30 : decode cX9_counts 30 = .ok (.iconst 0, 1) := by decide +kernel
theorem dX9_counts_31 : decode cX9_counts 31 = .ok (.goto 8, 3) := by decide +kernel
theorem dX9_counts_34 : decode cX9_counts 34 = .ok (.aload_n 0, 1) := by decide +kernel
theorem dX9_counts_35 : decode cX9_counts 35 = .ok (.iload_n 1, 1) := by decide +kernel
theorem dX9_counts_36 : decode cX9_counts 36 = .ok (.invokevirtual 158, 3) := by decide +kernel
theorem dX9_counts_39 : decode cX9_counts 39 = .ok (.ireturn, 1) := by decide +kernel
theorem dX9_feeOf_0 : decode cX9_feeOf 0 = .ok (.aload_n 0, 1) := by decide +kernel
theorem dX9_feeOf_1 : decode cX9_feeOf 1 = .ok (.getfield 98, 3) := by decide +kernel
theorem dX9_feeOf_4 : decode cX9_feeOf 4 = .ok (.iload_n 1, 1) := by decide +kernel
theorem dX9_feeOf_5 : decode cX9_feeOf 5 = .ok (.iaload, 1) := by decide +kernel
theorem dX9_feeOf_6 : decode cX9_feeOf 6 = .ok (.iconst 1, 1) := by decide +kernel
theorem dX9_feeOf_7 : decode cX9_feeOf 7 = .ok (.if_icmp .ne 26, 3) := by decide +kernel
theorem dX9_feeOf_10 : decode cX9_feeOf 10 = .ok (.aload_n 0, 1) := by decide +kernel
theorem dX9_feeOf_11 : decode cX9_feeOf 11 = .ok (.getfield 141, 3) := by decide +kernel
theorem dX9_feeOf_14 : decode cX9_feeOf 14 = .ok (.aload_n 0, 1) := by decide +kernel
theorem dX9_feeOf_15 : decode cX9_feeOf 15 = .ok (.getfield 101, 3) := by decide +kernel
theorem dX9_feeOf_18 : decode cX9_feeOf 18 = .ok (.iload_n 1, 1) := by decide +kernel
theorem dX9_feeOf_19 : decode cX9_feeOf 19 = .ok (.iaload, 1) := by decide +kernel
theorem dX9_feeOf_20 : decode cX9_feeOf 20 = .ok (.isub, 1) := by decide +kernel
theorem dX9_feeOf_21 : decode cX9_feeOf 21 = .ok (.iconst 1, 1) := by decide +kernel
theorem dX9_feeOf_22 : decode cX9_feeOf 22 = .ok (.iadd, 1) := by decide +kernel
theorem dX9_feeOf_23 : decode cX9_feeOf 23 = .ok (.aload_n 0, 1) := by decide +kernel
theorem dX9_feeOf_24 : decode cX9_feeOf 24 = .ok (.getfield 86, 3) := by decide +kernel
theorem dX9_feeOf_27 : decode cX9_feeOf 27 = .ok (.iload_n 1, 1) := by decide +kernel
theorem dX9_feeOf_28 : decode cX9_feeOf 28 = .ok (.iaload, 1) := by decide +kernel
theorem dX9_feeOf_29 : decode cX9_feeOf 29 = .ok (.imul, 1) := by decide +kernel
theorem dX9_feeOf_30 : decode cX9_feeOf 30 = .ok (.goto 4, 3) := by decide +kernel
theorem dX9_feeOf_33 : decode cX9_feeOf 33 = .ok (.iconst 0, 1) := by decide +kernel
theorem dX9_feeOf_34 : decode cX9_feeOf 34 = .ok (.ireturn, 1) := by decide +kernel
theorem dX9_mayTake_0 : decode cX9_mayTake 0 = .ok (.aload_n 0, 1) := by decide +kernel
theorem dX9_mayTake_1 : decode cX9_mayTake 1 = .ok (.getfield 141, 3) := by decide +kernel
theorem dX9_mayTake_4 : decode cX9_mayTake 4 = .ok (.iconst 1, 1) := by decide +kernel
theorem dX9_mayTake_5 : decode cX9_mayTake 5 = .ok (.iadd, 1) := by decide +kernel
theorem dX9_mayTake_6 : decode cX9_mayTake 6 = .ok (.iload_n 1, 1) := by decide +kernel
theorem dX9_mayTake_7 : decode cX9_mayTake 7 = .ok (.iload_n 3, 1) := by decide +kernel
theorem dX9_mayTake_8 : decode cX9_mayTake 8 = .ok (.imul, 1) := by decide +kernel
theorem dX9_mayTake_9 : decode cX9_mayTake 9 = .ok (.iadd, 1) := by decide +kernel
theorem dX9_mayTake_10 : decode cX9_mayTake 10 = .ok (.aload_n 0, 1) := by decide +kernel
theorem dX9_mayTake_11 : decode cX9_mayTake 11 = .ok (.getfield 22, 3) := by decide +kernel
theorem dX9_mayTake_14 : decode cX9_mayTake 14 = .ok (.iload_n 2, 1) := by decide +kernel
theorem dX9_mayTake_15 : decode cX9_mayTake 15 = .ok (.iaload, 1) := by decide +kernel
theorem dX9_mayTake_16 : decode cX9_mayTake 16 = .ok (.if_icmp .le 7, 3) := by decide +kernel
theorem dX9_mayTake_19 : decode cX9_mayTake 19 = .ok (.iconst 1, 1) := by decide +kernel
theorem dX9_mayTake_20 : decode cX9_mayTake 20 = .ok (.goto 4, 3) := by decide +kernel
theorem dX9_mayTake_23 : decode cX9_mayTake 23 = .ok (.iconst 0, 1) := by decide +kernel
theorem dX9_mayTake_24 : decode cX9_mayTake 24 = .ok (.ireturn, 1) := by decide +kernel
