theorem dX9_lacksOf_229 : decode cX9_lacksOf 229 = .ok (.iconst 0, 1) := by decide +kernel
theorem dX9_lacksOf_230 : decode cX9_lacksOf 230 = .ok (.istore 6, 2) := by decide +kernel
theorem dX9_lacksOf_232 : decode cX9_lacksOf 232 = .ok (.iload 6, 2) := by decide +kernel
theorem dX9_lacksOf_234 : decode cX9_lacksOf 234 = .ok (.aload_n 0, 1) := by decide +kernel
theorem dX9_lacksOf_235 : decode cX9_lacksOf 235 = .ok (.getfield 148, 3) := by decide +kernel
theorem dX9_lacksOf_238 : decode cX9_lacksOf 238 = .ok (.if_icmp .ge 65, 3) := by decide +kernel
theorem dX9_lacksOf_241 : decode cX9_lacksOf 241 = .ok (.aload_n 0, 1) := by decide +kernel
theorem dX9_lacksOf_242 : decode cX9_lacksOf 242 = .ok (.iload 6, 2) := by decide +kernel
theorem dX9_lacksOf_244 : decode cX9_lacksOf 244 = .ok (.invokevirtual 155, 3) := by decide +kernel
theorem dX9_lacksOf_247 : decode cX9_lacksOf 247 = .ok (.iload_n 1, 1) := by decide +kernel
theorem dX9_lacksOf_248 : decode cX9_lacksOf 248 = .ok (.if_icmp .eq 6, 3) := by decide +kernel
theorem dX9_lacksOf_251 : decode cX9_lacksOf 251 = .ok (.goto 46, 3) := by decide +kernel
theorem dX9_lacksOf_254 : decode cX9_lacksOf 254 = .ok (.aload_n 0, 1) := by decide +kernel
theorem dX9_lacksOf_255 : decode cX9_lacksOf 255 = .ok (.getfield 50, 3) := by decide +kernel
theorem dX9_lacksOf_258 : decode cX9_lacksOf 258 = .ok (.iload 6, 2) := by decide +kernel
theorem dX9_lacksOf_260 : decode cX9_lacksOf 260 = .ok (.iaload, 1) := by decide +kernel
theorem dX9_lacksOf_261 : decode cX9_lacksOf 261 = .ok (.iconst 2, 1) := by decide +kernel
theorem dX9_lacksOf_262 : decode cX9_lacksOf 262 = .ok (.if_icmp .ne 15, 3) := by decide +kernel
theorem dX9_lacksOf_265 : decode cX9_lacksOf 265 = .ok (.iload_n 3, 1) := by decide +kernel
theorem dX9_lacksOf_266 : decode cX9_lacksOf 266 = .ok (.aload_n 0, 1) := by decide +kernel
theorem dX9_lacksOf_267 : decode cX9_lacksOf 267 = .ok (.iload 6, 2) := by decide +kernel
theorem dX9_lacksOf_269 : decode cX9_lacksOf 269 = .ok (.invokevirtual 158, 3) := by decide +kernel
theorem dX9_lacksOf_272 : decode cX9_lacksOf 272 = .ok (.iadd, 1) := by decide +kernel
theorem dX9_lacksOf_273 : decode cX9_lacksOf 273 = .ok (.istore_n 3, 1) := by decide +kernel
theorem dX9_lacksOf_274 : decode cX9_lacksOf 274 = .ok (.goto 23, 3) := by decide +kernel
theorem dX9_lacksOf_277 : decode cX9_lacksOf 277 = .ok (.aload_n 0, 1) := by decide +kernel
theorem dX9_lacksOf_278 : decode cX9_lacksOf 278 = .ok (.getfield 50, 3) := by decide +kernel
theorem dX9_lacksOf_281 : decode cX9_lacksOf 281 = .ok (.iload 6, 2) := by decide +kernel
theorem dX9_lacksOf_283 : decode cX9_lacksOf 283 = .ok (.iaload, 1) := by decide +kernel
theorem dX9_lacksOf_284 : decode cX9_lacksOf 284 = .ok (.iconst 3, 1) := by decide +kernel
theorem dX9_lacksOf_285 : decode cX9_lacksOf 285 = .ok (.if_icmp .eq 12, 3) := by decide +kernel
theorem dX9_lacksOf_288 : decode cX9_lacksOf 288 = .ok (.iload_n 2, 1) := by decide +kernel
theorem dX9_lacksOf_289 : decode cX9_lacksOf 289 = .ok (.aload_n 0, 1) := by decide +kernel
theorem dX9_lacksOf_290 : decode cX9_lacksOf 290 = .ok (.iload 6, 2) := by decide +kernel
theorem dX9_lacksOf_292 : decode cX9_lacksOf 292 = .ok (.invokevirtual 158, 3) := by decide +kernel
theorem dX9_lacksOf_295 : decode cX9_lacksOf 295 = .ok (.iadd, 1) := by decide +kernel
theorem dX9_lacksOf_296 : decode cX9_lacksOf 296 = .ok (.istore_n 2, 1) := by decide +kernel
theorem dX9_lacksOf_297 : decode cX9_lacksOf 297 = .ok (.iinc 6 1, 3) := by decide +kernel
theorem dX9_lacksOf_300 : decode cX9_lacksOf 300 = .ok (.goto (-68), 3) := by decide +kernel
theorem dX9_lacksOf_303 : decode cX9_lacksOf 303 = .ok (.iload 5, 2) := by decide +kernel
theorem dX9_lacksOf_305 : decode cX9_lacksOf 305 = .ok (.iconst 0, 1) := by decide +kernel
theorem dX9_lacksOf_306 : decode cX9_lacksOf 306 = .ok (.iload 4, 2) := by decide +kernel
theorem dX9_lacksOf_308 : decode cX9_lacksOf 308 = .ok (.iload_n 3, 1) := by decide +kernel
theorem dX9_lacksOf_309 : decode cX9_lacksOf 309 = .ok (.isub, 1) := by decide +kernel
theorem dX9_lacksOf_310 : decode cX9_lacksOf 310 = .ok (.invokestatic 179, 3) := by decide +kernel
theorem dX9_lacksOf_313 : decode cX9_lacksOf 313 = .ok (.iadd, 1) := by decide +kernel
theorem dX9_lacksOf_314 : decode cX9_lacksOf 314 = .ok (.iload_n 2, 1) := by decide +kernel
theorem dX9_lacksOf_315 : decode cX9_lacksOf 315 = .ok (.isub, 1) := by decide +kernel
theorem dX9_lacksOf_316 : decode cX9_lacksOf 316 = .ok (.istore 6, 2) := by decide +kernel
theorem dX9_lacksOf_318 : decode cX9_lacksOf 318 = .ok (.iconst 0, 1) := by decide +kernel
theorem dX9_lacksOf_319 : decode cX9_lacksOf 319 = .ok (.iload 6, 2) := by decide +kernel
theorem dX9_lacksOf_321 : decode cX9_lacksOf 321 = .ok (.invokestatic 179, 3) := by decide +kernel
theorem dX9_lacksOf_324 : decode cX9_lacksOf 324 = .ok (.ireturn, 1) := by decide +kernel
theorem dX9_rests_0 : decode cX9_rests 0 = .ok (.aload_n 0, 1) := by decide +kernel
theorem dX9_rests_1 : decode cX9_rests 1 = .ok (.getfield 141, 3) := by decide +kernel
theorem dX9_rests_4 : decode cX9_rests 4 = .ok (.aload_n 0, 1) := by decide +kernel
theorem dX9_rests_5 : decode cX9_rests 5 = .ok (.getfield 22, 3) := by decide +kernel
theorem dX9_rests_8 : decode cX9_rests 8 = .ok (.iload_n 1, 1) := by decide +kernel
theorem dX9_rests_9 : decode cX9_rests 9 = .ok (.iaload, 1) := by decide +kernel
theorem dX9_rests_10 : decode cX9_rests 10 = .ok (.if_icmp .gt 7, 3) := by decide +kernel
theorem dX9_rests_13 : decode cX9_rests 13 = .ok (.iconst 1, 1) := by decide +kernel
theorem dX9_rests_14 : decode cX9_rests 14 = .ok (.goto 4, 3) := by decide +kernel
theorem dX9_rests_17 : decode cX9_rests 17 = .ok (.iconst 0, 1) := by decide +kernel
theorem dX9_rests_18 : decode cX9_rests 18 = .ok (.ireturn, 1) := by decide +kernel
theorem dX9_put_0 : decode cX9_put 0 = .ok (.iload_n 1, 1) := by decide +kernel
theorem dX9_put_1 : decode cX9_put 1 = .ok (.aload_n 0, 1) := by decide +kernel
theorem dX9_put_2 : decode cX9_put 2 = .ok (.getfield 164, 3) := by decide +kernel
theorem dX9_put_5 : decode cX9_put 5 = .ok (.invokestatic 134, 3) := by decide +kernel
theorem dX9_put_8 : decode cX9_put 8 = .ok (.ifCond .eq 14, 3) := by decide +kernel
theorem dX9_put_11 : decode cX9_put 11 = .ok (.iload_n 2, 1) := by decide +kernel
theorem dX9_put_12 : decode cX9_put 12 = .ok (.aload_n 0, 1) := by decide +kernel
theorem dX9_put_13 : decode cX9_put 13 = .ok (.getfield 127, 3) := by decide +kernel
theorem dX9_put_16 : decode cX9_put 16 = .ok (.invokestatic 134, 3) := by decide +kernel
theorem dX9_put_19 : decode cX9_put 19 = .ok (.ifCond .ne 9, 3) := by decide +kernel
theorem dX9_put_22 : decode cX9_put 22 = .ok (.aload_n 0, 1) := by decide +kernel
theorem dX9_put_23 : decode cX9_put 23 = .ok (.iconst (-1), 1) := by decide +kernel
theorem dX9_put_24 : decode cX9_put 24 = .ok (.invokevirtual 122, 3) := by decide +kernel
theorem dX9_put_27 : decode cX9_put 27 = .ok (.ireturn, 1) := by decide +kernel
theorem dX9_put_28 : decode cX9_put 28 = .ok (.aload_n 0, 1) := by decide +kernel
theorem dX9_put_29 : decode cX9_put 29 = .ok (.getfield 98, 3) := by decide +kernel
theorem dX9_put_32 : decode cX9_put 32 = .ok (.iload_n 1, 1) := by decide +kernel
theorem dX9_put_33 : decode cX9_put 33 = .ok (.iaload, 1) := by decide +kernel
theorem dX9_put_34 : decode cX9_put 34 = .ok (.ifCond .ne 20, 3) := by decide +kernel
theorem dX9_put_37 : decode cX9_put 37 = .ok (.aload_n 0, 1) := by decide +kernel
theorem dX9_put_38 : decode cX9_put 38 = .ok (.getfield 89, 3) := by decide +kernel
theorem dX9_put_41 : decode cX9_put 41 = .ok (.iload_n 1, 1) := by decide +kernel
theorem dX9_put_42 : decode cX9_put 42 = .ok (.iaload, 1) := by decide +kernel
theorem dX9_put_43 : decode cX9_put 43 = .ok (.ifCond .ge 11, 3) := by decide +kernel
theorem dX9_put_46 : decode cX9_put 46 = .ok (.aload_n 0, 1) := by decide +kernel
theorem dX9_put_47 : decode cX9_put 47 = .ok (.iload_n 2, 1) := by decide +kernel
theorem dX9_put_48 : decode cX9_put 48 = .ok (.invokevirtual 182, 3) := by decide +kernel
theorem dX9_put_51 : decode cX9_put 51 = .ok (.ifCond .eq 10, 3) := by decide +kernel
theorem dX9_put_54 : decode cX9_put 54 = .ok (.aload_n 0, 1) := by decide +kernel
theorem dX9_put_55 : decode cX9_put 55 = .ok (.bipush (-3), 2) := by decide +kernel
theorem dX9_put_57 : decode cX9_put 57 = .ok (.invokevirtual 122, 3) := by decide +kernel
theorem dX9_put_60 : decode cX9_put 60 = .ok (.ireturn, 1) := by decide +kernel
theorem dX9_put_61 : decode cX9_put 61 = .ok (.aload_n 0, 1) := by decide +kernel
theorem dX9_put_62 : decode cX9_put 62 = .ok (.getfield 89, 3) := by decide +kernel
theorem dX9_put_65 : decode cX9_put 65 = .ok (.iload_n 1, 1) := by decide +kernel
theorem dX9_put_66 : decode cX9_put 66 = .ok (.iload_n 2, 1) := by decide +kernel
theorem dX9_put_67 : decode cX9_put 67 = .ok (.iastore, 1) := by decide +kernel
theorem dX9_put_68 : decode cX9_put 68 = .ok (.aload_n 0, 1) := by decide +kernel
theorem dX9_put_69 : decode cX9_put 69 = .ok (.aload_n 0, 1) := by decide +kernel
theorem dX9_put_70 : decode cX9_put 70 = .ok (.getfield 80, 3) := by decide +kernel
theorem dX9_put_73 : decode cX9_put 73 = .ok (.iload_n 1, 1) := by decide +kernel
theorem dX9_put_74 : decode cX9_put 74 = .ok (.iaload, 1) := by decide +kernel
theorem dX9_put_75 : decode cX9_put 75 = .ok (.invokevirtual 185, 3) := by decide +kernel
theorem dX9_put_78 : decode cX9_put 78 = .ok (.ifCond .le 17, 3) := by decide +kernel
theorem dX9_put_81 : decode cX9_put 81 = .ok (.aload_n 0, 1) := by decide +kernel
theorem dX9_put_82 : decode cX9_put 82 = .ok (.getfield 89, 3) := by decide +kernel
theorem dX9_put_85 : decode cX9_put 85 = .ok (.iload_n 1, 1) := by decide +kernel
theorem dX9_put_86 : decode cX9_put 86 = .ok (.iconst (-1), 1) := by decide +kernel
theorem dX9_put_87 : decode cX9_put 87 = .ok (.iastore, 1) := by decide +kernel
theorem dX9_put_88 : decode cX9_put 88 = .ok (.aload_n 0, 1) := by decide +kernel
theorem dX9_put_89 : decode cX9_put 89 = .ok (.bipush (-5), 2) := by decide +kernel
theorem dX9_put_91 : decode cX9_put 91 = .ok (.invokevirtual 122, 3) := by decide +kernel
theorem dX9_put_94 : decode cX9_put 94 = .ok (.ireturn, 1) := by decide +kernel
theorem dX9_put_95 : decode cX9_put 95 = .ok (.aload_n 0, 1) := by decide +kernel
theorem dX9_put_96 : decode cX9_put 96 = .ok (.getfield 92, 3) := by decide +kernel
theorem dX9_put_99 : decode cX9_put 99 = .ok (.iload_n 1, 1) := by decide +kernel
theorem dX9_put_100 : decode cX9_put 100 = .ok (.aload_n 0, 1) := by decide +kernel
theorem dX9_put_101 : decode cX9_put 101 = .ok (.getfield 188, 3) := by decide +kernel
theorem dX9_put_104 : decode cX9_put 104 = .ok (.iastore, 1) := by decide +kernel
theorem dX9_put_105 : decode cX9_put 105 = .ok (.aload_n 0, 1) := by decide +kernel
theorem dX9_put_106 : decode cX9_put 106 = .ok (.dup, 1) := by decide +kernel
theorem dX9_put_107 : decode cX9_put 107 = .ok (.getfield 188, 3) := by decide +kernel
theorem dX9_put_110 : decode cX9_put 110 = .ok (.iconst 1, 1) := by decide +kernel
theorem dX9_put_111 : decode cX9_put 111 = .ok (.iadd, 1) := by decide +kernel
theorem dX9_put_112 : decode cX9_put 112 = .ok (.putfield 188, 3) := by decide +kernel
theorem dX9_put_115 : decode cX9_put 115 = .ok (.iconst 1, 1) := by decide +kernel
theorem dX9_put_116 : decode cX9_put 116 = .ok (.ireturn, 1) := by decide +kernel
theorem dX9_drive_0 : decode cX9_drive 0 = .ok (.iload_n 1, 1) := by decide +kernel
theorem dX9_drive_1 : decode cX9_drive 1 = .ok (.aload_n 0, 1) := by decide +kernel
theorem dX9_drive_2 : decode cX9_drive 2 = .ok (.getfield 164, 3) := by decide +kernel
theorem dX9_drive_5 : decode cX9_drive 5 = .ok (.invokestatic 134, 3) := by decide +kernel
theorem dX9_drive_8 : decode cX9_drive 8 = .ok (.ifCond .eq 19, 3) := by decide +kernel
theorem dX9_drive_11 : decode cX9_drive 11 = .ok (.iload_n 2, 1) := by decide +kernel
theorem dX9_drive_12 : decode cX9_drive 12 = .ok (.iconst (-1), 1) := by decide +kernel
theorem dX9_drive_13 : decode cX9_drive 13 = .ok (.if_icmp .eq 20, 3) := by decide +kernel
theorem dX9_drive_16 : decode cX9_drive 16 = .ok (.iload_n 2, 1) := by decide +kernel
theorem dX9_drive_17 : decode cX9_drive 17 = .ok (.aload_n 0, 1) := by decide +kernel
theorem dX9_drive_18 : decode cX9_drive 18 = .ok (.getfield 127, 3) := by decide +kernel
theorem dX9_drive_21 : decode cX9_drive 21 = .ok (.invokestatic 134, 3) := by decide +kernel
theorem dX9_drive_24 : decode cX9_drive 24 = .ok (.ifCond .ne 9, 3) := by decide +kernel
theorem dX9_drive_27 : decode cX9_drive 27 = .ok (.aload_n 0, 1) := by decide +kernel
theorem dX9_drive_28 : decode cX9_drive 28 = .ok (.iconst (-1), 1) := by decide +kernel
theorem dX9_drive_29 : decode cX9_drive 29 = .ok (.invokevirtual 122, 3) := by decide +kernel
theorem dX9_drive_32 : decode cX9_drive 32 = .ok (.ireturn, 1) := by decide +kernel
theorem dX9_drive_33 : decode cX9_drive 33 = .ok (.aload_n 0, 1) := by decide +kernel
theorem dX9_drive_34 : decode cX9_drive 34 = .ok (.getfield 98, 3) := by decide +kernel
theorem dX9_drive_37 : decode cX9_drive 37 = .ok (.iload_n 1, 1) := by decide +kernel
theorem dX9_drive_38 : decode cX9_drive 38 = .ok (.iaload, 1) := by decide +kernel
theorem dX9_drive_39 : decode cX9_drive 39 = .ok (.ifCond .ne 34, 3) := by decide +kernel
theorem dX9_drive_42 : decode cX9_drive 42 = .ok (.aload_n 0, 1) := by decide +kernel
theorem dX9_drive_43 : decode cX9_drive 43 = .ok (.getfield 89, 3) := by decide +kernel
theorem dX9_drive_46 : decode cX9_drive 46 = .ok (.iload_n 1, 1) := by decide +kernel
theorem dX9_drive_47 : decode cX9_drive 47 = .ok (.iaload, 1) := by decide +kernel
theorem dX9_drive_48 : decode cX9_drive 48 = .ok (.ifCond .lt 25, 3) := by decide +kernel
theorem dX9_drive_51 : decode cX9_drive 51 = .ok (.iload_n 2, 1) := by decide +kernel
theorem dX9_drive_52 : decode cX9_drive 52 = .ok (.ifCond .lt 28, 3) := by decide +kernel
theorem dX9_drive_55 : decode cX9_drive 55 = .ok (.aload_n 0, 1) := by decide +kernel
theorem dX9_drive_56 : decode cX9_drive 56 = .ok (.iload_n 2, 1) := by decide +kernel
theorem dX9_drive_57 : decode cX9_drive 57 = .ok (.invokevirtual 182, 3) := by decide +kernel
theorem dX9_drive_60 : decode cX9_drive 60 = .ok (.ifCond .ne 13, 3) := by decide +kernel
theorem dX9_drive_63 : decode cX9_drive 63 = .ok (.aload_n 0, 1) := by decide +kernel
theorem dX9_drive_64 : decode cX9_drive 64 = .ok (.getfield 89, 3) := by decide +kernel
theorem dX9_drive_67 : decode cX9_drive 67 = .ok (.iload_n 1, 1) := by decide +kernel
theorem dX9_drive_68 : decode cX9_drive 68 = .ok (.iaload, 1) := by decide +kernel
theorem dX9_drive_69 : decode cX9_drive 69 = .ok (.iload_n 2, 1) := by decide +kernel
theorem dX9_drive_70 : decode cX9_drive 70 = .ok (.if_icmp .ne 10, 3) := by decide +kernel
theorem dX9_drive_73 : decode cX9_drive 73 = .ok (.aload_n 0, 1) := by decide +kernel
theorem dX9_drive_74 : decode cX9_drive 74 = .ok (.bipush (-3), 2) := by decide +kernel
theorem dX9_drive_76 : decode cX9_drive 76 = .ok (.invokevirtual 122, 3) := by decide +kernel
theorem dX9_drive_79 : decode cX9_drive 79 = .ok (.ireturn, 1) := by decide +kernel
theorem dX9_drive_80 : decode cX9_drive 80 = .ok (.aload_n 0, 1) := by decide +kernel
theorem dX9_drive_81 : decode cX9_drive 81 = .ok (.getfield 89, 3) := by decide +kernel
theorem dX9_drive_84 : decode cX9_drive 84 = .ok (.iload_n 1, 1) := by decide +kernel
theorem dX9_drive_85 : decode cX9_drive 85 = .ok (.iaload, 1) := by decide +kernel
theorem dX9_drive_86 : decode cX9_drive 86 = .ok (.istore_n 3, 1) := by decide +kernel
theorem dX9_drive_87 : decode cX9_drive 87 = .ok (.aload_n 0, 1) := by decide +kernel
theorem dX9_drive_88 : decode cX9_drive 88 = .ok (.getfield 89, 3) := by decide +kernel
theorem dX9_drive_91 : decode cX9_drive 91 = .ok (.iload_n 1, 1) := by decide +kernel
theorem dX9_drive_92 : decode cX9_drive 92 = .ok (.iload_n 2, 1) := by decide +kernel
theorem dX9_drive_93 : decode cX9_drive 93 = .ok (.iastore, 1) := by decide +kernel
theorem dX9_drive_94 : decode cX9_drive 94 = .ok (.iload_n 2, 1) := by decide +kernel
theorem dX9_drive_95 : decode cX9_drive 95 = .ok (.ifCond .lt 23, 3) := by decide +kernel
theorem dX9_drive_98 : decode cX9_drive 98 = .ok (.aload_n 0, 1) := by decide +kernel
theorem dX9_drive_99 : decode cX9_drive 99 = .ok (.getfield 92, 3) := by decide +kernel
theorem dX9_drive_102 : decode cX9_drive 102 = .ok (.iload_n 1, 1) := by decide +kernel
theorem dX9_drive_103 : decode cX9_drive 103 = .ok (.aload_n 0, 1) := by decide +kernel
theorem dX9_drive_104 : decode cX9_drive 104 = .ok (.getfield 188, 3) := by decide +kernel
theorem dX9_drive_107 : decode cX9_drive 107 = .ok (.iastore, 1) := by decide +kernel
theorem dX9_drive_108 : decode cX9_drive 108 = .ok (.aload_n 0, 1) := by decide +kernel
theorem dX9_drive_109 : decode cX9_drive 109 = .ok (.dup, 1) := by decide +kernel
theorem dX9_drive_110 : decode cX9_drive 110 = .ok (.getfield 188, 3) := by decide +kernel
theorem dX9_drive_113 : decode cX9_drive 113 = .ok (.iconst 1, 1) := by decide +kernel
theorem dX9_drive_114 : decode cX9_drive 114 = .ok (.iadd, 1) := by decide +kernel
theorem dX9_drive_115 : decode cX9_drive 115 = .ok (.putfield 188, 3) := by decide +kernel
theorem dX9_drive_118 : decode cX9_drive 118 = .ok (.iload_n 3, 1) := by decide +kernel
theorem dX9_drive_119 : decode cX9_drive 119 = .ok (.ireturn, 1) := by decide +kernel
theorem dX9_covered_0 : decode cX9_covered 0 = .ok (.iload_n 1, 1) := by decide +kernel
theorem dX9_covered_1 : decode cX9_covered 1 = .ok (.aload_n 0, 1) := by decide +kernel
theorem dX9_covered_2 : decode cX9_covered 2 = .ok (.getfield 131, 3) := by decide +kernel
theorem dX9_covered_5 : decode cX9_covered 5 = .ok (.invokestatic 134, 3) := by decide +kernel
theorem dX9_covered_8 : decode cX9_covered 8 = .ok (.ifCond .eq 19, 3) := by decide +kernel
theorem dX9_covered_11 : decode cX9_covered 11 = .ok (.aload_n 0, 1) := by decide +kernel
theorem dX9_covered_12 : decode cX9_covered 12 = .ok (.iload_n 1, 1) := by decide +kernel
theorem dX9_covered_13 : decode cX9_covered 13 = .ok (.invokevirtual 185, 3) := by decide +kernel
theorem dX9_covered_16 : decode cX9_covered 16 = .ok (.ifCond .ne 7, 3) := by decide +kernel
theorem dX9_covered_19 : decode cX9_covered 19 = .ok (.iconst 1, 1) := by decide +kernel
theorem dX9_covered_20 : decode cX9_covered 20 = .ok (.goto 12, 3) := by decide +kernel
theorem dX9_covered_23 : decode cX9_covered 23 = .ok (.iconst 0, 1) := by decide +kernel
theorem dX9_covered_24 : decode cX9_covered 24 = .ok (.goto 8, 3) := by decide +kernel
theorem dX9_covered_27 : decode cX9_covered 27 = .ok (.aload_n 0, 1) := by decide +kernel
theorem dX9_covered_28 : decode cX9_covered 28 = .ok (.iconst (-1), 1) := by decide +kernel
theorem dX9_covered_29 : decode cX9_covered 29 = .ok (.invokevirtual 122, 3) := by decide +kernel
theorem dX9_covered_32 : decode cX9_covered 32 = .ok (.ireturn, 1) := by decide +kernel
theorem dX9_lacks_0 : decode cX9_lacks 0 = .ok (.iload_n 1, 1) := by decide +kernel
theorem dX9_lacks_1 : decode cX9_lacks 1 = .ok (.aload_n 0, 1) := by decide +kernel
theorem dX9_lacks_2 : decode cX9_lacks 2 = .ok (.getfield 131, 3) := by decide +kernel
theorem dX9_lacks_5 : decode cX9_lacks 5 = .ok (.invokestatic 134, 3) := by decide +kernel
theorem dX9_lacks_8 : decode cX9_lacks 8 = .ok (.ifCond .eq 11, 3) := by decide +kernel
theorem dX9_lacks_11 : decode cX9_lacks 11 = .ok (.aload_n 0, 1) := by decide +kernel
theorem dX9_lacks_12 : decode cX9_lacks 12 = .ok (.iload_n 1, 1) := by decide +kernel
theorem dX9_lacks_13 : decode cX9_lacks 13 = .ok (.invokevirtual 185, 3) := by decide +kernel
theorem dX9_lacks_16 : decode cX9_lacks 16 = .ok (.goto 8, 3) := by decide +kernel
theorem dX9_lacks_19 : decode cX9_lacks 19 = .ok (.aload_n 0, 1) := by decide +kernel
theorem dX9_lacks_20 : decode cX9_lacks 20 = .ok (.iconst (-1), 1) := by decide +kernel
theorem dX9_lacks_21 : decode cX9_lacks 21 = .ok (.invokevirtual 122, 3) := by decide +kernel
theorem dX9_lacks_24 : decode cX9_lacks 24 = .ok (.ireturn, 1) := by decide +kernel
theorem dX9_partsOn_0 : decode cX9_partsOn 0 = .ok (.iconst 0, 1) := by decide +kernel
theorem dX9_partsOn_1 : decode cX9_partsOn 1 = .ok (.istore_n 2, 1) := by decide +kernel
theorem dX9_partsOn_2 : decode cX9_partsOn 2 = .ok (.iconst 0, 1) := by decide +kernel
theorem dX9_partsOn_3 : decode cX9_partsOn 3 = .ok (.istore_n 3, 1) := by decide +kernel
theorem dX9_partsOn_4 : decode cX9_partsOn 4 = .ok (.iload_n 3, 1) := by decide +kernel
theorem dX9_partsOn_5 : decode cX9_partsOn 5 = .ok (.aload_n 0, 1) := by decide +kernel
theorem dX9_partsOn_6 : decode cX9_partsOn 6 = .ok (.getfield 164, 3) := by decide +kernel
theorem dX9_partsOn_9 : decode cX9_partsOn 9 = .ok (.if_icmp .ge 39, 3) := by decide +kernel
theorem dX9_partsOn_12 : decode cX9_partsOn 12 = .ok (.iload_n 2, 1) := by decide +kernel
theorem dX9_partsOn_13 : decode cX9_partsOn 13 = .ok (.aload_n 0, 1) := by decide +kernel
theorem dX9_partsOn_14 : decode cX9_partsOn 14 = .ok (.iload_n 3, 1) := by decide +kernel
theorem dX9_partsOn_15 : decode cX9_partsOn 15 = .ok (.invokevirtual 167, 3) := by decide +kernel
theorem dX9_partsOn_18 : decode cX9_partsOn 18 = .ok (.ifCond .eq 21, 3) := by decide +kernel
theorem dX9_partsOn_21 : decode cX9_partsOn 21 = .ok (.aload_n 0, 1) := by decide +kernel
theorem dX9_partsOn_22 : decode cX9_partsOn 22 = .ok (.getfield 89, 3) := by decide +kernel
theorem dX9_partsOn_25 : decode cX9_partsOn 25 = .ok (.iload_n 3, 1) := by decide +kernel
theorem dX9_partsOn_26 : decode cX9_partsOn 26 = .ok (.iaload, 1) := by decide +kernel
theorem dX9_partsOn_27 : decode cX9_partsOn 27 = .ok (.iload_n 1, 1) := by decide +kernel
theorem dX9_partsOn_28 : decode cX9_partsOn 28 = .ok (.if_icmp .ne 11, 3) := by decide +kernel
theorem dX9_partsOn_31 : decode cX9_partsOn 31 = .ok (.aload_n 0, 1) := by decide +kernel
