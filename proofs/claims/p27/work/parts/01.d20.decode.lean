theorem dX9_plan_377 : decode cX9_plan 377 = .ok (.iinc 12 1, 3) := by decide +kernel
theorem dX9_plan_380 : decode cX9_plan 380 = .ok (.goto (-24), 3) := by decide +kernel
theorem dX9_plan_383 : decode cX9_plan 383 = .ok (.iload 7, 2) := by decide +kernel
theorem dX9_plan_385 : decode cX9_plan 385 = .ok (.iconst 1, 1) := by decide +kernel
theorem dX9_plan_386 : decode cX9_plan 386 = .ok (.isub, 1) := by decide +kernel
theorem dX9_plan_387 : decode cX9_plan 387 = .ok (.istore 12, 2) := by decide +kernel
theorem dX9_plan_389 : decode cX9_plan 389 = .ok (.iload 12, 2) := by decide +kernel
theorem dX9_plan_391 : decode cX9_plan 391 = .ok (.ifCond .lt 33, 3) := by decide +kernel
theorem dX9_plan_394 : decode cX9_plan 394 = .ok (.aload_n 0, 1) := by decide +kernel
theorem dX9_plan_395 : decode cX9_plan 395 = .ok (.getfield 116, 3) := by decide +kernel
theorem dX9_plan_398 : decode cX9_plan 398 = .ok (.iload 12, 2) := by decide +kernel
theorem dX9_plan_400 : decode cX9_plan 400 = .ok (.iaload, 1) := by decide +kernel
theorem dX9_plan_401 : decode cX9_plan 401 = .ok (.aload_n 0, 1) := by decide +kernel
theorem dX9_plan_402 : decode cX9_plan 402 = .ok (.getfield 127, 3) := by decide +kernel
theorem dX9_plan_405 : decode cX9_plan 405 = .ok (.iconst 1, 1) := by decide +kernel
theorem dX9_plan_406 : decode cX9_plan 406 = .ok (.isub, 1) := by decide +kernel
theorem dX9_plan_407 : decode cX9_plan 407 = .ok (.if_icmp .ne 17, 3) := by decide +kernel
theorem dX9_plan_410 : decode cX9_plan 410 = .ok (.aload_n 0, 1) := by decide +kernel
theorem dX9_plan_411 : decode cX9_plan 411 = .ok (.getfield 116, 3) := by decide +kernel
theorem dX9_plan_414 : decode cX9_plan 414 = .ok (.iload 12, 2) := by decide +kernel
theorem dX9_plan_416 : decode cX9_plan 416 = .ok (.iconst 0, 1) := by decide +kernel
theorem dX9_plan_417 : decode cX9_plan 417 = .ok (.iastore, 1) := by decide +kernel
theorem dX9_plan_418 : decode cX9_plan 418 = .ok (.iinc 12 (-1), 3) := by decide +kernel
theorem dX9_plan_421 : decode cX9_plan 421 = .ok (.goto (-32), 3) := by decide +kernel
theorem dX9_plan_424 : decode cX9_plan 424 = .ok (.iload 12, 2) := by decide +kernel
theorem dX9_plan_426 : decode cX9_plan 426 = .ok (.ifCond .lt 7, 3) := by decide +kernel
theorem dX9_plan_429 : decode cX9_plan 429 = .ok (.iconst 1, 1) := by decide +kernel
theorem dX9_plan_430 : decode cX9_plan 430 = .ok (.goto 4, 3) := by decide +kernel
theorem dX9_plan_433 : decode cX9_plan 433 = .ok (.iconst 0, 1) := by decide +kernel
theorem dX9_plan_434 : decode cX9_plan 434 = .ok (.istore 9, 2) := by decide +kernel
theorem dX9_plan_436 : decode cX9_plan 436 = .ok (.iload 9, 2) := by decide +kernel
theorem dX9_plan_438 : decode cX9_plan 438 = .ok (.ifCond .eq 14, 3) := by decide +kernel
theorem dX9_plan_441 : decode cX9_plan 441 = .ok (.aload_n 0, 1) := by decide +kernel
theorem dX9_plan_442 : decode cX9_plan 442 = .ok (.getfield 116, 3) := by decide +kernel
theorem dX9_plan_445 : decode cX9_plan 445 = .ok (.iload 12, 2) := by decide +kernel
theorem dX9_plan_447 : decode cX9_plan 447 = .ok (.dup2, 1) := by decide +kernel
theorem dX9_plan_448 : decode cX9_plan 448 = .ok (.iaload, 1) := by decide +kernel
theorem dX9_plan_449 : decode cX9_plan 449 = .ok (.iconst 1, 1) := by decide +kernel
theorem dX9_plan_450 : decode cX9_plan 450 = .ok (.iadd, 1) := by decide +kernel
theorem dX9_plan_451 : decode cX9_plan 451 = .ok (.iastore, 1) := by decide +kernel
theorem dX9_plan_452 : decode cX9_plan 452 = .ok (.goto (-191), 3) := by decide +kernel
theorem dX9_plan_455 : decode cX9_plan 455 = .ok (.aload_n 0, 1) := by decide +kernel
theorem dX9_plan_456 : decode cX9_plan 456 = .ok (.iload_n 3, 1) := by decide +kernel
theorem dX9_plan_457 : decode cX9_plan 457 = .ok (.putfield 250, 3) := by decide +kernel
theorem dX9_plan_460 : decode cX9_plan 460 = .ok (.aload_n 0, 1) := by decide +kernel
theorem dX9_plan_461 : decode cX9_plan 461 = .ok (.iload 5, 2) := by decide +kernel
theorem dX9_plan_463 : decode cX9_plan 463 = .ok (.putfield 253, 3) := by decide +kernel
theorem dX9_plan_466 : decode cX9_plan 466 = .ok (.iload 8, 2) := by decide +kernel
theorem dX9_plan_468 : decode cX9_plan 468 = .ok (.ireturn, 1) := by decide +kernel
theorem dX9_tries_0 : decode cX9_tries 0 = .ok (.aload_n 0, 1) := by decide +kernel
theorem dX9_tries_1 : decode cX9_tries 1 = .ok (.invokevirtual 214, 3) := by decide +kernel
theorem dX9_tries_4 : decode cX9_tries 4 = .ok (.iconst 0, 1) := by decide +kernel
theorem dX9_tries_5 : decode cX9_tries 5 = .ok (.istore 6, 2) := by decide +kernel
theorem dX9_tries_7 : decode cX9_tries 7 = .ok (.iload 6, 2) := by decide +kernel
theorem dX9_tries_9 : decode cX9_tries 9 = .ok (.aload_n 0, 1) := by decide +kernel
theorem dX9_tries_10 : decode cX9_tries 10 = .ok (.getfield 127, 3) := by decide +kernel
theorem dX9_tries_13 : decode cX9_tries 13 = .ok (.if_icmp .ge 23, 3) := by decide +kernel
theorem dX9_tries_16 : decode cX9_tries 16 = .ok (.aload_n 0, 1) := by decide +kernel
theorem dX9_tries_17 : decode cX9_tries 17 = .ok (.getfield 107, 3) := by decide +kernel
theorem dX9_tries_20 : decode cX9_tries 20 = .ok (.iload 6, 2) := by decide +kernel
theorem dX9_tries_22 : decode cX9_tries 22 = .ok (.aload_n 0, 1) := by decide +kernel
theorem dX9_tries_23 : decode cX9_tries 23 = .ok (.getfield 13, 3) := by decide +kernel
theorem dX9_tries_26 : decode cX9_tries 26 = .ok (.iload 6, 2) := by decide +kernel
theorem dX9_tries_28 : decode cX9_tries 28 = .ok (.iaload, 1) := by decide +kernel
theorem dX9_tries_29 : decode cX9_tries 29 = .ok (.iastore, 1) := by decide +kernel
theorem dX9_tries_30 : decode cX9_tries 30 = .ok (.iinc 6 1, 3) := by decide +kernel
theorem dX9_tries_33 : decode cX9_tries 33 = .ok (.goto (-26), 3) := by decide +kernel
theorem dX9_tries_36 : decode cX9_tries 36 = .ok (.iconst 0, 1) := by decide +kernel
theorem dX9_tries_37 : decode cX9_tries 37 = .ok (.istore 6, 2) := by decide +kernel
theorem dX9_tries_39 : decode cX9_tries 39 = .ok (.iconst 0, 1) := by decide +kernel
theorem dX9_tries_40 : decode cX9_tries 40 = .ok (.istore 7, 2) := by decide +kernel
theorem dX9_tries_42 : decode cX9_tries 42 = .ok (.iload 7, 2) := by decide +kernel
theorem dX9_tries_44 : decode cX9_tries 44 = .ok (.iload 4, 2) := by decide +kernel
theorem dX9_tries_46 : decode cX9_tries 46 = .ok (.if_icmp .ge 120, 3) := by decide +kernel
theorem dX9_tries_49 : decode cX9_tries 49 = .ok (.aload_n 0, 1) := by decide +kernel
theorem dX9_tries_50 : decode cX9_tries 50 = .ok (.getfield 110, 3) := by decide +kernel
theorem dX9_tries_53 : decode cX9_tries 53 = .ok (.iload_n 1, 1) := by decide +kernel
theorem dX9_tries_54 : decode cX9_tries 54 = .ok (.aload_n 0, 1) := by decide +kernel
theorem dX9_tries_55 : decode cX9_tries 55 = .ok (.getfield 116, 3) := by decide +kernel
theorem dX9_tries_58 : decode cX9_tries 58 = .ok (.iload_n 3, 1) := by decide +kernel
theorem dX9_tries_59 : decode cX9_tries 59 = .ok (.iload 7, 2) := by decide +kernel
theorem dX9_tries_61 : decode cX9_tries 61 = .ok (.imul, 1) := by decide +kernel
theorem dX9_tries_62 : decode cX9_tries 62 = .ok (.iaload, 1) := by decide +kernel
theorem dX9_tries_63 : decode cX9_tries 63 = .ok (.iastore, 1) := by decide +kernel
theorem dX9_tries_64 : decode cX9_tries 64 = .ok (.iload_n 3, 1) := by decide +kernel
theorem dX9_tries_65 : decode cX9_tries 65 = .ok (.iconst 2, 1) := by decide +kernel
theorem dX9_tries_66 : decode cX9_tries 66 = .ok (.if_icmp .ne 20, 3) := by decide +kernel
theorem dX9_tries_69 : decode cX9_tries 69 = .ok (.aload_n 0, 1) := by decide +kernel
theorem dX9_tries_70 : decode cX9_tries 70 = .ok (.getfield 110, 3) := by decide +kernel
theorem dX9_tries_73 : decode cX9_tries 73 = .ok (.iload_n 2, 1) := by decide +kernel
theorem dX9_tries_74 : decode cX9_tries 74 = .ok (.aload_n 0, 1) := by decide +kernel
theorem dX9_tries_75 : decode cX9_tries 75 = .ok (.getfield 116, 3) := by decide +kernel
theorem dX9_tries_78 : decode cX9_tries 78 = .ok (.iload_n 3, 1) := by decide +kernel
theorem dX9_tries_79 : decode cX9_tries 79 = .ok (.iload 7, 2) := by decide +kernel
theorem dX9_tries_81 : decode cX9_tries 81 = .ok (.imul, 1) := by decide +kernel
theorem dX9_tries_82 : decode cX9_tries 82 = .ok (.iconst 1, 1) := by decide +kernel
theorem dX9_tries_83 : decode cX9_tries 83 = .ok (.iadd, 1) := by decide +kernel
theorem dX9_tries_84 : decode cX9_tries 84 = .ok (.iaload, 1) := by decide +kernel
theorem dX9_tries_85 : decode cX9_tries 85 = .ok (.iastore, 1) := by decide +kernel
theorem dX9_tries_86 : decode cX9_tries 86 = .ok (.iconst 0, 1) := by decide +kernel
theorem dX9_tries_87 : decode cX9_tries 87 = .ok (.istore 8, 2) := by decide +kernel
theorem dX9_tries_89 : decode cX9_tries 89 = .ok (.iload 8, 2) := by decide +kernel
theorem dX9_tries_91 : decode cX9_tries 91 = .ok (.iload 5, 2) := by decide +kernel
theorem dX9_tries_93 : decode cX9_tries 93 = .ok (.if_icmp .ge 67, 3) := by decide +kernel
theorem dX9_tries_96 : decode cX9_tries 96 = .ok (.aload_n 0, 1) := by decide +kernel
theorem dX9_tries_97 : decode cX9_tries 97 = .ok (.aload_n 0, 1) := by decide +kernel
theorem dX9_tries_98 : decode cX9_tries 98 = .ok (.getfield 107, 3) := by decide +kernel
theorem dX9_tries_101 : decode cX9_tries 101 = .ok (.aload_n 0, 1) := by decide +kernel
theorem dX9_tries_102 : decode cX9_tries 102 = .ok (.getfield 110, 3) := by decide +kernel
theorem dX9_tries_105 : decode cX9_tries 105 = .ok (.aload_n 0, 1) := by decide +kernel
theorem dX9_tries_106 : decode cX9_tries 106 = .ok (.getfield 141, 3) := by decide +kernel
theorem dX9_tries_109 : decode cX9_tries 109 = .ok (.iconst 1, 1) := by decide +kernel
theorem dX9_tries_110 : decode cX9_tries 110 = .ok (.iadd, 1) := by decide +kernel
theorem dX9_tries_111 : decode cX9_tries 111 = .ok (.iload 7, 2) := by decide +kernel
theorem dX9_tries_113 : decode cX9_tries 113 = .ok (.iload 5, 2) := by decide +kernel
theorem dX9_tries_115 : decode cX9_tries 115 = .ok (.imul, 1) := by decide +kernel
theorem dX9_tries_116 : decode cX9_tries 116 = .ok (.iadd, 1) := by decide +kernel
theorem dX9_tries_117 : decode cX9_tries 117 = .ok (.iload 8, 2) := by decide +kernel
theorem dX9_tries_119 : decode cX9_tries 119 = .ok (.iadd, 1) := by decide +kernel
theorem dX9_tries_120 : decode cX9_tries 120 = .ok (.aload_n 0, 1) := by decide +kernel
theorem dX9_tries_121 : decode cX9_tries 121 = .ok (.getfield 113, 3) := by decide +kernel
theorem dX9_tries_124 : decode cX9_tries 124 = .ok (.invokevirtual 217, 3) := by decide +kernel
theorem dX9_tries_127 : decode cX9_tries 127 = .ok (.iload 6, 2) := by decide +kernel
theorem dX9_tries_129 : decode cX9_tries 129 = .ok (.aload_n 0, 1) := by decide +kernel
theorem dX9_tries_130 : decode cX9_tries 130 = .ok (.getfield 104, 3) := by decide +kernel
theorem dX9_tries_133 : decode cX9_tries 133 = .ok (.iload_n 1, 1) := by decide +kernel
theorem dX9_tries_134 : decode cX9_tries 134 = .ok (.iaload, 1) := by decide +kernel
theorem dX9_tries_135 : decode cX9_tries 135 = .ok (.iload_n 3, 1) := by decide +kernel
theorem dX9_tries_136 : decode cX9_tries 136 = .ok (.iconst 2, 1) := by decide +kernel
theorem dX9_tries_137 : decode cX9_tries 137 = .ok (.if_icmp .ne 12, 3) := by decide +kernel
theorem dX9_tries_140 : decode cX9_tries 140 = .ok (.aload_n 0, 1) := by decide +kernel
theorem dX9_tries_141 : decode cX9_tries 141 = .ok (.getfield 104, 3) := by decide +kernel
theorem dX9_tries_144 : decode cX9_tries 144 = .ok (.iload_n 2, 1) := by decide +kernel
theorem dX9_tries_145 : decode cX9_tries 145 = .ok (.iaload, 1) := by decide +kernel
theorem dX9_tries_146 : decode cX9_tries 146 = .ok (.goto 4, 3) := by decide +kernel
theorem dX9_tries_149 : decode cX9_tries 149 = .ok (.iconst 0, 1) := by decide +kernel
theorem dX9_tries_150 : decode cX9_tries 150 = .ok (.iadd, 1) := by decide +kernel
theorem dX9_tries_151 : decode cX9_tries 151 = .ok (.iadd, 1) := by decide +kernel
theorem dX9_tries_152 : decode cX9_tries 152 = .ok (.istore 6, 2) := by decide +kernel
theorem dX9_tries_154 : decode cX9_tries 154 = .ok (.iinc 8 1, 3) := by decide +kernel
theorem dX9_tries_157 : decode cX9_tries 157 = .ok (.goto (-68), 3) := by decide +kernel
theorem dX9_tries_160 : decode cX9_tries 160 = .ok (.iinc 7 1, 3) := by decide +kernel
theorem dX9_tries_163 : decode cX9_tries 163 = .ok (.goto (-121), 3) := by decide +kernel
theorem dX9_tries_166 : decode cX9_tries 166 = .ok (.iload 6, 2) := by decide +kernel
theorem dX9_tries_168 : decode cX9_tries 168 = .ok (.ireturn, 1) := by decide +kernel
theorem dX9_planned_0 : decode cX9_planned 0 = .ok (.iload_n 1, 1) := by decide +kernel
theorem dX9_planned_1 : decode cX9_planned 1 = .ok (.aload_n 0, 1) := by decide +kernel
theorem dX9_planned_2 : decode cX9_planned 2 = .ok (.getfield 250, 3) := by decide +kernel
theorem dX9_planned_5 : decode cX9_planned 5 = .ok (.invokestatic 134, 3) := by decide +kernel
theorem dX9_planned_8 : decode cX9_planned 8 = .ok (.ifCond .eq 30, 3) := by decide +kernel
theorem dX9_planned_11 : decode cX9_planned 11 = .ok (.iload_n 2, 1) := by decide +kernel
theorem dX9_planned_12 : decode cX9_planned 12 = .ok (.aload_n 0, 1) := by decide +kernel
theorem dX9_planned_13 : decode cX9_planned 13 = .ok (.getfield 253, 3) := by decide +kernel
theorem dX9_planned_16 : decode cX9_planned 16 = .ok (.invokestatic 134, 3) := by decide +kernel
theorem dX9_planned_19 : decode cX9_planned 19 = .ok (.ifCond .eq 19, 3) := by decide +kernel
theorem dX9_planned_22 : decode cX9_planned 22 = .ok (.aload_n 0, 1) := by decide +kernel
theorem dX9_planned_23 : decode cX9_planned 23 = .ok (.getfield 119, 3) := by decide +kernel
theorem dX9_planned_26 : decode cX9_planned 26 = .ok (.aload_n 0, 1) := by decide +kernel
theorem dX9_planned_27 : decode cX9_planned 27 = .ok (.getfield 253, 3) := by decide +kernel
theorem dX9_planned_30 : decode cX9_planned 30 = .ok (.iload_n 1, 1) := by decide +kernel
theorem dX9_planned_31 : decode cX9_planned 31 = .ok (.imul, 1) := by decide +kernel
theorem dX9_planned_32 : decode cX9_planned 32 = .ok (.iload_n 2, 1) := by decide +kernel
theorem dX9_planned_33 : decode cX9_planned 33 = .ok (.iadd, 1) := by decide +kernel
theorem dX9_planned_34 : decode cX9_planned 34 = .ok (.iaload, 1) := by decide +kernel
theorem dX9_planned_35 : decode cX9_planned 35 = .ok (.goto 5, 3) := by decide +kernel
theorem dX9_planned_38 : decode cX9_planned 38 = .ok (.bipush (-9), 2) := by decide +kernel
theorem dX9_planned_40 : decode cX9_planned 40 = .ok (.ireturn, 1) := by decide +kernel
theorem dX9_pieceOf_0 : decode cX9_pieceOf 0 = .ok (.iload_n 1, 1) := by decide +kernel
theorem dX9_pieceOf_1 : decode cX9_pieceOf 1 = .ok (.aload_n 0, 1) := by decide +kernel
theorem dX9_pieceOf_2 : decode cX9_pieceOf 2 = .ok (.getfield 127, 3) := by decide +kernel
theorem dX9_pieceOf_5 : decode cX9_pieceOf 5 = .ok (.invokestatic 134, 3) := by decide +kernel
theorem dX9_pieceOf_8 : decode cX9_pieceOf 8 = .ok (.ifCond .ne 9, 3) := by decide +kernel
theorem dX9_pieceOf_11 : decode cX9_pieceOf 11 = .ok (.aload_n 0, 1) := by decide +kernel
theorem dX9_pieceOf_12 : decode cX9_pieceOf 12 = .ok (.iconst (-1), 1) := by decide +kernel
theorem dX9_pieceOf_13 : decode cX9_pieceOf 13 = .ok (.invokevirtual 122, 3) := by decide +kernel
theorem dX9_pieceOf_16 : decode cX9_pieceOf 16 = .ok (.ireturn, 1) := by decide +kernel
theorem dX9_pieceOf_17 : decode cX9_pieceOf 17 = .ok (.iconst 0, 1) := by decide +kernel
theorem dX9_pieceOf_18 : decode cX9_pieceOf 18 = .ok (.istore_n 3, 1) := by decide +kernel
theorem dX9_pieceOf_19 : decode cX9_pieceOf 19 = .ok (.iload_n 2, 1) := by decide +kernel
theorem dX9_pieceOf_20 : decode cX9_pieceOf 20 = .ok (.tableswitch 133 0 6 #[44, 51, 58, 65, 72, 78, 126], 44) := by decide +kernel
theorem dX9_pieceOf_64 : decode cX9_pieceOf 64 = .ok (.aload_n 0, 1) := by decide +kernel
theorem dX9_pieceOf_65 : decode cX9_pieceOf 65 = .ok (.getfield 13, 3) := by decide +kernel
theorem dX9_pieceOf_68 : decode cX9_pieceOf 68 = .ok (.iload_n 1, 1) := by decide +kernel
theorem dX9_pieceOf_69 : decode cX9_pieceOf 69 = .ok (.iaload, 1) := by decide +kernel
theorem dX9_pieceOf_70 : decode cX9_pieceOf 70 = .ok (.ireturn, 1) := by decide +kernel
theorem dX9_pieceOf_71 : decode cX9_pieceOf 71 = .ok (.aload_n 0, 1) := by decide +kernel
theorem dX9_pieceOf_72 : decode cX9_pieceOf 72 = .ok (.getfield 16, 3) := by decide +kernel
theorem dX9_pieceOf_75 : decode cX9_pieceOf 75 = .ok (.iload_n 1, 1) := by decide +kernel
theorem dX9_pieceOf_76 : decode cX9_pieceOf 76 = .ok (.iaload, 1) := by decide +kernel
theorem dX9_pieceOf_77 : decode cX9_pieceOf 77 = .ok (.ireturn, 1) := by decide +kernel
theorem dX9_pieceOf_78 : decode cX9_pieceOf 78 = .ok (.aload_n 0, 1) := by decide +kernel
theorem dX9_pieceOf_79 : decode cX9_pieceOf 79 = .ok (.getfield 19, 3) := by decide +kernel
theorem dX9_pieceOf_82 : decode cX9_pieceOf 82 = .ok (.iload_n 1, 1) := by decide +kernel
theorem dX9_pieceOf_83 : decode cX9_pieceOf 83 = .ok (.iaload, 1) := by decide +kernel
theorem dX9_pieceOf_84 : decode cX9_pieceOf 84 = .ok (.ireturn, 1) := by decide +kernel
theorem dX9_pieceOf_85 : decode cX9_pieceOf 85 = .ok (.aload_n 0, 1) := by decide +kernel
theorem dX9_pieceOf_86 : decode cX9_pieceOf 86 = .ok (.getfield 22, 3) := by decide +kernel
theorem dX9_pieceOf_89 : decode cX9_pieceOf 89 = .ok (.iload_n 1, 1) := by decide +kernel
theorem dX9_pieceOf_90 : decode cX9_pieceOf 90 = .ok (.iaload, 1) := by decide +kernel
theorem dX9_pieceOf_91 : decode cX9_pieceOf 91 = .ok (.ireturn, 1) := by decide +kernel
theorem dX9_pieceOf_92 : decode cX9_pieceOf 92 = .ok (.aload_n 0, 1) := by decide +kernel
theorem dX9_pieceOf_93 : decode cX9_pieceOf 93 = .ok (.iload_n 1, 1) := by decide +kernel
theorem dX9_pieceOf_94 : decode cX9_pieceOf 94 = .ok (.invokevirtual 191, 3) := by decide +kernel
theorem dX9_pieceOf_97 : decode cX9_pieceOf 97 = .ok (.ireturn, 1) := by decide +kernel
theorem dX9_pieceOf_98 : decode cX9_pieceOf 98 = .ok (.iconst 0, 1) := by decide +kernel
theorem dX9_pieceOf_99 : decode cX9_pieceOf 99 = .ok (.istore 4, 2) := by decide +kernel
theorem dX9_pieceOf_101 : decode cX9_pieceOf 101 = .ok (.iload 4, 2) := by decide +kernel
theorem dX9_pieceOf_103 : decode cX9_pieceOf 103 = .ok (.aload_n 0, 1) := by decide +kernel
theorem dX9_pieceOf_104 : decode cX9_pieceOf 104 = .ok (.getfield 164, 3) := by decide +kernel
theorem dX9_pieceOf_107 : decode cX9_pieceOf 107 = .ok (.if_icmp .ge 37, 3) := by decide +kernel
theorem dX9_pieceOf_110 : decode cX9_pieceOf 110 = .ok (.iload_n 3, 1) := by decide +kernel
theorem dX9_pieceOf_111 : decode cX9_pieceOf 111 = .ok (.aload_n 0, 1) := by decide +kernel
theorem dX9_pieceOf_112 : decode cX9_pieceOf 112 = .ok (.iload 4, 2) := by decide +kernel
theorem dX9_pieceOf_114 : decode cX9_pieceOf 114 = .ok (.invokevirtual 167, 3) := by decide +kernel
theorem dX9_pieceOf_117 : decode cX9_pieceOf 117 = .ok (.ifCond .eq 18, 3) := by decide +kernel
theorem dX9_pieceOf_120 : decode cX9_pieceOf 120 = .ok (.aload_n 0, 1) := by decide +kernel
theorem dX9_pieceOf_121 : decode cX9_pieceOf 121 = .ok (.getfield 89, 3) := by decide +kernel
theorem dX9_pieceOf_124 : decode cX9_pieceOf 124 = .ok (.iload 4, 2) := by decide +kernel
theorem dX9_pieceOf_126 : decode cX9_pieceOf 126 = .ok (.iaload, 1) := by decide +kernel
theorem dX9_pieceOf_127 : decode cX9_pieceOf 127 = .ok (.iload_n 1, 1) := by decide +kernel
theorem dX9_pieceOf_128 : decode cX9_pieceOf 128 = .ok (.if_icmp .ne 7, 3) := by decide +kernel
theorem dX9_pieceOf_131 : decode cX9_pieceOf 131 = .ok (.iconst 1, 1) := by decide +kernel
theorem dX9_pieceOf_132 : decode cX9_pieceOf 132 = .ok (.goto 4, 3) := by decide +kernel
theorem dX9_pieceOf_135 : decode cX9_pieceOf 135 = .ok (.iconst 0, 1) := by decide +kernel
theorem dX9_pieceOf_136 : decode cX9_pieceOf 136 = .ok (.iadd, 1) := by decide +kernel
theorem dX9_pieceOf_137 : decode cX9_pieceOf 137 = .ok (.istore_n 3, 1) := by decide +kernel
theorem dX9_pieceOf_138 : decode cX9_pieceOf 138 = .ok (.iinc 4 1, 3) := by decide +kernel
theorem dX9_pieceOf_141 : decode cX9_pieceOf 141 = .ok (.goto (-40), 3) := by decide +kernel
theorem dX9_pieceOf_144 : decode cX9_pieceOf 144 = .ok (.iload_n 3, 1) := by decide +kernel
theorem dX9_pieceOf_145 : decode cX9_pieceOf 145 = .ok (.ireturn, 1) := by decide +kernel
theorem dX9_pieceOf_146 : decode cX9_pieceOf 146 = .ok (.aload_n 0, 1) := by decide +kernel
theorem dX9_pieceOf_147 : decode cX9_pieceOf 147 = .ok (.getfield 25, 3) := by decide +kernel
theorem dX9_pieceOf_150 : decode cX9_pieceOf 150 = .ok (.iload_n 1, 1) := by decide +kernel
theorem dX9_pieceOf_151 : decode cX9_pieceOf 151 = .ok (.iaload, 1) := by decide +kernel
theorem dX9_pieceOf_152 : decode cX9_pieceOf 152 = .ok (.ireturn, 1) := by decide +kernel
theorem dX9_pieceOf_153 : decode cX9_pieceOf 153 = .ok (.aload_n 0, 1) := by decide +kernel
theorem dX9_pieceOf_154 : decode cX9_pieceOf 154 = .ok (.bipush (-2), 2) := by decide +kernel
theorem dX9_pieceOf_156 : decode cX9_pieceOf 156 = .ok (.invokevirtual 122, 3) := by decide +kernel
theorem dX9_pieceOf_159 : decode cX9_pieceOf 159 = .ok (.ireturn, 1) := by decide +kernel
theorem dX9_rightOf_0 : decode cX9_rightOf 0 = .ok (.iload_n 1, 1) := by decide +kernel
theorem dX9_rightOf_1 : decode cX9_rightOf 1 = .ok (.aload_n 0, 1) := by decide +kernel
theorem dX9_rightOf_2 : decode cX9_rightOf 2 = .ok (.getfield 148, 3) := by decide +kernel
theorem dX9_rightOf_5 : decode cX9_rightOf 5 = .ok (.invokestatic 134, 3) := by decide +kernel
theorem dX9_rightOf_8 : decode cX9_rightOf 8 = .ok (.ifCond .ne 9, 3) := by decide +kernel
theorem dX9_rightOf_11 : decode cX9_rightOf 11 = .ok (.aload_n 0, 1) := by decide +kernel
theorem dX9_rightOf_12 : decode cX9_rightOf 12 = .ok (.iconst (-1), 1) := by decide +kernel
theorem dX9_rightOf_13 : decode cX9_rightOf 13 = .ok (.invokevirtual 122, 3) := by decide +kernel
theorem dX9_rightOf_16 : decode cX9_rightOf 16 = .ok (.ireturn, 1) := by decide +kernel
theorem dX9_rightOf_17 : decode cX9_rightOf 17 = .ok (.iload_n 2, 1) := by decide +kernel
theorem dX9_rightOf_18 : decode cX9_rightOf 18 = .ok (.tableswitch 126 0 8 #[50, 57, 63, 69, 76, 83, 98, 112, 119], 50) := by decide +kernel
theorem dX9_rightOf_68 : decode cX9_rightOf 68 = .ok (.aload_n 0, 1) := by decide +kernel
theorem dX9_rightOf_69 : decode cX9_rightOf 69 = .ok (.getfield 50, 3) := by decide +kernel
theorem dX9_rightOf_72 : decode cX9_rightOf 72 = .ok (.iload_n 1, 1) := by decide +kernel
theorem dX9_rightOf_73 : decode cX9_rightOf 73 = .ok (.iaload, 1) := by decide +kernel
theorem dX9_rightOf_74 : decode cX9_rightOf 74 = .ok (.ireturn, 1) := by decide +kernel
theorem dX9_rightOf_75 : decode cX9_rightOf 75 = .ok (.aload_n 0, 1) := by decide +kernel
theorem dX9_rightOf_76 : decode cX9_rightOf 76 = .ok (.iload_n 1, 1) := by decide +kernel
theorem dX9_rightOf_77 : decode cX9_rightOf 77 = .ok (.invokevirtual 155, 3) := by decide +kernel
theorem dX9_rightOf_80 : decode cX9_rightOf 80 = .ok (.ireturn, 1) := by decide +kernel
theorem dX9_rightOf_81 : decode cX9_rightOf 81 = .ok (.aload_n 0, 1) := by decide +kernel
theorem dX9_rightOf_82 : decode cX9_rightOf 82 = .ok (.iload_n 1, 1) := by decide +kernel
theorem dX9_rightOf_83 : decode cX9_rightOf 83 = .ok (.invokevirtual 158, 3) := by decide +kernel
theorem dX9_rightOf_86 : decode cX9_rightOf 86 = .ok (.ireturn, 1) := by decide +kernel
theorem dX9_rightOf_87 : decode cX9_rightOf 87 = .ok (.aload_n 0, 1) := by decide +kernel
theorem dX9_rightOf_88 : decode cX9_rightOf 88 = .ok (.getfield 59, 3) := by decide +kernel
theorem dX9_rightOf_91 : decode cX9_rightOf 91 = .ok (.iload_n 1, 1) := by decide +kernel
theorem dX9_rightOf_92 : decode cX9_rightOf 92 = .ok (.iaload, 1) := by decide +kernel
theorem dX9_rightOf_93 : decode cX9_rightOf 93 = .ok (.ireturn, 1) := by decide +kernel
theorem dX9_rightOf_94 : decode cX9_rightOf 94 = .ok (.aload_n 0, 1) := by decide +kernel
theorem dX9_rightOf_95 : decode cX9_rightOf 95 = .ok (.getfield 62, 3) := by decide +kernel
theorem dX9_rightOf_98 : decode cX9_rightOf 98 = .ok (.iload_n 1, 1) := by decide +kernel
theorem dX9_rightOf_99 : decode cX9_rightOf 99 = .ok (.iaload, 1) := by decide +kernel
theorem dX9_rightOf_100 : decode cX9_rightOf 100 = .ok (.ireturn, 1) := by decide +kernel
theorem dX9_rightOf_101 : decode cX9_rightOf 101 = .ok (.aload_n 0, 1) := by decide +kernel
theorem dX9_rightOf_102 : decode cX9_rightOf 102 = .ok (.getfield 74, 3) := by decide +kernel
theorem dX9_rightOf_105 : decode cX9_rightOf 105 = .ok (.iload_n 1, 1) := by decide +kernel
theorem dX9_rightOf_106 : decode cX9_rightOf 106 = .ok (.baload, 1) := by decide +kernel
theorem dX9_rightOf_107 : decode cX9_rightOf 107 = .ok (.ifCond .eq 7, 3) := by decide +kernel
theorem dX9_rightOf_110 : decode cX9_rightOf 110 = .ok (.iconst 1, 1) := by decide +kernel
theorem dX9_rightOf_111 : decode cX9_rightOf 111 = .ok (.goto 4, 3) := by decide +kernel
theorem dX9_rightOf_114 : decode cX9_rightOf 114 = .ok (.iconst 0, 1) := by decide +kernel
theorem dX9_rightOf_115 : decode cX9_rightOf 115 = .ok (.ireturn, 1) := by decide +kernel
theorem dX9_rightOf_116 : decode cX9_rightOf 116 = .ok (.aload_n 0, 1) := by decide +kernel
theorem dX9_rightOf_117 : decode cX9_rightOf 117 = .ok (.iload_n 1, 1) := by decide +kernel
theorem dX9_rightOf_118 : decode cX9_rightOf 118 = .ok (.invokevirtual 144, 3) := by decide +kernel
theorem dX9_rightOf_121 : decode cX9_rightOf 121 = .ok (.ifCond .eq 7, 3) := by decide +kernel
theorem dX9_rightOf_124 : decode cX9_rightOf 124 = .ok (.iconst 1, 1) := by decide +kernel
theorem dX9_rightOf_125 : decode cX9_rightOf 125 = .ok (.goto 4, 3) := by decide +kernel
theorem dX9_rightOf_128 : decode cX9_rightOf 128 = .ok (.iconst 0, 1) := by decide +kernel
theorem dX9_rightOf_129 : decode cX9_rightOf 129 = .ok (.ireturn, 1) := by decide +kernel
theorem dX9_rightOf_130 : decode cX9_rightOf 130 = .ok (.aload_n 0, 1) := by decide +kernel
theorem dX9_rightOf_131 : decode cX9_rightOf 131 = .ok (.getfield 68, 3) := by decide +kernel
theorem dX9_rightOf_134 : decode cX9_rightOf 134 = .ok (.iload_n 1, 1) := by decide +kernel
theorem dX9_rightOf_135 : decode cX9_rightOf 135 = .ok (.iaload, 1) := by decide +kernel
theorem dX9_rightOf_136 : decode cX9_rightOf 136 = .ok (.ireturn, 1) := by decide +kernel
theorem dX9_rightOf_137 : decode cX9_rightOf 137 = .ok (.aload_n 0, 1) := by decide +kernel
theorem dX9_rightOf_138 : decode cX9_rightOf 138 = .ok (.getfield 71, 3) := by decide +kernel
theorem dX9_rightOf_141 : decode cX9_rightOf 141 = .ok (.iload_n 1, 1) := by decide +kernel
theorem dX9_rightOf_142 : decode cX9_rightOf 142 = .ok (.iaload, 1) := by decide +kernel
theorem dX9_rightOf_143 : decode cX9_rightOf 143 = .ok (.ireturn, 1) := by decide +kernel
