theorem dX6_isOpen_40 : decode cX6_isOpen 40 = .ok (.iconst 1, 1) := by decide +kernel
theorem dX6_isOpen_41 : decode cX6_isOpen 41 = .ok (.iand, 1) := by decide +kernel
theorem dX6_isOpen_42 : decode cX6_isOpen 42 = .ok (.ifCond .ne 5, 3) := by decide +kernel
theorem dX6_isOpen_45 : decode cX6_isOpen 45 = .ok (.iconst 0, 1) := by decide +kernel
theorem dX6_isOpen_46 : decode cX6_isOpen 46 = .ok (.ireturn, 1) := by decide +kernel
theorem dX6_isOpen_47 : decode cX6_isOpen 47 = .ok (.iinc 2 1, 3) := by decide +kernel
theorem dX6_isOpen_50 : decode cX6_isOpen 50 = .ok (.goto (-38), 3) := by decide +kernel
theorem dX6_isOpen_53 : decode cX6_isOpen 53 = .ok (.iinc 1 1, 3) := by decide +kernel
theorem dX6_isOpen_56 : decode cX6_isOpen 56 = .ok (.goto (-54), 3) := by decide +kernel
theorem dX6_isOpen_59 : decode cX6_isOpen 59 = .ok (.iconst 1, 1) := by decide +kernel
theorem dX6_isOpen_60 : decode cX6_isOpen 60 = .ok (.ireturn, 1) := by decide +kernel
theorem dX6_hungerOfTrial_0 : decode cX6_hungerOfTrial 0 = .ok (.iconst 0, 1) := by decide +kernel
theorem dX6_hungerOfTrial_1 : decode cX6_hungerOfTrial 1 = .ok (.istore_n 1, 1) := by decide +kernel
theorem dX6_hungerOfTrial_2 : decode cX6_hungerOfTrial 2 = .ok (.iload_n 1, 1) := by decide +kernel
theorem dX6_hungerOfTrial_3 : decode cX6_hungerOfTrial 3 = .ok (.bipush 6, 2) := by decide +kernel
theorem dX6_hungerOfTrial_5 : decode cX6_hungerOfTrial 5 = .ok (.if_icmp .ge 16, 3) := by decide +kernel
theorem dX6_hungerOfTrial_8 : decode cX6_hungerOfTrial 8 = .ok (.aload_n 0, 1) := by decide +kernel
theorem dX6_hungerOfTrial_9 : decode cX6_hungerOfTrial 9 = .ok (.getfield 26, 3) := by decide +kernel
theorem dX6_hungerOfTrial_12 : decode cX6_hungerOfTrial 12 = .ok (.iload_n 1, 1) := by decide +kernel
theorem dX6_hungerOfTrial_13 : decode cX6_hungerOfTrial 13 = .ok (.iconst 0, 1) := by decide +kernel
theorem dX6_hungerOfTrial_14 : decode cX6_hungerOfTrial 14 = .ok (.iastore, 1) := by decide +kernel
theorem dX6_hungerOfTrial_15 : decode cX6_hungerOfTrial 15 = .ok (.iinc 1 1, 3) := by decide +kernel
theorem dX6_hungerOfTrial_18 : decode cX6_hungerOfTrial 18 = .ok (.goto (-16), 3) := by decide +kernel
theorem dX6_hungerOfTrial_21 : decode cX6_hungerOfTrial 21 = .ok (.iconst 0, 1) := by decide +kernel
theorem dX6_hungerOfTrial_22 : decode cX6_hungerOfTrial 22 = .ok (.istore_n 1, 1) := by decide +kernel
theorem dX6_hungerOfTrial_23 : decode cX6_hungerOfTrial 23 = .ok (.iload_n 1, 1) := by decide +kernel
theorem dX6_hungerOfTrial_24 : decode cX6_hungerOfTrial 24 = .ok (.aload_n 0, 1) := by decide +kernel
theorem dX6_hungerOfTrial_25 : decode cX6_hungerOfTrial 25 = .ok (.invokevirtual 51, 3) := by decide +kernel
theorem dX6_hungerOfTrial_28 : decode cX6_hungerOfTrial 28 = .ok (.if_icmp .ge 26, 3) := by decide +kernel
theorem dX6_hungerOfTrial_31 : decode cX6_hungerOfTrial 31 = .ok (.aload_n 0, 1) := by decide +kernel
theorem dX6_hungerOfTrial_32 : decode cX6_hungerOfTrial 32 = .ok (.getfield 26, 3) := by decide +kernel
theorem dX6_hungerOfTrial_35 : decode cX6_hungerOfTrial 35 = .ok (.aload_n 0, 1) := by decide +kernel
theorem dX6_hungerOfTrial_36 : decode cX6_hungerOfTrial 36 = .ok (.getfield 20, 3) := by decide +kernel
theorem dX6_hungerOfTrial_39 : decode cX6_hungerOfTrial 39 = .ok (.iload_n 1, 1) := by decide +kernel
theorem dX6_hungerOfTrial_40 : decode cX6_hungerOfTrial 40 = .ok (.iaload, 1) := by decide +kernel
theorem dX6_hungerOfTrial_41 : decode cX6_hungerOfTrial 41 = .ok (.dup2, 1) := by decide +kernel
theorem dX6_hungerOfTrial_42 : decode cX6_hungerOfTrial 42 = .ok (.iaload, 1) := by decide +kernel
theorem dX6_hungerOfTrial_43 : decode cX6_hungerOfTrial 43 = .ok (.iconst 1, 1) := by decide +kernel
theorem dX6_hungerOfTrial_44 : decode cX6_hungerOfTrial 44 = .ok (.iload_n 1, 1) := by decide +kernel
theorem dX6_hungerOfTrial_45 : decode cX6_hungerOfTrial 45 = .ok (.ishl, 1) := by decide +kernel
theorem dX6_hungerOfTrial_46 : decode cX6_hungerOfTrial 46 = .ok (.ior, 1) := by decide +kernel
theorem dX6_hungerOfTrial_47 : decode cX6_hungerOfTrial 47 = .ok (.iastore, 1) := by decide +kernel
theorem dX6_hungerOfTrial_48 : decode cX6_hungerOfTrial 48 = .ok (.iinc 1 1, 3) := by decide +kernel
theorem dX6_hungerOfTrial_51 : decode cX6_hungerOfTrial 51 = .ok (.goto (-28), 3) := by decide +kernel
theorem dX6_hungerOfTrial_54 : decode cX6_hungerOfTrial 54 = .ok (.iconst 0, 1) := by decide +kernel
theorem dX6_hungerOfTrial_55 : decode cX6_hungerOfTrial 55 = .ok (.istore_n 1, 1) := by decide +kernel
theorem dX6_hungerOfTrial_56 : decode cX6_hungerOfTrial 56 = .ok (.iconst 0, 1) := by decide +kernel
theorem dX6_hungerOfTrial_57 : decode cX6_hungerOfTrial 57 = .ok (.istore_n 2, 1) := by decide +kernel
theorem dX6_hungerOfTrial_58 : decode cX6_hungerOfTrial 58 = .ok (.iload_n 2, 1) := by decide +kernel
theorem dX6_hungerOfTrial_59 : decode cX6_hungerOfTrial 59 = .ok (.bipush 6, 2) := by decide +kernel
theorem dX6_hungerOfTrial_61 : decode cX6_hungerOfTrial 61 = .ok (.if_icmp .ge 38, 3) := by decide +kernel
theorem dX6_hungerOfTrial_64 : decode cX6_hungerOfTrial 64 = .ok (.iload_n 1, 1) := by decide +kernel
theorem dX6_hungerOfTrial_65 : decode cX6_hungerOfTrial 65 = .ok (.aload_n 0, 1) := by decide +kernel
theorem dX6_hungerOfTrial_66 : decode cX6_hungerOfTrial 66 = .ok (.getfield 26, 3) := by decide +kernel
theorem dX6_hungerOfTrial_69 : decode cX6_hungerOfTrial 69 = .ok (.iload_n 2, 1) := by decide +kernel
theorem dX6_hungerOfTrial_70 : decode cX6_hungerOfTrial 70 = .ok (.iaload, 1) := by decide +kernel
theorem dX6_hungerOfTrial_71 : decode cX6_hungerOfTrial 71 = .ok (.ifCond .ne 7, 3) := by decide +kernel
theorem dX6_hungerOfTrial_74 : decode cX6_hungerOfTrial 74 = .ok (.iconst 0, 1) := by decide +kernel
theorem dX6_hungerOfTrial_75 : decode cX6_hungerOfTrial 75 = .ok (.goto 16, 3) := by decide +kernel
theorem dX6_hungerOfTrial_78 : decode cX6_hungerOfTrial 78 = .ok (.aload_n 0, 1) := by decide +kernel
theorem dX6_hungerOfTrial_79 : decode cX6_hungerOfTrial 79 = .ok (.getfield 11, 3) := by decide +kernel
theorem dX6_hungerOfTrial_82 : decode cX6_hungerOfTrial 82 = .ok (.iload_n 2, 1) := by decide +kernel
theorem dX6_hungerOfTrial_83 : decode cX6_hungerOfTrial 83 = .ok (.aaload, 1) := by decide +kernel
theorem dX6_hungerOfTrial_84 : decode cX6_hungerOfTrial 84 = .ok (.aload_n 0, 1) := by decide +kernel
theorem dX6_hungerOfTrial_85 : decode cX6_hungerOfTrial 85 = .ok (.getfield 26, 3) := by decide +kernel
theorem dX6_hungerOfTrial_88 : decode cX6_hungerOfTrial 88 = .ok (.iload_n 2, 1) := by decide +kernel
theorem dX6_hungerOfTrial_89 : decode cX6_hungerOfTrial 89 = .ok (.iaload, 1) := by decide +kernel
theorem dX6_hungerOfTrial_90 : decode cX6_hungerOfTrial 90 = .ok (.iaload, 1) := by decide +kernel
theorem dX6_hungerOfTrial_91 : decode cX6_hungerOfTrial 91 = .ok (.iadd, 1) := by decide +kernel
theorem dX6_hungerOfTrial_92 : decode cX6_hungerOfTrial 92 = .ok (.istore_n 1, 1) := by decide +kernel
theorem dX6_hungerOfTrial_93 : decode cX6_hungerOfTrial 93 = .ok (.iinc 2 1, 3) := by decide +kernel
theorem dX6_hungerOfTrial_96 : decode cX6_hungerOfTrial 96 = .ok (.goto (-38), 3) := by decide +kernel
theorem dX6_hungerOfTrial_99 : decode cX6_hungerOfTrial 99 = .ok (.iload_n 1, 1) := by decide +kernel
theorem dX6_hungerOfTrial_100 : decode cX6_hungerOfTrial 100 = .ok (.ireturn, 1) := by decide +kernel
theorem dX6_nextTrial_0 : decode cX6_nextTrial 0 = .ok (.aload_n 0, 1) := by decide +kernel
theorem dX6_nextTrial_1 : decode cX6_nextTrial 1 = .ok (.invokevirtual 51, 3) := by decide +kernel
theorem dX6_nextTrial_4 : decode cX6_nextTrial 4 = .ok (.iconst 1, 1) := by decide +kernel
theorem dX6_nextTrial_5 : decode cX6_nextTrial 5 = .ok (.isub, 1) := by decide +kernel
theorem dX6_nextTrial_6 : decode cX6_nextTrial 6 = .ok (.istore_n 2, 1) := by decide +kernel
theorem dX6_nextTrial_7 : decode cX6_nextTrial 7 = .ok (.iload_n 2, 1) := by decide +kernel
theorem dX6_nextTrial_8 : decode cX6_nextTrial 8 = .ok (.ifCond .lt 37, 3) := by decide +kernel
theorem dX6_nextTrial_11 : decode cX6_nextTrial 11 = .ok (.aload_n 0, 1) := by decide +kernel
theorem dX6_nextTrial_12 : decode cX6_nextTrial 12 = .ok (.getfield 20, 3) := by decide +kernel
theorem dX6_nextTrial_15 : decode cX6_nextTrial 15 = .ok (.iload_n 2, 1) := by decide +kernel
theorem dX6_nextTrial_16 : decode cX6_nextTrial 16 = .ok (.dup2, 1) := by decide +kernel
theorem dX6_nextTrial_17 : decode cX6_nextTrial 17 = .ok (.iaload, 1) := by decide +kernel
theorem dX6_nextTrial_18 : decode cX6_nextTrial 18 = .ok (.iconst 1, 1) := by decide +kernel
theorem dX6_nextTrial_19 : decode cX6_nextTrial 19 = .ok (.iadd, 1) := by decide +kernel
theorem dX6_nextTrial_20 : decode cX6_nextTrial 20 = .ok (.iastore, 1) := by decide +kernel
theorem dX6_nextTrial_21 : decode cX6_nextTrial 21 = .ok (.aload_n 0, 1) := by decide +kernel
theorem dX6_nextTrial_22 : decode cX6_nextTrial 22 = .ok (.getfield 20, 3) := by decide +kernel
theorem dX6_nextTrial_25 : decode cX6_nextTrial 25 = .ok (.iload_n 2, 1) := by decide +kernel
theorem dX6_nextTrial_26 : decode cX6_nextTrial 26 = .ok (.iaload, 1) := by decide +kernel
theorem dX6_nextTrial_27 : decode cX6_nextTrial 27 = .ok (.iload_n 1, 1) := by decide +kernel
theorem dX6_nextTrial_28 : decode cX6_nextTrial 28 = .ok (.if_icmp .ge 4, 3) := by decide +kernel
theorem dX6_nextTrial_31 : decode cX6_nextTrial 31 = .ok (.return_, 1) := by decide +kernel
theorem dX6_nextTrial_32 : decode cX6_nextTrial 32 = .ok (.aload_n 0, 1) := by decide +kernel
theorem dX6_nextTrial_33 : decode cX6_nextTrial 33 = .ok (.getfield 20, 3) := by decide +kernel
theorem dX6_nextTrial_36 : decode cX6_nextTrial 36 = .ok (.iload_n 2, 1) := by decide +kernel
theorem dX6_nextTrial_37 : decode cX6_nextTrial 37 = .ok (.iconst 0, 1) := by decide +kernel
theorem dX6_nextTrial_38 : decode cX6_nextTrial 38 = .ok (.iastore, 1) := by decide +kernel
theorem dX6_nextTrial_39 : decode cX6_nextTrial 39 = .ok (.iinc 2 (-1), 3) := by decide +kernel
theorem dX6_nextTrial_42 : decode cX6_nextTrial 42 = .ok (.goto (-35), 3) := by decide +kernel
theorem dX6_nextTrial_45 : decode cX6_nextTrial 45 = .ok (.return_, 1) := by decide +kernel
theorem dX7_init_0 : decode cX7_init 0 = .ok (.aload_n 0, 1) := by decide +kernel
theorem dX7_init_1 : decode cX7_init 1 = .ok (.invokespecial 3, 3) := by decide +kernel
theorem dX7_init_4 : decode cX7_init 4 = .ok (.aload_n 0, 1) := by decide +kernel
theorem dX7_init_5 : decode cX7_init 5 = .ok (.bipush 100, 2) := by decide +kernel
theorem dX7_init_7 : decode cX7_init 7 = .ok (.newarray .int, 2) := by decide +kernel
theorem dX7_init_9 : decode cX7_init 9 = .ok (.putfield 11, 3) := by decide +kernel
theorem dX7_init_12 : decode cX7_init 12 = .ok (.aload_n 0, 1) := by decide +kernel
theorem dX7_init_13 : decode cX7_init 13 = .ok (.sipush 721, 3) := by decide +kernel
theorem dX7_init_16 : decode cX7_init 16 = .ok (.newarray .int, 2) := by decide +kernel
theorem dX7_init_18 : decode cX7_init 18 = .ok (.putfield 15, 3) := by decide +kernel
theorem dX7_init_21 : decode cX7_init 21 = .ok (.return_, 1) := by decide +kernel
theorem dX7_isWeather_0 : decode cX7_isWeather 0 = .ok (.iload_n 0, 1) := by decide +kernel
theorem dX7_isWeather_1 : decode cX7_isWeather 1 = .ok (.ifCond .lt 23, 3) := by decide +kernel
theorem dX7_isWeather_4 : decode cX7_isWeather 4 = .ok (.iload_n 0, 1) := by decide +kernel
theorem dX7_isWeather_5 : decode cX7_isWeather 5 = .ok (.bipush 10, 2) := by decide +kernel
theorem dX7_isWeather_7 : decode cX7_isWeather 7 = .ok (.if_icmp .ge 17, 3) := by decide +kernel
theorem dX7_isWeather_10 : decode cX7_isWeather 10 = .ok (.iload_n 1, 1) := by decide +kernel
theorem dX7_isWeather_11 : decode cX7_isWeather 11 = .ok (.ifCond .lt 13, 3) := by decide +kernel
theorem dX7_isWeather_14 : decode cX7_isWeather 14 = .ok (.iload_n 1, 1) := by decide +kernel
theorem dX7_isWeather_15 : decode cX7_isWeather 15 = .ok (.bipush 10, 2) := by decide +kernel
theorem dX7_isWeather_17 : decode cX7_isWeather 17 = .ok (.if_icmp .ge 7, 3) := by decide +kernel
theorem dX7_isWeather_20 : decode cX7_isWeather 20 = .ok (.iconst 1, 1) := by decide +kernel
theorem dX7_isWeather_21 : decode cX7_isWeather 21 = .ok (.goto 4, 3) := by decide +kernel
theorem dX7_isWeather_24 : decode cX7_isWeather 24 = .ok (.iconst 0, 1) := by decide +kernel
theorem dX7_isWeather_25 : decode cX7_isWeather 25 = .ok (.ireturn, 1) := by decide +kernel
theorem dX7_changeRate_0 : decode cX7_changeRate 0 = .ok (.iload_n 1, 1) := by decide +kernel
theorem dX7_changeRate_1 : decode cX7_changeRate 1 = .ok (.iload_n 2, 1) := by decide +kernel
theorem dX7_changeRate_2 : decode cX7_changeRate 2 = .ok (.invokestatic 18, 3) := by decide +kernel
theorem dX7_changeRate_5 : decode cX7_changeRate 5 = .ok (.ifCond .ne 6, 3) := by decide +kernel
theorem dX7_changeRate_8 : decode cX7_changeRate 8 = .ok (.bipush (-9), 2) := by decide +kernel
theorem dX7_changeRate_10 : decode cX7_changeRate 10 = .ok (.ireturn, 1) := by decide +kernel
theorem dX7_changeRate_11 : decode cX7_changeRate 11 = .ok (.aload_n 0, 1) := by decide +kernel
theorem dX7_changeRate_12 : decode cX7_changeRate 12 = .ok (.getfield 11, 3) := by decide +kernel
theorem dX7_changeRate_15 : decode cX7_changeRate 15 = .ok (.iload_n 1, 1) := by decide +kernel
theorem dX7_changeRate_16 : decode cX7_changeRate 16 = .ok (.bipush 10, 2) := by decide +kernel
theorem dX7_changeRate_18 : decode cX7_changeRate 18 = .ok (.imul, 1) := by decide +kernel
theorem dX7_changeRate_19 : decode cX7_changeRate 19 = .ok (.iload_n 2, 1) := by decide +kernel
theorem dX7_changeRate_20 : decode cX7_changeRate 20 = .ok (.iadd, 1) := by decide +kernel
theorem dX7_changeRate_21 : decode cX7_changeRate 21 = .ok (.iaload, 1) := by decide +kernel
theorem dX7_changeRate_22 : decode cX7_changeRate 22 = .ok (.istore 4, 2) := by decide +kernel
theorem dX7_changeRate_24 : decode cX7_changeRate 24 = .ok (.aload_n 0, 1) := by decide +kernel
theorem dX7_changeRate_25 : decode cX7_changeRate 25 = .ok (.getfield 11, 3) := by decide +kernel
theorem dX7_changeRate_28 : decode cX7_changeRate 28 = .ok (.iload_n 1, 1) := by decide +kernel
theorem dX7_changeRate_29 : decode cX7_changeRate 29 = .ok (.bipush 10, 2) := by decide +kernel
theorem dX7_changeRate_31 : decode cX7_changeRate 31 = .ok (.imul, 1) := by decide +kernel
theorem dX7_changeRate_32 : decode cX7_changeRate 32 = .ok (.iload_n 2, 1) := by decide +kernel
theorem dX7_changeRate_33 : decode cX7_changeRate 33 = .ok (.iadd, 1) := by decide +kernel
theorem dX7_changeRate_34 : decode cX7_changeRate 34 = .ok (.iload_n 3, 1) := by decide +kernel
theorem dX7_changeRate_35 : decode cX7_changeRate 35 = .ok (.iastore, 1) := by decide +kernel
theorem dX7_changeRate_36 : decode cX7_changeRate 36 = .ok (.iload 4, 2) := by decide +kernel
theorem dX7_changeRate_38 : decode cX7_changeRate 38 = .ok (.ireturn, 1) := by decide +kernel
theorem dX7_changeWeather_0 : decode cX7_changeWeather 0 = .ok (.iload_n 2, 1) := by decide +kernel
theorem dX7_changeWeather_1 : decode cX7_changeWeather 1 = .ok (.iload_n 3, 1) := by decide +kernel
theorem dX7_changeWeather_2 : decode cX7_changeWeather 2 = .ok (.invokestatic 18, 3) := by decide +kernel
theorem dX7_changeWeather_5 : decode cX7_changeWeather 5 = .ok (.ifCond .eq 26, 3) := by decide +kernel
theorem dX7_changeWeather_8 : decode cX7_changeWeather 8 = .ok (.iload_n 1, 1) := by decide +kernel
theorem dX7_changeWeather_9 : decode cX7_changeWeather 9 = .ok (.ifCond .lt 22, 3) := by decide +kernel
theorem dX7_changeWeather_12 : decode cX7_changeWeather 12 = .ok (.iload_n 1, 1) := by decide +kernel
theorem dX7_changeWeather_13 : decode cX7_changeWeather 13 = .ok (.sipush 720, 3) := by decide +kernel
theorem dX7_changeWeather_16 : decode cX7_changeWeather 16 = .ok (.if_icmp .gt 15, 3) := by decide +kernel
theorem dX7_changeWeather_19 : decode cX7_changeWeather 19 = .ok (.aload_n 0, 1) := by decide +kernel
theorem dX7_changeWeather_20 : decode cX7_changeWeather 20 = .ok (.getfield 15, 3) := by decide +kernel
theorem dX7_changeWeather_23 : decode cX7_changeWeather 23 = .ok (.iload_n 1, 1) := by decide +kernel
theorem dX7_changeWeather_24 : decode cX7_changeWeather 24 = .ok (.iload_n 2, 1) := by decide +kernel
theorem dX7_changeWeather_25 : decode cX7_changeWeather 25 = .ok (.bipush 10, 2) := by decide +kernel
theorem dX7_changeWeather_27 : decode cX7_changeWeather 27 = .ok (.imul, 1) := by decide +kernel
theorem dX7_changeWeather_28 : decode cX7_changeWeather 28 = .ok (.iload_n 3, 1) := by decide +kernel
theorem dX7_changeWeather_29 : decode cX7_changeWeather 29 = .ok (.iadd, 1) := by decide +kernel
theorem dX7_changeWeather_30 : decode cX7_changeWeather 30 = .ok (.iastore, 1) := by decide +kernel
theorem dX7_changeWeather_31 : decode cX7_changeWeather 31 = .ok (.return_, 1) := by decide +kernel
theorem dX7_rainOn_0 : decode cX7_rainOn 0 = .ok (.iload_n 1, 1) := by decide +kernel
theorem dX7_rainOn_1 : decode cX7_rainOn 1 = .ok (.ifCond .lt 22, 3) := by decide +kernel
theorem dX7_rainOn_4 : decode cX7_rainOn 4 = .ok (.iload_n 1, 1) := by decide +kernel
theorem dX7_rainOn_5 : decode cX7_rainOn 5 = .ok (.sipush 720, 3) := by decide +kernel
theorem dX7_rainOn_8 : decode cX7_rainOn 8 = .ok (.if_icmp .gt 15, 3) := by decide +kernel
theorem dX7_rainOn_11 : decode cX7_rainOn 11 = .ok (.aload_n 0, 1) := by decide +kernel
theorem dX7_rainOn_12 : decode cX7_rainOn 12 = .ok (.getfield 15, 3) := by decide +kernel
theorem dX7_rainOn_15 : decode cX7_rainOn 15 = .ok (.iload_n 1, 1) := by decide +kernel
theorem dX7_rainOn_16 : decode cX7_rainOn 16 = .ok (.iaload, 1) := by decide +kernel
theorem dX7_rainOn_17 : decode cX7_rainOn 17 = .ok (.bipush 10, 2) := by decide +kernel
theorem dX7_rainOn_19 : decode cX7_rainOn 19 = .ok (.idiv, 1) := by decide +kernel
theorem dX7_rainOn_20 : decode cX7_rainOn 20 = .ok (.goto 4, 3) := by decide +kernel
theorem dX7_rainOn_23 : decode cX7_rainOn 23 = .ok (.iconst 0, 1) := by decide +kernel
theorem dX7_rainOn_24 : decode cX7_rainOn 24 = .ok (.ireturn, 1) := by decide +kernel
theorem dX7_rateOn_0 : decode cX7_rateOn 0 = .ok (.iload_n 1, 1) := by decide +kernel
theorem dX7_rateOn_1 : decode cX7_rateOn 1 = .ok (.ifCond .lt 24, 3) := by decide +kernel
theorem dX7_rateOn_4 : decode cX7_rateOn 4 = .ok (.iload_n 1, 1) := by decide +kernel
theorem dX7_rateOn_5 : decode cX7_rateOn 5 = .ok (.sipush 720, 3) := by decide +kernel
theorem dX7_rateOn_8 : decode cX7_rateOn 8 = .ok (.if_icmp .gt 17, 3) := by decide +kernel
theorem dX7_rateOn_11 : decode cX7_rateOn 11 = .ok (.aload_n 0, 1) := by decide +kernel
theorem dX7_rateOn_12 : decode cX7_rateOn 12 = .ok (.getfield 11, 3) := by decide +kernel
theorem dX7_rateOn_15 : decode cX7_rateOn 15 = .ok (.aload_n 0, 1) := by decide +kernel
theorem dX7_rateOn_16 : decode cX7_rateOn 16 = .ok (.getfield 15, 3) := by decide +kernel
theorem dX7_rateOn_19 : decode cX7_rateOn 19 = .ok (.iload_n 1, 1) := by decide +kernel
theorem dX7_rateOn_20 : decode cX7_rateOn 20 = .ok (.iaload, 1) := by decide +kernel
theorem dX7_rateOn_21 : decode cX7_rateOn 21 = .ok (.iaload, 1) := by decide +kernel
theorem dX7_rateOn_22 : decode cX7_rateOn 22 = .ok (.goto 4, 3) := by decide +kernel
theorem dX7_rateOn_25 : decode cX7_rateOn 25 = .ok (.iconst 0, 1) := by decide +kernel
theorem dX7_rateOn_26 : decode cX7_rateOn 26 = .ok (.ireturn, 1) := by decide +kernel
theorem dX8_init_0 : decode cX8_init 0 = .ok (.aload_n 0, 1) := by decide +kernel
theorem dX8_init_1 : decode cX8_init 1 = .ok (.invokespecial 1, 3) := by decide +kernel
theorem dX8_init_4 : decode cX8_init 4 = .ok (.aload_n 0, 1) := by decide +kernel
theorem dX8_init_5 : decode cX8_init 5 = .ok (.bipush 6, 2) := by decide +kernel
theorem dX8_init_7 : decode cX8_init 7 = .ok (.anewarray 9, 3) := by decide +kernel
theorem dX8_init_10 : decode cX8_init 10 = .ok (.putfield 11, 3) := by decide +kernel
theorem dX8_init_13 : decode cX8_init 13 = .ok (.aload_n 0, 1) := by decide +kernel
theorem dX8_init_14 : decode cX8_init 14 = .ok (.bipush 10, 2) := by decide +kernel
theorem dX8_init_16 : decode cX8_init 16 = .ok (.anewarray 15, 3) := by decide +kernel
theorem dX8_init_19 : decode cX8_init 19 = .ok (.putfield 17, 3) := by decide +kernel
theorem dX8_init_22 : decode cX8_init 22 = .ok (.aload_n 0, 1) := by decide +kernel
theorem dX8_init_23 : decode cX8_init 23 = .ok (.new 15, 3) := by decide +kernel
theorem dX8_init_26 : decode cX8_init 26 = .ok (.dup, 1) := by decide +kernel
theorem dX8_init_27 : decode cX8_init 27 = .ok (.iconst 0, 1) := by decide +kernel
theorem dX8_init_28 : decode cX8_init 28 = .ok (.invokespecial 21, 3) := by decide +kernel
theorem dX8_init_31 : decode cX8_init 31 = .ok (.putfield 24, 3) := by decide +kernel
theorem dX8_init_34 : decode cX8_init 34 = .ok (.aload_n 0, 1) := by decide +kernel
theorem dX8_init_35 : decode cX8_init 35 = .ok (.bipush 10, 2) := by decide +kernel
theorem dX8_init_37 : decode cX8_init 37 = .ok (.newarray .int, 2) := by decide +kernel
theorem dX8_init_39 : decode cX8_init 39 = .ok (.putfield 28, 3) := by decide +kernel
theorem dX8_init_42 : decode cX8_init 42 = .ok (.aload_n 0, 1) := by decide +kernel
theorem dX8_init_43 : decode cX8_init 43 = .ok (.bipush 60, 2) := by decide +kernel
theorem dX8_init_45 : decode cX8_init 45 = .ok (.anewarray 32, 3) := by decide +kernel
theorem dX8_init_48 : decode cX8_init 48 = .ok (.putfield 34, 3) := by decide +kernel
theorem dX8_init_51 : decode cX8_init 51 = .ok (.aload_n 0, 1) := by decide +kernel
theorem dX8_init_52 : decode cX8_init 52 = .ok (.bipush 20, 2) := by decide +kernel
theorem dX8_init_54 : decode cX8_init 54 = .ok (.anewarray 38, 3) := by decide +kernel
theorem dX8_init_57 : decode cX8_init 57 = .ok (.putfield 40, 3) := by decide +kernel
theorem dX8_init_60 : decode cX8_init 60 = .ok (.aload_n 0, 1) := by decide +kernel
theorem dX8_init_61 : decode cX8_init 61 = .ok (.new 44, 3) := by decide +kernel
theorem dX8_init_64 : decode cX8_init 64 = .ok (.dup, 1) := by decide +kernel
theorem dX8_init_65 : decode cX8_init 65 = .ok (.invokespecial 46, 3) := by decide +kernel
theorem dX8_init_68 : decode cX8_init 68 = .ok (.putfield 47, 3) := by decide +kernel
theorem dX8_init_71 : decode cX8_init 71 = .ok (.aload_n 0, 1) := by decide +kernel
theorem dX8_init_72 : decode cX8_init 72 = .ok (.new 51, 3) := by decide +kernel
theorem dX8_init_75 : decode cX8_init 75 = .ok (.dup, 1) := by decide +kernel
theorem dX8_init_76 : decode cX8_init 76 = .ok (.invokespecial 53, 3) := by decide +kernel
theorem dX8_init_79 : decode cX8_init 79 = .ok (.putfield 54, 3) := by decide +kernel
theorem dX8_init_82 : decode cX8_init 82 = .ok (.aload_n 0, 1) := by decide +kernel
theorem dX8_init_83 : decode cX8_init 83 = .ok (.new 58, 3) := by decide +kernel
theorem dX8_init_86 : decode cX8_init 86 = .ok (.dup, 1) := by decide +kernel
theorem dX8_init_87 : decode cX8_init 87 = .ok (.invokespecial 60, 3) := by decide +kernel
theorem dX8_init_90 : decode cX8_init 90 = .ok (.putfield 61, 3) := by decide +kernel
theorem dX8_init_93 : decode cX8_init 93 = .ok (.aload_n 0, 1) := by decide +kernel
theorem dX8_init_94 : decode cX8_init 94 = .ok (.new 65, 3) := by decide +kernel
theorem dX8_init_97 : decode cX8_init 97 = .ok (.dup, 1) := by decide +kernel
theorem dX8_init_98 : decode cX8_init 98 = .ok (.invokespecial 67, 3) := by decide +kernel
theorem dX8_init_101 : decode cX8_init 101 = .ok (.putfield 68, 3) := by decide +kernel
theorem dX8_init_104 : decode cX8_init 104 = .ok (.aload_n 0, 1) := by decide +kernel
theorem dX8_init_105 : decode cX8_init 105 = .ok (.bipush 7, 2) := by decide +kernel
theorem dX8_init_107 : decode cX8_init 107 = .ok (.newarray .int, 2) := by decide +kernel
theorem dX8_init_109 : decode cX8_init 109 = .ok (.putfield 72, 3) := by decide +kernel
theorem dX8_init_112 : decode cX8_init 112 = .ok (.aload_n 0, 1) := by decide +kernel
theorem dX8_init_113 : decode cX8_init 113 = .ok (.iconst 0, 1) := by decide +kernel
theorem dX8_init_114 : decode cX8_init 114 = .ok (.putfield 75, 3) := by decide +kernel
theorem dX8_init_117 : decode cX8_init 117 = .ok (.aload_n 0, 1) := by decide +kernel
theorem dX8_init_118 : decode cX8_init 118 = .ok (.iconst 0, 1) := by decide +kernel
theorem dX8_init_119 : decode cX8_init 119 = .ok (.putfield 79, 3) := by decide +kernel
theorem dX8_init_122 : decode cX8_init 122 = .ok (.aload_n 0, 1) := by decide +kernel
theorem dX8_init_123 : decode cX8_init 123 = .ok (.iconst 0, 1) := by decide +kernel
theorem dX8_init_124 : decode cX8_init 124 = .ok (.putfield 82, 3) := by decide +kernel
theorem dX8_init_127 : decode cX8_init 127 = .ok (.aload_n 0, 1) := by decide +kernel
theorem dX8_init_128 : decode cX8_init 128 = .ok (.iconst 0, 1) := by decide +kernel
theorem dX8_init_129 : decode cX8_init 129 = .ok (.putfield 85, 3) := by decide +kernel
theorem dX8_init_132 : decode cX8_init 132 = .ok (.aload_n 0, 1) := by decide +kernel
theorem dX8_init_133 : decode cX8_init 133 = .ok (.iconst 0, 1) := by decide +kernel
theorem dX8_init_134 : decode cX8_init 134 = .ok (.putfield 88, 3) := by decide +kernel
theorem dX8_init_137 : decode cX8_init 137 = .ok (.aload_n 0, 1) := by decide +kernel
theorem dX8_init_138 : decode cX8_init 138 = .ok (.iconst 0, 1) := by decide +kernel
theorem dX8_init_139 : decode cX8_init 139 = .ok (.putfield 91, 3) := by decide +kernel
theorem dX8_init_142 : decode cX8_init 142 = .ok (.aload_n 0, 1) := by decide +kernel
theorem dX8_init_143 : decode cX8_init 143 = .ok (.iconst 0, 1) := by decide +kernel
theorem dX8_init_144 : decode cX8_init 144 = .ok (.putfield 94, 3) := by decide +kernel
theorem dX8_init_147 : decode cX8_init 147 = .ok (.aload_n 0, 1) := by decide +kernel
theorem dX8_init_148 : decode cX8_init 148 = .ok (.iconst 0, 1) := by decide +kernel
theorem dX8_init_149 : decode cX8_init 149 = .ok (.putfield 97, 3) := by decide +kernel
theorem dX8_init_152 : decode cX8_init 152 = .ok (.return_, 1) := by decide +kernel
theorem dX8_piece_0 : decode cX8_piece 0 = .ok (.iload_n 1, 1) := by decide +kernel
theorem dX8_piece_1 : decode cX8_piece 1 = .ok (.ifCond .lt 12, 3) := by decide +kernel
theorem dX8_piece_4 : decode cX8_piece 4 = .ok (.iload_n 3, 1) := by decide +kernel
theorem dX8_piece_5 : decode cX8_piece 5 = .ok (.ifCond .lt 8, 3) := by decide +kernel
theorem dX8_piece_8 : decode cX8_piece 8 = .ok (.iload_n 2, 1) := by decide +kernel
theorem dX8_piece_9 : decode cX8_piece 9 = .ok (.iconst 1, 1) := by decide +kernel
theorem dX8_piece_10 : decode cX8_piece 10 = .ok (.if_icmp .ge 10, 3) := by decide +kernel
theorem dX8_piece_13 : decode cX8_piece 13 = .ok (.aload_n 0, 1) := by decide +kernel
theorem dX8_piece_14 : decode cX8_piece 14 = .ok (.bipush (-4), 2) := by decide +kernel
theorem dX8_piece_16 : decode cX8_piece 16 = .ok (.invokevirtual 100, 3) := by decide +kernel
theorem dX8_piece_19 : decode cX8_piece 19 = .ok (.ireturn, 1) := by decide +kernel
theorem dX8_piece_20 : decode cX8_piece 20 = .ok (.iload_n 2, 1) := by decide +kernel
theorem dX8_piece_21 : decode cX8_piece 21 = .ok (.ldc 104, 2) := by decide +kernel
theorem dX8_piece_23 : decode cX8_piece 23 = .ok (.if_icmp .gt 24, 3) := by decide +kernel
theorem dX8_piece_26 : decode cX8_piece 26 = .ok (.iload_n 1, 1) := by decide +kernel
theorem dX8_piece_27 : decode cX8_piece 27 = .ok (.iload_n 2, 1) := by decide +kernel
theorem dX8_piece_28 : decode cX8_piece 28 = .ok (.if_icmp .gt 19, 3) := by decide +kernel
theorem dX8_piece_31 : decode cX8_piece 31 = .ok (.iload_n 3, 1) := by decide +kernel
theorem dX8_piece_32 : decode cX8_piece 32 = .ok (.sipush 10000, 3) := by decide +kernel
theorem dX8_piece_35 : decode cX8_piece 35 = .ok (.if_icmp .gt 12, 3) := by decide +kernel
