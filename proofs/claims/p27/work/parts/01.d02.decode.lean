theorem dX3_shareHunger_73 : decode cX3_shareHunger 73 = .ok (.aload_n 0, 1) := by decide +kernel
theorem dX3_shareHunger_74 : decode cX3_shareHunger 74 = .ok (.getfield 24, 3) := by decide +kernel
theorem dX3_shareHunger_77 : decode cX3_shareHunger 77 = .ok (.if_icmp .ge 41, 3) := by decide +kernel
theorem dX3_shareHunger_80 : decode cX3_shareHunger 80 = .ok (.iload_n 2, 1) := by decide +kernel
theorem dX3_shareHunger_81 : decode cX3_shareHunger 81 = .ok (.ifCond .le 37, 3) := by decide +kernel
theorem dX3_shareHunger_84 : decode cX3_shareHunger 84 = .ok (.aload_n 0, 1) := by decide +kernel
theorem dX3_shareHunger_85 : decode cX3_shareHunger 85 = .ok (.invokevirtual 63, 3) := by decide +kernel
theorem dX3_shareHunger_88 : decode cX3_shareHunger 88 = .ok (.istore 4, 2) := by decide +kernel
theorem dX3_shareHunger_90 : decode cX3_shareHunger 90 = .ok (.aload_n 0, 1) := by decide +kernel
theorem dX3_shareHunger_91 : decode cX3_shareHunger 91 = .ok (.getfield 18, 3) := by decide +kernel
theorem dX3_shareHunger_94 : decode cX3_shareHunger 94 = .ok (.iload 4, 2) := by decide +kernel
theorem dX3_shareHunger_96 : decode cX3_shareHunger 96 = .ok (.dup2, 1) := by decide +kernel
theorem dX3_shareHunger_97 : decode cX3_shareHunger 97 = .ok (.iaload, 1) := by decide +kernel
theorem dX3_shareHunger_98 : decode cX3_shareHunger 98 = .ok (.iconst 1, 1) := by decide +kernel
theorem dX3_shareHunger_99 : decode cX3_shareHunger 99 = .ok (.iadd, 1) := by decide +kernel
theorem dX3_shareHunger_100 : decode cX3_shareHunger 100 = .ok (.iastore, 1) := by decide +kernel
theorem dX3_shareHunger_101 : decode cX3_shareHunger 101 = .ok (.aload_n 0, 1) := by decide +kernel
theorem dX3_shareHunger_102 : decode cX3_shareHunger 102 = .ok (.getfield 21, 3) := by decide +kernel
theorem dX3_shareHunger_105 : decode cX3_shareHunger 105 = .ok (.iload 4, 2) := by decide +kernel
theorem dX3_shareHunger_107 : decode cX3_shareHunger 107 = .ok (.iconst 0, 1) := by decide +kernel
theorem dX3_shareHunger_108 : decode cX3_shareHunger 108 = .ok (.iastore, 1) := by decide +kernel
theorem dX3_shareHunger_109 : decode cX3_shareHunger 109 = .ok (.iinc 2 (-1), 3) := by decide +kernel
theorem dX3_shareHunger_112 : decode cX3_shareHunger 112 = .ok (.iinc 3 1, 3) := by decide +kernel
theorem dX3_shareHunger_115 : decode cX3_shareHunger 115 = .ok (.goto (-43), 3) := by decide +kernel
theorem dX3_shareHunger_118 : decode cX3_shareHunger 118 = .ok (.return_, 1) := by decide +kernel
theorem dX3_greatestRemainder_0 : decode cX3_greatestRemainder 0 = .ok (.iconst 0, 1) := by decide +kernel
theorem dX3_greatestRemainder_1 : decode cX3_greatestRemainder 1 = .ok (.istore_n 1, 1) := by decide +kernel
theorem dX3_greatestRemainder_2 : decode cX3_greatestRemainder 2 = .ok (.iconst 1, 1) := by decide +kernel
theorem dX3_greatestRemainder_3 : decode cX3_greatestRemainder 3 = .ok (.istore_n 2, 1) := by decide +kernel
theorem dX3_greatestRemainder_4 : decode cX3_greatestRemainder 4 = .ok (.iload_n 2, 1) := by decide +kernel
theorem dX3_greatestRemainder_5 : decode cX3_greatestRemainder 5 = .ok (.aload_n 0, 1) := by decide +kernel
theorem dX3_greatestRemainder_6 : decode cX3_greatestRemainder 6 = .ok (.getfield 24, 3) := by decide +kernel
theorem dX3_greatestRemainder_9 : decode cX3_greatestRemainder 9 = .ok (.if_icmp .ge 26, 3) := by decide +kernel
theorem dX3_greatestRemainder_12 : decode cX3_greatestRemainder 12 = .ok (.aload_n 0, 1) := by decide +kernel
theorem dX3_greatestRemainder_13 : decode cX3_greatestRemainder 13 = .ok (.getfield 21, 3) := by decide +kernel
theorem dX3_greatestRemainder_16 : decode cX3_greatestRemainder 16 = .ok (.iload_n 2, 1) := by decide +kernel
theorem dX3_greatestRemainder_17 : decode cX3_greatestRemainder 17 = .ok (.iaload, 1) := by decide +kernel
theorem dX3_greatestRemainder_18 : decode cX3_greatestRemainder 18 = .ok (.aload_n 0, 1) := by decide +kernel
theorem dX3_greatestRemainder_19 : decode cX3_greatestRemainder 19 = .ok (.getfield 21, 3) := by decide +kernel
theorem dX3_greatestRemainder_22 : decode cX3_greatestRemainder 22 = .ok (.iload_n 1, 1) := by decide +kernel
theorem dX3_greatestRemainder_23 : decode cX3_greatestRemainder 23 = .ok (.iaload, 1) := by decide +kernel
theorem dX3_greatestRemainder_24 : decode cX3_greatestRemainder 24 = .ok (.if_icmp .le 5, 3) := by decide +kernel
theorem dX3_greatestRemainder_27 : decode cX3_greatestRemainder 27 = .ok (.iload_n 2, 1) := by decide +kernel
theorem dX3_greatestRemainder_28 : decode cX3_greatestRemainder 28 = .ok (.istore_n 1, 1) := by decide +kernel
theorem dX3_greatestRemainder_29 : decode cX3_greatestRemainder 29 = .ok (.iinc 2 1, 3) := by decide +kernel
theorem dX3_greatestRemainder_32 : decode cX3_greatestRemainder 32 = .ok (.goto (-28), 3) := by decide +kernel
theorem dX3_greatestRemainder_35 : decode cX3_greatestRemainder 35 = .ok (.iload_n 1, 1) := by decide +kernel
theorem dX3_greatestRemainder_36 : decode cX3_greatestRemainder 36 = .ok (.ireturn, 1) := by decide +kernel
theorem dX4_init_0 : decode cX4_init 0 = .ok (.aload_n 0, 1) := by decide +kernel
theorem dX4_init_1 : decode cX4_init 1 = .ok (.invokespecial 1, 3) := by decide +kernel
theorem dX4_init_4 : decode cX4_init 4 = .ok (.aload_n 0, 1) := by decide +kernel
theorem dX4_init_5 : decode cX4_init 5 = .ok (.iconst (-1), 1) := by decide +kernel
theorem dX4_init_6 : decode cX4_init 6 = .ok (.putfield 7, 3) := by decide +kernel
theorem dX4_init_9 : decode cX4_init 9 = .ok (.aload_n 0, 1) := by decide +kernel
theorem dX4_init_10 : decode cX4_init 10 = .ok (.iconst 0, 1) := by decide +kernel
theorem dX4_init_11 : decode cX4_init 11 = .ok (.putfield 13, 3) := by decide +kernel
theorem dX4_init_14 : decode cX4_init 14 = .ok (.aload_n 0, 1) := by decide +kernel
theorem dX4_init_15 : decode cX4_init 15 = .ok (.iload_n 1, 1) := by decide +kernel
theorem dX4_init_16 : decode cX4_init 16 = .ok (.putfield 16, 3) := by decide +kernel
theorem dX4_init_19 : decode cX4_init 19 = .ok (.aload_n 0, 1) := by decide +kernel
theorem dX4_init_20 : decode cX4_init 20 = .ok (.iload_n 2, 1) := by decide +kernel
theorem dX4_init_21 : decode cX4_init 21 = .ok (.putfield 19, 3) := by decide +kernel
theorem dX4_init_24 : decode cX4_init 24 = .ok (.aload_n 0, 1) := by decide +kernel
theorem dX4_init_25 : decode cX4_init 25 = .ok (.iload_n 3, 1) := by decide +kernel
theorem dX4_init_26 : decode cX4_init 26 = .ok (.putfield 22, 3) := by decide +kernel
theorem dX4_init_29 : decode cX4_init 29 = .ok (.aload_n 0, 1) := by decide +kernel
theorem dX4_init_30 : decode cX4_init 30 = .ok (.iload 4, 2) := by decide +kernel
theorem dX4_init_32 : decode cX4_init 32 = .ok (.putfield 25, 3) := by decide +kernel
theorem dX4_init_35 : decode cX4_init 35 = .ok (.return_, 1) := by decide +kernel
theorem dX4_restsOn_0 : decode cX4_restsOn 0 = .ok (.iload_n 1, 1) := by decide +kernel
theorem dX4_restsOn_1 : decode cX4_restsOn 1 = .ok (.aload_n 0, 1) := by decide +kernel
theorem dX4_restsOn_2 : decode cX4_restsOn 2 = .ok (.getfield 7, 3) := by decide +kernel
theorem dX4_restsOn_5 : decode cX4_restsOn 5 = .ok (.if_icmp .gt 7, 3) := by decide +kernel
theorem dX4_restsOn_8 : decode cX4_restsOn 8 = .ok (.iconst 1, 1) := by decide +kernel
theorem dX4_restsOn_9 : decode cX4_restsOn 9 = .ok (.goto 4, 3) := by decide +kernel
theorem dX4_restsOn_12 : decode cX4_restsOn 12 = .ok (.iconst 0, 1) := by decide +kernel
theorem dX4_restsOn_13 : decode cX4_restsOn 13 = .ok (.ireturn, 1) := by decide +kernel
theorem dX5_init_0 : decode cX5_init 0 = .ok (.aload_n 0, 1) := by decide +kernel
theorem dX5_init_1 : decode cX5_init 1 = .ok (.invokespecial 1, 3) := by decide +kernel
theorem dX5_init_4 : decode cX5_init 4 = .ok (.aload_n 0, 1) := by decide +kernel
theorem dX5_init_5 : decode cX5_init 5 = .ok (.iconst 0, 1) := by decide +kernel
theorem dX5_init_6 : decode cX5_init 6 = .ok (.putfield 7, 3) := by decide +kernel
theorem dX5_init_9 : decode cX5_init 9 = .ok (.aload_n 0, 1) := by decide +kernel
theorem dX5_init_10 : decode cX5_init 10 = .ok (.iload_n 1, 1) := by decide +kernel
theorem dX5_init_11 : decode cX5_init 11 = .ok (.putfield 13, 3) := by decide +kernel
theorem dX5_init_14 : decode cX5_init 14 = .ok (.return_, 1) := by decide +kernel
theorem dX6_init_0 : decode cX6_init 0 = .ok (.aload_n 0, 1) := by decide +kernel
theorem dX6_init_1 : decode cX6_init 1 = .ok (.invokespecial 3, 3) := by decide +kernel
theorem dX6_init_4 : decode cX6_init 4 = .ok (.aload_n 0, 1) := by decide +kernel
theorem dX6_init_5 : decode cX6_init 5 = .ok (.bipush 6, 2) := by decide +kernel
theorem dX6_init_7 : decode cX6_init 7 = .ok (.bipush 16, 2) := by decide +kernel
theorem dX6_init_9 : decode cX6_init 9 = .ok (.multianewarray 9 2, 4) := by decide +kernel
theorem dX6_init_13 : decode cX6_init 13 = .ok (.putfield 11, 3) := by decide +kernel
theorem dX6_init_16 : decode cX6_init 16 = .ok (.aload_n 0, 1) := by decide +kernel
theorem dX6_init_17 : decode cX6_init 17 = .ok (.iconst 4, 1) := by decide +kernel
theorem dX6_init_18 : decode cX6_init 18 = .ok (.newarray .int, 2) := by decide +kernel
theorem dX6_init_20 : decode cX6_init 20 = .ok (.putfield 16, 3) := by decide +kernel
theorem dX6_init_23 : decode cX6_init 23 = .ok (.aload_n 0, 1) := by decide +kernel
theorem dX6_init_24 : decode cX6_init 24 = .ok (.iconst 4, 1) := by decide +kernel
theorem dX6_init_25 : decode cX6_init 25 = .ok (.newarray .int, 2) := by decide +kernel
theorem dX6_init_27 : decode cX6_init 27 = .ok (.putfield 20, 3) := by decide +kernel
theorem dX6_init_30 : decode cX6_init 30 = .ok (.aload_n 0, 1) := by decide +kernel
theorem dX6_init_31 : decode cX6_init 31 = .ok (.iconst 4, 1) := by decide +kernel
theorem dX6_init_32 : decode cX6_init 32 = .ok (.newarray .int, 2) := by decide +kernel
theorem dX6_init_34 : decode cX6_init 34 = .ok (.putfield 23, 3) := by decide +kernel
theorem dX6_init_37 : decode cX6_init 37 = .ok (.aload_n 0, 1) := by decide +kernel
theorem dX6_init_38 : decode cX6_init 38 = .ok (.bipush 6, 2) := by decide +kernel
theorem dX6_init_40 : decode cX6_init 40 = .ok (.newarray .int, 2) := by decide +kernel
theorem dX6_init_42 : decode cX6_init 42 = .ok (.putfield 26, 3) := by decide +kernel
theorem dX6_init_45 : decode cX6_init 45 = .ok (.aload_n 0, 1) := by decide +kernel
theorem dX6_init_46 : decode cX6_init 46 = .ok (.iconst (-1), 1) := by decide +kernel
theorem dX6_init_47 : decode cX6_init 47 = .ok (.putfield 29, 3) := by decide +kernel
theorem dX6_init_50 : decode cX6_init 50 = .ok (.aload_n 0, 1) := by decide +kernel
theorem dX6_init_51 : decode cX6_init 51 = .ok (.iconst (-1), 1) := by decide +kernel
theorem dX6_init_52 : decode cX6_init 52 = .ok (.putfield 33, 3) := by decide +kernel
theorem dX6_init_55 : decode cX6_init 55 = .ok (.aload_n 0, 1) := by decide +kernel
theorem dX6_init_56 : decode cX6_init 56 = .ok (.iconst 1, 1) := by decide +kernel
theorem dX6_init_57 : decode cX6_init 57 = .ok (.putfield 36, 3) := by decide +kernel
theorem dX6_init_60 : decode cX6_init 60 = .ok (.aload_n 0, 1) := by decide +kernel
theorem dX6_init_61 : decode cX6_init 61 = .ok (.iconst 0, 1) := by decide +kernel
theorem dX6_init_62 : decode cX6_init 62 = .ok (.putfield 39, 3) := by decide +kernel
theorem dX6_init_65 : decode cX6_init 65 = .ok (.aload_n 0, 1) := by decide +kernel
theorem dX6_init_66 : decode cX6_init 66 = .ok (.iconst 0, 1) := by decide +kernel
theorem dX6_init_67 : decode cX6_init 67 = .ok (.putfield 42, 3) := by decide +kernel
theorem dX6_init_70 : decode cX6_init 70 = .ok (.return_, 1) := by decide +kernel
theorem dX6_begin_0 : decode cX6_begin 0 = .ok (.aload_n 0, 1) := by decide +kernel
theorem dX6_begin_1 : decode cX6_begin 1 = .ok (.iload_n 1, 1) := by decide +kernel
theorem dX6_begin_2 : decode cX6_begin 2 = .ok (.putfield 29, 3) := by decide +kernel
theorem dX6_begin_5 : decode cX6_begin 5 = .ok (.aload_n 0, 1) := by decide +kernel
theorem dX6_begin_6 : decode cX6_begin 6 = .ok (.iload_n 2, 1) := by decide +kernel
theorem dX6_begin_7 : decode cX6_begin 7 = .ok (.putfield 33, 3) := by decide +kernel
theorem dX6_begin_10 : decode cX6_begin 10 = .ok (.aload_n 0, 1) := by decide +kernel
theorem dX6_begin_11 : decode cX6_begin 11 = .ok (.iload_n 2, 1) := by decide +kernel
theorem dX6_begin_12 : decode cX6_begin 12 = .ok (.iconst (-1), 1) := by decide +kernel
theorem dX6_begin_13 : decode cX6_begin 13 = .ok (.if_icmp .ne 7, 3) := by decide +kernel
theorem dX6_begin_16 : decode cX6_begin 16 = .ok (.iconst 1, 1) := by decide +kernel
theorem dX6_begin_17 : decode cX6_begin 17 = .ok (.goto 4, 3) := by decide +kernel
theorem dX6_begin_20 : decode cX6_begin 20 = .ok (.iconst 2, 1) := by decide +kernel
theorem dX6_begin_21 : decode cX6_begin 21 = .ok (.putfield 36, 3) := by decide +kernel
theorem dX6_begin_24 : decode cX6_begin 24 = .ok (.aload_n 0, 1) := by decide +kernel
theorem dX6_begin_25 : decode cX6_begin 25 = .ok (.iload_n 3, 1) := by decide +kernel
theorem dX6_begin_26 : decode cX6_begin 26 = .ok (.putfield 39, 3) := by decide +kernel
theorem dX6_begin_29 : decode cX6_begin 29 = .ok (.aload_n 0, 1) := by decide +kernel
theorem dX6_begin_30 : decode cX6_begin 30 = .ok (.iload 4, 2) := by decide +kernel
theorem dX6_begin_32 : decode cX6_begin 32 = .ok (.putfield 42, 3) := by decide +kernel
theorem dX6_begin_35 : decode cX6_begin 35 = .ok (.return_, 1) := by decide +kernel
theorem dX6_isTurning_0 : decode cX6_isTurning 0 = .ok (.iload_n 1, 1) := by decide +kernel
theorem dX6_isTurning_1 : decode cX6_isTurning 1 = .ok (.aload_n 0, 1) := by decide +kernel
theorem dX6_isTurning_2 : decode cX6_isTurning 2 = .ok (.getfield 29, 3) := by decide +kernel
theorem dX6_isTurning_5 : decode cX6_isTurning 5 = .ok (.if_icmp .eq 11, 3) := by decide +kernel
theorem dX6_isTurning_8 : decode cX6_isTurning 8 = .ok (.iload_n 1, 1) := by decide +kernel
theorem dX6_isTurning_9 : decode cX6_isTurning 9 = .ok (.aload_n 0, 1) := by decide +kernel
theorem dX6_isTurning_10 : decode cX6_isTurning 10 = .ok (.getfield 33, 3) := by decide +kernel
theorem dX6_isTurning_13 : decode cX6_isTurning 13 = .ok (.if_icmp .ne 7, 3) := by decide +kernel
theorem dX6_isTurning_16 : decode cX6_isTurning 16 = .ok (.iconst 1, 1) := by decide +kernel
theorem dX6_isTurning_17 : decode cX6_isTurning 17 = .ok (.goto 4, 3) := by decide +kernel
theorem dX6_isTurning_20 : decode cX6_isTurning 20 = .ok (.iconst 0, 1) := by decide +kernel
theorem dX6_isTurning_21 : decode cX6_isTurning 21 = .ok (.ireturn, 1) := by decide +kernel
theorem dX6_slots_0 : decode cX6_slots 0 = .ok (.iconst 4, 1) := by decide +kernel
theorem dX6_slots_1 : decode cX6_slots 1 = .ok (.aload_n 0, 1) := by decide +kernel
theorem dX6_slots_2 : decode cX6_slots 2 = .ok (.getfield 36, 3) := by decide +kernel
theorem dX6_slots_5 : decode cX6_slots 5 = .ok (.aload_n 0, 1) := by decide +kernel
theorem dX6_slots_6 : decode cX6_slots 6 = .ok (.getfield 39, 3) := by decide +kernel
theorem dX6_slots_9 : decode cX6_slots 9 = .ok (.imul, 1) := by decide +kernel
theorem dX6_slots_10 : decode cX6_slots 10 = .ok (.invokestatic 45, 3) := by decide +kernel
theorem dX6_slots_13 : decode cX6_slots 13 = .ok (.ireturn, 1) := by decide +kernel
theorem dX6_waysToVisit_0 : decode cX6_waysToVisit 0 = .ok (.iconst 1, 1) := by decide +kernel
theorem dX6_waysToVisit_1 : decode cX6_waysToVisit 1 = .ok (.aload_n 0, 1) := by decide +kernel
theorem dX6_waysToVisit_2 : decode cX6_waysToVisit 2 = .ok (.invokevirtual 51, 3) := by decide +kernel
theorem dX6_waysToVisit_5 : decode cX6_waysToVisit 5 = .ok (.ishl, 1) := by decide +kernel
theorem dX6_waysToVisit_6 : decode cX6_waysToVisit 6 = .ok (.ireturn, 1) := by decide +kernel
theorem dX6_visitsIn_0 : decode cX6_visitsIn 0 = .ok (.iload_n 2, 1) := by decide +kernel
theorem dX6_visitsIn_1 : decode cX6_visitsIn 1 = .ok (.aload_n 0, 1) := by decide +kernel
theorem dX6_visitsIn_2 : decode cX6_visitsIn 2 = .ok (.getfield 36, 3) := by decide +kernel
theorem dX6_visitsIn_5 : decode cX6_visitsIn 5 = .ok (.imul, 1) := by decide +kernel
theorem dX6_visitsIn_6 : decode cX6_visitsIn 6 = .ok (.iload_n 3, 1) := by decide +kernel
theorem dX6_visitsIn_7 : decode cX6_visitsIn 7 = .ok (.aload_n 0, 1) := by decide +kernel
theorem dX6_visitsIn_8 : decode cX6_visitsIn 8 = .ok (.getfield 29, 3) := by decide +kernel
theorem dX6_visitsIn_11 : decode cX6_visitsIn 11 = .ok (.if_icmp .ne 7, 3) := by decide +kernel
theorem dX6_visitsIn_14 : decode cX6_visitsIn 14 = .ok (.iconst 0, 1) := by decide +kernel
theorem dX6_visitsIn_15 : decode cX6_visitsIn 15 = .ok (.goto 4, 3) := by decide +kernel
theorem dX6_visitsIn_18 : decode cX6_visitsIn 18 = .ok (.iconst 1, 1) := by decide +kernel
theorem dX6_visitsIn_19 : decode cX6_visitsIn 19 = .ok (.iadd, 1) := by decide +kernel
theorem dX6_visitsIn_20 : decode cX6_visitsIn 20 = .ok (.istore 4, 2) := by decide +kernel
theorem dX6_visitsIn_22 : decode cX6_visitsIn 22 = .ok (.iload_n 1, 1) := by decide +kernel
theorem dX6_visitsIn_23 : decode cX6_visitsIn 23 = .ok (.iload 4, 2) := by decide +kernel
theorem dX6_visitsIn_25 : decode cX6_visitsIn 25 = .ok (.ishr, 1) := by decide +kernel
theorem dX6_visitsIn_26 : decode cX6_visitsIn 26 = .ok (.iconst 1, 1) := by decide +kernel
theorem dX6_visitsIn_27 : decode cX6_visitsIn 27 = .ok (.iand, 1) := by decide +kernel
theorem dX6_visitsIn_28 : decode cX6_visitsIn 28 = .ok (.iconst 1, 1) := by decide +kernel
theorem dX6_visitsIn_29 : decode cX6_visitsIn 29 = .ok (.if_icmp .ne 7, 3) := by decide +kernel
theorem dX6_visitsIn_32 : decode cX6_visitsIn 32 = .ok (.iconst 1, 1) := by decide +kernel
theorem dX6_visitsIn_33 : decode cX6_visitsIn 33 = .ok (.goto 4, 3) := by decide +kernel
theorem dX6_visitsIn_36 : decode cX6_visitsIn 36 = .ok (.iconst 0, 1) := by decide +kernel
theorem dX6_visitsIn_37 : decode cX6_visitsIn 37 = .ok (.ireturn, 1) := by decide +kernel
theorem dX6_pieceOfStep_0 : decode cX6_pieceOfStep 0 = .ok (.iload_n 1, 1) := by decide +kernel
theorem dX6_pieceOfStep_1 : decode cX6_pieceOfStep 1 = .ok (.ifCond .lt 23, 3) := by decide +kernel
theorem dX6_pieceOfStep_4 : decode cX6_pieceOfStep 4 = .ok (.iload_n 1, 1) := by decide +kernel
theorem dX6_pieceOfStep_5 : decode cX6_pieceOfStep 5 = .ok (.aload_n 0, 1) := by decide +kernel
theorem dX6_pieceOfStep_6 : decode cX6_pieceOfStep 6 = .ok (.getfield 39, 3) := by decide +kernel
theorem dX6_pieceOfStep_9 : decode cX6_pieceOfStep 9 = .ok (.if_icmp .ge 15, 3) := by decide +kernel
theorem dX6_pieceOfStep_12 : decode cX6_pieceOfStep 12 = .ok (.iload_n 2, 1) := by decide +kernel
theorem dX6_pieceOfStep_13 : decode cX6_pieceOfStep 13 = .ok (.ifCond .lt 11, 3) := by decide +kernel
theorem dX6_pieceOfStep_16 : decode cX6_pieceOfStep 16 = .ok (.iload_n 2, 1) := by decide +kernel
theorem dX6_pieceOfStep_17 : decode cX6_pieceOfStep 17 = .ok (.aload_n 0, 1) := by decide +kernel
theorem dX6_pieceOfStep_18 : decode cX6_pieceOfStep 18 = .ok (.getfield 36, 3) := by decide +kernel
theorem dX6_pieceOfStep_21 : decode cX6_pieceOfStep 21 = .ok (.if_icmp .lt 6, 3) := by decide +kernel
theorem dX6_pieceOfStep_24 : decode cX6_pieceOfStep 24 = .ok (.bipush (-9), 2) := by decide +kernel
theorem dX6_pieceOfStep_26 : decode cX6_pieceOfStep 26 = .ok (.ireturn, 1) := by decide +kernel
theorem dX6_pieceOfStep_27 : decode cX6_pieceOfStep 27 = .ok (.aload_n 0, 1) := by decide +kernel
theorem dX6_pieceOfStep_28 : decode cX6_pieceOfStep 28 = .ok (.getfield 23, 3) := by decide +kernel
theorem dX6_pieceOfStep_31 : decode cX6_pieceOfStep 31 = .ok (.iload_n 1, 1) := by decide +kernel
theorem dX6_pieceOfStep_32 : decode cX6_pieceOfStep 32 = .ok (.aload_n 0, 1) := by decide +kernel
theorem dX6_pieceOfStep_33 : decode cX6_pieceOfStep 33 = .ok (.getfield 36, 3) := by decide +kernel
theorem dX6_pieceOfStep_36 : decode cX6_pieceOfStep 36 = .ok (.imul, 1) := by decide +kernel
theorem dX6_pieceOfStep_37 : decode cX6_pieceOfStep 37 = .ok (.iload_n 2, 1) := by decide +kernel
theorem dX6_pieceOfStep_38 : decode cX6_pieceOfStep 38 = .ok (.iadd, 1) := by decide +kernel
theorem dX6_pieceOfStep_39 : decode cX6_pieceOfStep 39 = .ok (.iaload, 1) := by decide +kernel
theorem dX6_pieceOfStep_40 : decode cX6_pieceOfStep 40 = .ok (.ireturn, 1) := by decide +kernel
theorem dX6_choose_0 : decode cX6_choose 0 = .ok (.bipush (-9), 2) := by decide +kernel
theorem dX6_choose_2 : decode cX6_choose 2 = .ok (.istore_n 2, 1) := by decide +kernel
theorem dX6_choose_3 : decode cX6_choose 3 = .ok (.iconst 1, 1) := by decide +kernel
theorem dX6_choose_4 : decode cX6_choose 4 = .ok (.istore_n 3, 1) := by decide +kernel
theorem dX6_choose_5 : decode cX6_choose 5 = .ok (.iconst 0, 1) := by decide +kernel
theorem dX6_choose_6 : decode cX6_choose 6 = .ok (.istore 4, 2) := by decide +kernel
theorem dX6_choose_8 : decode cX6_choose 8 = .ok (.iload 4, 2) := by decide +kernel
theorem dX6_choose_10 : decode cX6_choose 10 = .ok (.aload_n 0, 1) := by decide +kernel
theorem dX6_choose_11 : decode cX6_choose 11 = .ok (.invokevirtual 51, 3) := by decide +kernel
theorem dX6_choose_14 : decode cX6_choose 14 = .ok (.if_icmp .ge 21, 3) := by decide +kernel
theorem dX6_choose_17 : decode cX6_choose 17 = .ok (.aload_n 0, 1) := by decide +kernel
theorem dX6_choose_18 : decode cX6_choose 18 = .ok (.getfield 20, 3) := by decide +kernel
theorem dX6_choose_21 : decode cX6_choose 21 = .ok (.iload 4, 2) := by decide +kernel
theorem dX6_choose_23 : decode cX6_choose 23 = .ok (.iconst 0, 1) := by decide +kernel
theorem dX6_choose_24 : decode cX6_choose 24 = .ok (.iastore, 1) := by decide +kernel
theorem dX6_choose_25 : decode cX6_choose 25 = .ok (.iload_n 3, 1) := by decide +kernel
theorem dX6_choose_26 : decode cX6_choose 26 = .ok (.iload_n 1, 1) := by decide +kernel
theorem dX6_choose_27 : decode cX6_choose 27 = .ok (.imul, 1) := by decide +kernel
theorem dX6_choose_28 : decode cX6_choose 28 = .ok (.istore_n 3, 1) := by decide +kernel
theorem dX6_choose_29 : decode cX6_choose 29 = .ok (.iinc 4 1, 3) := by decide +kernel
theorem dX6_choose_32 : decode cX6_choose 32 = .ok (.goto (-24), 3) := by decide +kernel
theorem dX6_choose_35 : decode cX6_choose 35 = .ok (.iconst 0, 1) := by decide +kernel
theorem dX6_choose_36 : decode cX6_choose 36 = .ok (.istore 4, 2) := by decide +kernel
theorem dX6_choose_38 : decode cX6_choose 38 = .ok (.iload 4, 2) := by decide +kernel
theorem dX6_choose_40 : decode cX6_choose 40 = .ok (.iload_n 3, 1) := by decide +kernel
theorem dX6_choose_41 : decode cX6_choose 41 = .ok (.if_icmp .ge 56, 3) := by decide +kernel
theorem dX6_choose_44 : decode cX6_choose 44 = .ok (.aload_n 0, 1) := by decide +kernel
theorem dX6_choose_45 : decode cX6_choose 45 = .ok (.invokevirtual 55, 3) := by decide +kernel
theorem dX6_choose_48 : decode cX6_choose 48 = .ok (.ifCond .eq 38, 3) := by decide +kernel
theorem dX6_choose_51 : decode cX6_choose 51 = .ok (.aload_n 0, 1) := by decide +kernel
theorem dX6_choose_52 : decode cX6_choose 52 = .ok (.invokevirtual 59, 3) := by decide +kernel
theorem dX6_choose_55 : decode cX6_choose 55 = .ok (.istore 5, 2) := by decide +kernel
theorem dX6_choose_57 : decode cX6_choose 57 = .ok (.iload_n 2, 1) := by decide +kernel
theorem dX6_choose_58 : decode cX6_choose 58 = .ok (.bipush (-9), 2) := by decide +kernel
theorem dX6_choose_60 : decode cX6_choose 60 = .ok (.if_icmp .eq 9, 3) := by decide +kernel
theorem dX6_choose_63 : decode cX6_choose 63 = .ok (.iload 5, 2) := by decide +kernel
theorem dX6_choose_65 : decode cX6_choose 65 = .ok (.iload_n 2, 1) := by decide +kernel
theorem dX6_choose_66 : decode cX6_choose 66 = .ok (.if_icmp .ge 20, 3) := by decide +kernel
theorem dX6_choose_69 : decode cX6_choose 69 = .ok (.iload 5, 2) := by decide +kernel
theorem dX6_choose_71 : decode cX6_choose 71 = .ok (.istore_n 2, 1) := by decide +kernel
theorem dX6_choose_72 : decode cX6_choose 72 = .ok (.aload_n 0, 1) := by decide +kernel
theorem dX6_choose_73 : decode cX6_choose 73 = .ok (.getfield 20, 3) := by decide +kernel
theorem dX6_choose_76 : decode cX6_choose 76 = .ok (.iconst 0, 1) := by decide +kernel
theorem dX6_choose_77 : decode cX6_choose 77 = .ok (.aload_n 0, 1) := by decide +kernel
theorem dX6_choose_78 : decode cX6_choose 78 = .ok (.getfield 23, 3) := by decide +kernel
theorem dX6_choose_81 : decode cX6_choose 81 = .ok (.iconst 0, 1) := by decide +kernel
theorem dX6_choose_82 : decode cX6_choose 82 = .ok (.iconst 4, 1) := by decide +kernel
theorem dX6_choose_83 : decode cX6_choose 83 = .ok (.invokestatic 62, 3) := by decide +kernel
theorem dX6_choose_86 : decode cX6_choose 86 = .ok (.aload_n 0, 1) := by decide +kernel
theorem dX6_choose_87 : decode cX6_choose 87 = .ok (.iload_n 1, 1) := by decide +kernel
theorem dX6_choose_88 : decode cX6_choose 88 = .ok (.invokevirtual 68, 3) := by decide +kernel
theorem dX6_choose_91 : decode cX6_choose 91 = .ok (.iinc 4 1, 3) := by decide +kernel
theorem dX6_choose_94 : decode cX6_choose 94 = .ok (.goto (-56), 3) := by decide +kernel
theorem dX6_choose_97 : decode cX6_choose 97 = .ok (.iload_n 2, 1) := by decide +kernel
theorem dX6_choose_98 : decode cX6_choose 98 = .ok (.ireturn, 1) := by decide +kernel
theorem dX6_isOpen_0 : decode cX6_isOpen 0 = .ok (.iconst 0, 1) := by decide +kernel
theorem dX6_isOpen_1 : decode cX6_isOpen 1 = .ok (.istore_n 1, 1) := by decide +kernel
theorem dX6_isOpen_2 : decode cX6_isOpen 2 = .ok (.iload_n 1, 1) := by decide +kernel
theorem dX6_isOpen_3 : decode cX6_isOpen 3 = .ok (.aload_n 0, 1) := by decide +kernel
theorem dX6_isOpen_4 : decode cX6_isOpen 4 = .ok (.getfield 39, 3) := by decide +kernel
theorem dX6_isOpen_7 : decode cX6_isOpen 7 = .ok (.if_icmp .ge 52, 3) := by decide +kernel
theorem dX6_isOpen_10 : decode cX6_isOpen 10 = .ok (.iconst 0, 1) := by decide +kernel
theorem dX6_isOpen_11 : decode cX6_isOpen 11 = .ok (.istore_n 2, 1) := by decide +kernel
theorem dX6_isOpen_12 : decode cX6_isOpen 12 = .ok (.iload_n 2, 1) := by decide +kernel
theorem dX6_isOpen_13 : decode cX6_isOpen 13 = .ok (.aload_n 0, 1) := by decide +kernel
theorem dX6_isOpen_14 : decode cX6_isOpen 14 = .ok (.getfield 36, 3) := by decide +kernel
theorem dX6_isOpen_17 : decode cX6_isOpen 17 = .ok (.if_icmp .ge 36, 3) := by decide +kernel
theorem dX6_isOpen_20 : decode cX6_isOpen 20 = .ok (.aload_n 0, 1) := by decide +kernel
theorem dX6_isOpen_21 : decode cX6_isOpen 21 = .ok (.getfield 16, 3) := by decide +kernel
theorem dX6_isOpen_24 : decode cX6_isOpen 24 = .ok (.iload_n 1, 1) := by decide +kernel
theorem dX6_isOpen_25 : decode cX6_isOpen 25 = .ok (.iaload, 1) := by decide +kernel
theorem dX6_isOpen_26 : decode cX6_isOpen 26 = .ok (.aload_n 0, 1) := by decide +kernel
theorem dX6_isOpen_27 : decode cX6_isOpen 27 = .ok (.getfield 20, 3) := by decide +kernel
theorem dX6_isOpen_30 : decode cX6_isOpen 30 = .ok (.iload_n 1, 1) := by decide +kernel
theorem dX6_isOpen_31 : decode cX6_isOpen 31 = .ok (.aload_n 0, 1) := by decide +kernel
theorem dX6_isOpen_32 : decode cX6_isOpen 32 = .ok (.getfield 36, 3) := by decide +kernel
theorem dX6_isOpen_35 : decode cX6_isOpen 35 = .ok (.imul, 1) := by decide +kernel
theorem dX6_isOpen_36 : decode cX6_isOpen 36 = .ok (.iload_n 2, 1) := by decide +kernel
theorem dX6_isOpen_37 : decode cX6_isOpen 37 = .ok (.iadd, 1) := by decide +kernel
theorem dX6_isOpen_38 : decode cX6_isOpen 38 = .ok (.iaload, 1) := by decide +kernel
theorem dX6_isOpen_39 : decode cX6_isOpen 39 = .ok (.ishr, 1) := by decide +kernel
