theorem dX1_init_0 : decode cX1_init 0 = .ok (.aload_n 0, 1) := by decide +kernel
theorem dX1_init_1 : decode cX1_init 1 = .ok (.invokespecial 3, 3) := by decide +kernel
theorem dX1_init_4 : decode cX1_init 4 = .ok (.aload_n 0, 1) := by decide +kernel
theorem dX1_init_5 : decode cX1_init 5 = .ok (.bipush 6, 2) := by decide +kernel
theorem dX1_init_7 : decode cX1_init 7 = .ok (.newarray .int, 2) := by decide +kernel
theorem dX1_init_9 : decode cX1_init 9 = .ok (.putfield 9, 3) := by decide +kernel
theorem dX1_init_12 : decode cX1_init 12 = .ok (.aload_n 0, 1) := by decide +kernel
theorem dX1_init_13 : decode cX1_init 13 = .ok (.bipush 6, 2) := by decide +kernel
theorem dX1_init_15 : decode cX1_init 15 = .ok (.newarray .int, 2) := by decide +kernel
theorem dX1_init_17 : decode cX1_init 17 = .ok (.putfield 15, 3) := by decide +kernel
theorem dX1_init_20 : decode cX1_init 20 = .ok (.aload_n 0, 1) := by decide +kernel
theorem dX1_init_21 : decode cX1_init 21 = .ok (.bipush 6, 2) := by decide +kernel
theorem dX1_init_23 : decode cX1_init 23 = .ok (.newarray .int, 2) := by decide +kernel
theorem dX1_init_25 : decode cX1_init 25 = .ok (.putfield 18, 3) := by decide +kernel
theorem dX1_init_28 : decode cX1_init 28 = .ok (.aload_n 0, 1) := by decide +kernel
theorem dX1_init_29 : decode cX1_init 29 = .ok (.iconst 0, 1) := by decide +kernel
theorem dX1_init_30 : decode cX1_init 30 = .ok (.putfield 21, 3) := by decide +kernel
theorem dX1_init_33 : decode cX1_init 33 = .ok (.aload_n 0, 1) := by decide +kernel
theorem dX1_init_34 : decode cX1_init 34 = .ok (.iconst 0, 1) := by decide +kernel
theorem dX1_init_35 : decode cX1_init 35 = .ok (.putfield 25, 3) := by decide +kernel
theorem dX1_init_38 : decode cX1_init 38 = .ok (.return_, 1) := by decide +kernel
theorem dX1_clear_0 : decode cX1_clear 0 = .ok (.iconst 0, 1) := by decide +kernel
theorem dX1_clear_1 : decode cX1_clear 1 = .ok (.istore_n 1, 1) := by decide +kernel
theorem dX1_clear_2 : decode cX1_clear 2 = .ok (.iload_n 1, 1) := by decide +kernel
theorem dX1_clear_3 : decode cX1_clear 3 = .ok (.bipush 6, 2) := by decide +kernel
theorem dX1_clear_5 : decode cX1_clear 5 = .ok (.if_icmp .ge 30, 3) := by decide +kernel
theorem dX1_clear_8 : decode cX1_clear 8 = .ok (.aload_n 0, 1) := by decide +kernel
theorem dX1_clear_9 : decode cX1_clear 9 = .ok (.getfield 9, 3) := by decide +kernel
theorem dX1_clear_12 : decode cX1_clear 12 = .ok (.iload_n 1, 1) := by decide +kernel
theorem dX1_clear_13 : decode cX1_clear 13 = .ok (.iconst 0, 1) := by decide +kernel
theorem dX1_clear_14 : decode cX1_clear 14 = .ok (.iastore, 1) := by decide +kernel
theorem dX1_clear_15 : decode cX1_clear 15 = .ok (.aload_n 0, 1) := by decide +kernel
theorem dX1_clear_16 : decode cX1_clear 16 = .ok (.getfield 15, 3) := by decide +kernel
theorem dX1_clear_19 : decode cX1_clear 19 = .ok (.iload_n 1, 1) := by decide +kernel
theorem dX1_clear_20 : decode cX1_clear 20 = .ok (.iconst 0, 1) := by decide +kernel
theorem dX1_clear_21 : decode cX1_clear 21 = .ok (.iastore, 1) := by decide +kernel
theorem dX1_clear_22 : decode cX1_clear 22 = .ok (.aload_n 0, 1) := by decide +kernel
theorem dX1_clear_23 : decode cX1_clear 23 = .ok (.getfield 18, 3) := by decide +kernel
theorem dX1_clear_26 : decode cX1_clear 26 = .ok (.iload_n 1, 1) := by decide +kernel
theorem dX1_clear_27 : decode cX1_clear 27 = .ok (.iconst 0, 1) := by decide +kernel
theorem dX1_clear_28 : decode cX1_clear 28 = .ok (.iastore, 1) := by decide +kernel
theorem dX1_clear_29 : decode cX1_clear 29 = .ok (.iinc 1 1, 3) := by decide +kernel
theorem dX1_clear_32 : decode cX1_clear 32 = .ok (.goto (-30), 3) := by decide +kernel
theorem dX1_clear_35 : decode cX1_clear 35 = .ok (.aload_n 0, 1) := by decide +kernel
theorem dX1_clear_36 : decode cX1_clear 36 = .ok (.iconst 0, 1) := by decide +kernel
theorem dX1_clear_37 : decode cX1_clear 37 = .ok (.putfield 21, 3) := by decide +kernel
theorem dX1_clear_40 : decode cX1_clear 40 = .ok (.aload_n 0, 1) := by decide +kernel
theorem dX1_clear_41 : decode cX1_clear 41 = .ok (.iconst 0, 1) := by decide +kernel
theorem dX1_clear_42 : decode cX1_clear 42 = .ok (.putfield 25, 3) := by decide +kernel
theorem dX1_clear_45 : decode cX1_clear 45 = .ok (.return_, 1) := by decide +kernel
theorem dX1_partsOut_0 : decode cX1_partsOut 0 = .ok (.iconst 0, 1) := by decide +kernel
theorem dX1_partsOut_1 : decode cX1_partsOut 1 = .ok (.istore_n 1, 1) := by decide +kernel
theorem dX1_partsOut_2 : decode cX1_partsOut 2 = .ok (.iconst 0, 1) := by decide +kernel
theorem dX1_partsOut_3 : decode cX1_partsOut 3 = .ok (.istore_n 2, 1) := by decide +kernel
theorem dX1_partsOut_4 : decode cX1_partsOut 4 = .ok (.iload_n 2, 1) := by decide +kernel
theorem dX1_partsOut_5 : decode cX1_partsOut 5 = .ok (.bipush 6, 2) := by decide +kernel
theorem dX1_partsOut_7 : decode cX1_partsOut 7 = .ok (.if_icmp .ge 25, 3) := by decide +kernel
theorem dX1_partsOut_10 : decode cX1_partsOut 10 = .ok (.iload_n 1, 1) := by decide +kernel
theorem dX1_partsOut_11 : decode cX1_partsOut 11 = .ok (.aload_n 0, 1) := by decide +kernel
theorem dX1_partsOut_12 : decode cX1_partsOut 12 = .ok (.getfield 9, 3) := by decide +kernel
theorem dX1_partsOut_15 : decode cX1_partsOut 15 = .ok (.iload_n 2, 1) := by decide +kernel
theorem dX1_partsOut_16 : decode cX1_partsOut 16 = .ok (.iaload, 1) := by decide +kernel
theorem dX1_partsOut_17 : decode cX1_partsOut 17 = .ok (.aload_n 0, 1) := by decide +kernel
theorem dX1_partsOut_18 : decode cX1_partsOut 18 = .ok (.getfield 15, 3) := by decide +kernel
theorem dX1_partsOut_21 : decode cX1_partsOut 21 = .ok (.iload_n 2, 1) := by decide +kernel
theorem dX1_partsOut_22 : decode cX1_partsOut 22 = .ok (.iaload, 1) := by decide +kernel
theorem dX1_partsOut_23 : decode cX1_partsOut 23 = .ok (.iadd, 1) := by decide +kernel
theorem dX1_partsOut_24 : decode cX1_partsOut 24 = .ok (.iadd, 1) := by decide +kernel
theorem dX1_partsOut_25 : decode cX1_partsOut 25 = .ok (.istore_n 1, 1) := by decide +kernel
theorem dX1_partsOut_26 : decode cX1_partsOut 26 = .ok (.iinc 2 1, 3) := by decide +kernel
theorem dX1_partsOut_29 : decode cX1_partsOut 29 = .ok (.goto (-25), 3) := by decide +kernel
theorem dX1_partsOut_32 : decode cX1_partsOut 32 = .ok (.iload_n 1, 1) := by decide +kernel
theorem dX1_partsOut_33 : decode cX1_partsOut 33 = .ok (.ireturn, 1) := by decide +kernel
theorem dX1_partsHeld_0 : decode cX1_partsHeld 0 = .ok (.aload_n 0, 1) := by decide +kernel
theorem dX1_partsHeld_1 : decode cX1_partsHeld 1 = .ok (.getfield 21, 3) := by decide +kernel
theorem dX1_partsHeld_4 : decode cX1_partsHeld 4 = .ok (.aload_n 0, 1) := by decide +kernel
theorem dX1_partsHeld_5 : decode cX1_partsHeld 5 = .ok (.getfield 25, 3) := by decide +kernel
theorem dX1_partsHeld_8 : decode cX1_partsHeld 8 = .ok (.iadd, 1) := by decide +kernel
theorem dX1_partsHeld_9 : decode cX1_partsHeld 9 = .ok (.istore_n 1, 1) := by decide +kernel
theorem dX1_partsHeld_10 : decode cX1_partsHeld 10 = .ok (.iconst 0, 1) := by decide +kernel
theorem dX1_partsHeld_11 : decode cX1_partsHeld 11 = .ok (.istore_n 2, 1) := by decide +kernel
theorem dX1_partsHeld_12 : decode cX1_partsHeld 12 = .ok (.iload_n 2, 1) := by decide +kernel
theorem dX1_partsHeld_13 : decode cX1_partsHeld 13 = .ok (.bipush 6, 2) := by decide +kernel
theorem dX1_partsHeld_15 : decode cX1_partsHeld 15 = .ok (.if_icmp .ge 18, 3) := by decide +kernel
theorem dX1_partsHeld_18 : decode cX1_partsHeld 18 = .ok (.iload_n 1, 1) := by decide +kernel
theorem dX1_partsHeld_19 : decode cX1_partsHeld 19 = .ok (.aload_n 0, 1) := by decide +kernel
theorem dX1_partsHeld_20 : decode cX1_partsHeld 20 = .ok (.getfield 18, 3) := by decide +kernel
theorem dX1_partsHeld_23 : decode cX1_partsHeld 23 = .ok (.iload_n 2, 1) := by decide +kernel
theorem dX1_partsHeld_24 : decode cX1_partsHeld 24 = .ok (.iaload, 1) := by decide +kernel
theorem dX1_partsHeld_25 : decode cX1_partsHeld 25 = .ok (.iadd, 1) := by decide +kernel
theorem dX1_partsHeld_26 : decode cX1_partsHeld 26 = .ok (.istore_n 1, 1) := by decide +kernel
theorem dX1_partsHeld_27 : decode cX1_partsHeld 27 = .ok (.iinc 2 1, 3) := by decide +kernel
theorem dX1_partsHeld_30 : decode cX1_partsHeld 30 = .ok (.goto (-18), 3) := by decide +kernel
theorem dX1_partsHeld_33 : decode cX1_partsHeld 33 = .ok (.iload_n 1, 1) := by decide +kernel
theorem dX1_partsHeld_34 : decode cX1_partsHeld 34 = .ok (.ireturn, 1) := by decide +kernel
theorem dX3_init_0 : decode cX3_init 0 = .ok (.aload_n 0, 1) := by decide +kernel
theorem dX3_init_1 : decode cX3_init 1 = .ok (.invokespecial 3, 3) := by decide +kernel
theorem dX3_init_4 : decode cX3_init 4 = .ok (.aload_n 0, 1) := by decide +kernel
theorem dX3_init_5 : decode cX3_init 5 = .ok (.bipush 20, 2) := by decide +kernel
theorem dX3_init_7 : decode cX3_init 7 = .ok (.newarray .int, 2) := by decide +kernel
theorem dX3_init_9 : decode cX3_init 9 = .ok (.putfield 9, 3) := by decide +kernel
theorem dX3_init_12 : decode cX3_init 12 = .ok (.aload_n 0, 1) := by decide +kernel
theorem dX3_init_13 : decode cX3_init 13 = .ok (.bipush 20, 2) := by decide +kernel
theorem dX3_init_15 : decode cX3_init 15 = .ok (.newarray .int, 2) := by decide +kernel
theorem dX3_init_17 : decode cX3_init 17 = .ok (.putfield 15, 3) := by decide +kernel
theorem dX3_init_20 : decode cX3_init 20 = .ok (.aload_n 0, 1) := by decide +kernel
theorem dX3_init_21 : decode cX3_init 21 = .ok (.bipush 20, 2) := by decide +kernel
theorem dX3_init_23 : decode cX3_init 23 = .ok (.newarray .int, 2) := by decide +kernel
theorem dX3_init_25 : decode cX3_init 25 = .ok (.putfield 18, 3) := by decide +kernel
theorem dX3_init_28 : decode cX3_init 28 = .ok (.aload_n 0, 1) := by decide +kernel
theorem dX3_init_29 : decode cX3_init 29 = .ok (.bipush 20, 2) := by decide +kernel
theorem dX3_init_31 : decode cX3_init 31 = .ok (.newarray .int, 2) := by decide +kernel
theorem dX3_init_33 : decode cX3_init 33 = .ok (.putfield 21, 3) := by decide +kernel
theorem dX3_init_36 : decode cX3_init 36 = .ok (.aload_n 0, 1) := by decide +kernel
theorem dX3_init_37 : decode cX3_init 37 = .ok (.iconst 0, 1) := by decide +kernel
theorem dX3_init_38 : decode cX3_init 38 = .ok (.putfield 24, 3) := by decide +kernel
theorem dX3_init_41 : decode cX3_init 41 = .ok (.aload_n 0, 1) := by decide +kernel
theorem dX3_init_42 : decode cX3_init 42 = .ok (.iconst 0, 1) := by decide +kernel
theorem dX3_init_43 : decode cX3_init 43 = .ok (.putfield 28, 3) := by decide +kernel
theorem dX3_init_46 : decode cX3_init 46 = .ok (.aload_n 0, 1) := by decide +kernel
theorem dX3_init_47 : decode cX3_init 47 = .ok (.iconst 0, 1) := by decide +kernel
theorem dX3_init_48 : decode cX3_init 48 = .ok (.putfield 31, 3) := by decide +kernel
theorem dX3_init_51 : decode cX3_init 51 = .ok (.return_, 1) := by decide +kernel
theorem dX4_init_0 : decode cX4_init 0 = .ok (.aload_n 0, 1) := by decide +kernel
theorem dX4_init_1 : decode cX4_init 1 = .ok (.invokespecial 1, 3) := by decide +kernel
theorem dX4_init_4 : decode cX4_init 4 = .ok (.aload_n 0, 1) := by decide +kernel
theorem dX4_init_5 : decode cX4_init 5 = .ok (.iconst (-1), 1) := by decide +kernel
theorem dX4_init_6 : decode cX4_init 6 = .ok (.putfield 7, 3) := by decide +kernel
theorem dX4_init_9 : decode cX4_init 9 = .ok (.aload_n 0, 1) := by decide +kernel
theorem dX4_init_10 : decode cX4_init 10 = .ok (.iconst 0, 1) := by decide +kernel
theorem dX4_init_11 : decode cX4_init 11 = .ok (.putfield 13, 3) := by decide +kernel
theorem dX4_init_14 : decode cX4_init 14 = .ok (.aload_n 0, 1) := by decide +kernel
theorem dX4_init_15 : decode cX4_init 15 = .ok (.iload_n 1, 1) := by decide +kernel
theorem dX4_init_16 : decode cX4_init 16 = .ok (.putfield 16, 3) := by decide +kernel
theorem dX4_init_19 : decode cX4_init 19 = .ok (.aload_n 0, 1) := by decide +kernel
theorem dX4_init_20 : decode cX4_init 20 = .ok (.iload_n 2, 1) := by decide +kernel
theorem dX4_init_21 : decode cX4_init 21 = .ok (.putfield 19, 3) := by decide +kernel
theorem dX4_init_24 : decode cX4_init 24 = .ok (.aload_n 0, 1) := by decide +kernel
theorem dX4_init_25 : decode cX4_init 25 = .ok (.iload_n 3, 1) := by decide +kernel
theorem dX4_init_26 : decode cX4_init 26 = .ok (.putfield 22, 3) := by decide +kernel
theorem dX4_init_29 : decode cX4_init 29 = .ok (.aload_n 0, 1) := by decide +kernel
theorem dX4_init_30 : decode cX4_init 30 = .ok (.iload 4, 2) := by decide +kernel
theorem dX4_init_32 : decode cX4_init 32 = .ok (.putfield 25, 3) := by decide +kernel
theorem dX4_init_35 : decode cX4_init 35 = .ok (.return_, 1) := by decide +kernel
theorem dX5_init_0 : decode cX5_init 0 = .ok (.aload_n 0, 1) := by decide +kernel
theorem dX5_init_1 : decode cX5_init 1 = .ok (.invokespecial 1, 3) := by decide +kernel
theorem dX5_init_4 : decode cX5_init 4 = .ok (.aload_n 0, 1) := by decide +kernel
theorem dX5_init_5 : decode cX5_init 5 = .ok (.iconst 0, 1) := by decide +kernel
theorem dX5_init_6 : decode cX5_init 6 = .ok (.putfield 7, 3) := by decide +kernel
theorem dX5_init_9 : decode cX5_init 9 = .ok (.aload_n 0, 1) := by decide +kernel
theorem dX5_init_10 : decode cX5_init 10 = .ok (.iload_n 1, 1) := by decide +kernel
theorem dX5_init_11 : decode cX5_init 11 = .ok (.putfield 13, 3) := by decide +kernel
theorem dX5_init_14 : decode cX5_init 14 = .ok (.return_, 1) := by decide +kernel
theorem dX6_init_0 : decode cX6_init 0 = .ok (.aload_n 0, 1) := by decide +kernel
theorem dX6_init_1 : decode cX6_init 1 = .ok (.invokespecial 3, 3) := by decide +kernel
theorem dX6_init_4 : decode cX6_init 4 = .ok (.aload_n 0, 1) := by decide +kernel
theorem dX6_init_5 : decode cX6_init 5 = .ok (.bipush 6, 2) := by decide +kernel
theorem dX6_init_7 : decode cX6_init 7 = .ok (.bipush 16, 2) := by decide +kernel
theorem dX6_init_9 : decode cX6_init 9 = .ok (.multianewarray 9 2, 4) := by decide +kernel
theorem dX6_init_13 : decode cX6_init 13 = .ok (.putfield 11, 3) := by decide +kernel
theorem dX6_init_16 : decode cX6_init 16 = .ok (.aload_n 0, 1) := by decide +kernel
theorem dX6_init_17 : decode cX6_init 17 = .ok (.iconst 4, 1) := by decide +kernel
theorem dX6_init_18 : decode cX6_init 18 = .ok (.newarray .int, 2) := by decide +kernel
theorem dX6_init_20 : decode cX6_init 20 = .ok (.putfield 16, 3) := by decide +kernel
theorem dX6_init_23 : decode cX6_init 23 = .ok (.aload_n 0, 1) := by decide +kernel
theorem dX6_init_24 : decode cX6_init 24 = .ok (.iconst 4, 1) := by decide +kernel
theorem dX6_init_25 : decode cX6_init 25 = .ok (.newarray .int, 2) := by decide +kernel
theorem dX6_init_27 : decode cX6_init 27 = .ok (.putfield 20, 3) := by decide +kernel
theorem dX6_init_30 : decode cX6_init 30 = .ok (.aload_n 0, 1) := by decide +kernel
theorem dX6_init_31 : decode cX6_init 31 = .ok (.iconst 4, 1) := by decide +kernel
theorem dX6_init_32 : decode cX6_init 32 = .ok (.newarray .int, 2) := by decide +kernel
theorem dX6_init_34 : decode cX6_init 34 = .ok (.putfield 23, 3) := by decide +kernel
theorem dX6_init_37 : decode cX6_init 37 = .ok (.aload_n 0, 1) := by decide +kernel
theorem dX6_init_38 : decode cX6_init 38 = .ok (.bipush 6, 2) := by decide +kernel
theorem dX6_init_40 : decode cX6_init 40 = .ok (.newarray .int, 2) := by decide +kernel
theorem dX6_init_42 : decode cX6_init 42 = .ok (.putfield 26, 3) := by decide +kernel
theorem dX6_init_45 : decode cX6_init 45 = .ok (.aload_n 0, 1) := by decide +kernel
theorem dX6_init_46 : decode cX6_init 46 = .ok (.iconst (-1), 1) := by decide +kernel
theorem dX6_init_47 : decode cX6_init 47 = .ok (.putfield 29, 3) := by decide +kernel
theorem dX6_init_50 : decode cX6_init 50 = .ok (.aload_n 0, 1) := by decide +kernel
theorem dX6_init_51 : decode cX6_init 51 = .ok (.iconst (-1), 1) := by decide +kernel
theorem dX6_init_52 : decode cX6_init 52 = .ok (.putfield 33, 3) := by decide +kernel
theorem dX6_init_55 : decode cX6_init 55 = .ok (.aload_n 0, 1) := by decide +kernel
theorem dX6_init_56 : decode cX6_init 56 = .ok (.iconst 1, 1) := by decide +kernel
theorem dX6_init_57 : decode cX6_init 57 = .ok (.putfield 36, 3) := by decide +kernel
theorem dX6_init_60 : decode cX6_init 60 = .ok (.aload_n 0, 1) := by decide +kernel
theorem dX6_init_61 : decode cX6_init 61 = .ok (.iconst 0, 1) := by decide +kernel
theorem dX6_init_62 : decode cX6_init 62 = .ok (.putfield 39, 3) := by decide +kernel
theorem dX6_init_65 : decode cX6_init 65 = .ok (.aload_n 0, 1) := by decide +kernel
theorem dX6_init_66 : decode cX6_init 66 = .ok (.iconst 0, 1) := by decide +kernel
theorem dX6_init_67 : decode cX6_init 67 = .ok (.putfield 42, 3) := by decide +kernel
theorem dX6_init_70 : decode cX6_init 70 = .ok (.return_, 1) := by decide +kernel
theorem dX6_pieceOfStep_0 : decode cX6_pieceOfStep 0 = .ok (.iload_n 1, 1) := by decide +kernel
theorem dX6_pieceOfStep_1 : decode cX6_pieceOfStep 1 = .ok (.ifCond .lt 23, 3) := by decide +kernel
theorem dX6_pieceOfStep_4 : decode cX6_pieceOfStep 4 = .ok (.iload_n 1, 1) := by decide +kernel
theorem dX6_pieceOfStep_5 : decode cX6_pieceOfStep 5 = .ok (.aload_n 0, 1) := by decide +kernel
theorem dX6_pieceOfStep_6 : decode cX6_pieceOfStep 6 = .ok (.getfield 39, 3) := by decide +kernel
theorem dX6_pieceOfStep_9 : decode cX6_pieceOfStep 9 = .ok (.if_icmp .ge 15, 3) := by decide +kernel
theorem dX6_pieceOfStep_24 : decode cX6_pieceOfStep 24 = .ok (.bipush (-9), 2) := by decide +kernel
theorem dX6_pieceOfStep_26 : decode cX6_pieceOfStep 26 = .ok (.ireturn, 1) := by decide +kernel
theorem dX7_init_0 : decode cX7_init 0 = .ok (.aload_n 0, 1) := by decide +kernel
theorem dX7_init_1 : decode cX7_init 1 = .ok (.invokespecial 3, 3) := by decide +kernel
theorem dX7_init_4 : decode cX7_init 4 = .ok (.aload_n 0, 1) := by decide +kernel
theorem dX7_init_5 : decode cX7_init 5 = .ok (.bipush 100, 2) := by decide +kernel
theorem dX7_init_7 : decode cX7_init 7 = .ok (.newarray .int, 2) := by decide +kernel
theorem dX7_init_9 : decode cX7_init 9 = .ok (.putfield 11, 3) := by decide +kernel
theorem dX7_init_12 : decode cX7_init 12 = .ok (.aload_n 0, 1) := by decide +kernel
theorem dX7_init_13 : decode cX7_init 13 = .ok (.sipush 721, 3) := by decide +kernel
theorem dX7_init_16 : decode cX7_init 16 = .ok (.newarray .int, 2) := by decide +kernel
theorem dX7_init_18 : decode cX7_init 18 = .ok (.putfield 15, 3) := by decide +kernel
theorem dX7_init_21 : decode cX7_init 21 = .ok (.return_, 1) := by decide +kernel
theorem dX7_isWeather_0 : decode cX7_isWeather 0 = .ok (.iload_n 0, 1) := by decide +kernel
theorem dX7_isWeather_1 : decode cX7_isWeather 1 = .ok (.ifCond .lt 23, 3) := by decide +kernel
theorem dX7_isWeather_4 : decode cX7_isWeather 4 = .ok (.iload_n 0, 1) := by decide +kernel
theorem dX7_isWeather_5 : decode cX7_isWeather 5 = .ok (.bipush 10, 2) := by decide +kernel
theorem dX7_isWeather_7 : decode cX7_isWeather 7 = .ok (.if_icmp .ge 17, 3) := by decide +kernel
theorem dX7_isWeather_10 : decode cX7_isWeather 10 = .ok (.iload_n 1, 1) := by decide +kernel
theorem dX7_isWeather_11 : decode cX7_isWeather 11 = .ok (.ifCond .lt 13, 3) := by decide +kernel
theorem dX7_isWeather_14 : decode cX7_isWeather 14 = .ok (.iload_n 1, 1) := by decide +kernel
theorem dX7_isWeather_15 : decode cX7_isWeather 15 = .ok (.bipush 10, 2) := by decide +kernel
theorem dX7_isWeather_17 : decode cX7_isWeather 17 = .ok (.if_icmp .ge 7, 3) := by decide +kernel
theorem dX7_isWeather_20 : decode cX7_isWeather 20 = .ok (.iconst 1, 1) := by decide +kernel
theorem dX7_isWeather_21 : decode cX7_isWeather 21 = .ok (.goto 4, 3) := by decide +kernel
theorem dX7_isWeather_24 : decode cX7_isWeather 24 = .ok (.iconst 0, 1) := by decide +kernel
theorem dX7_isWeather_25 : decode cX7_isWeather 25 = .ok (.ireturn, 1) := by decide +kernel
theorem dX7_changeRate_0 : decode cX7_changeRate 0 = .ok (.iload_n 1, 1) := by decide +kernel
theorem dX7_changeRate_1 : decode cX7_changeRate 1 = .ok (.iload_n 2, 1) := by decide +kernel
theorem dX7_changeRate_2 : decode cX7_changeRate 2 = .ok (.invokestatic 18, 3) := by decide +kernel
theorem dX7_changeRate_5 : decode cX7_changeRate 5 = .ok (.ifCond .ne 6, 3) := by decide +kernel
theorem dX7_changeRate_11 : decode cX7_changeRate 11 = .ok (.aload_n 0, 1) := by decide +kernel
theorem dX7_changeRate_12 : decode cX7_changeRate 12 = .ok (.getfield 11, 3) := by decide +kernel
theorem dX7_changeRate_15 : decode cX7_changeRate 15 = .ok (.iload_n 1, 1) := by decide +kernel
theorem dX7_changeRate_16 : decode cX7_changeRate 16 = .ok (.bipush 10, 2) := by decide +kernel
theorem dX7_changeRate_18 : decode cX7_changeRate 18 = .ok (.imul, 1) := by decide +kernel
theorem dX7_changeRate_19 : decode cX7_changeRate 19 = .ok (.iload_n 2, 1) := by decide +kernel
theorem dX7_changeRate_20 : decode cX7_changeRate 20 = .ok (.iadd, 1) := by decide +kernel
theorem dX7_changeRate_21 : decode cX7_changeRate 21 = .ok (.iaload, 1) := by decide +kernel
theorem dX7_changeRate_22 : decode cX7_changeRate 22 = .ok (.istore 4, 2) := by decide +kernel
theorem dX7_changeRate_24 : decode cX7_changeRate 24 = .ok (.aload_n 0, 1) := by decide +kernel
theorem dX7_changeRate_25 : decode cX7_changeRate 25 = .ok (.getfield 11, 3) := by decide +kernel
theorem dX7_changeRate_28 : decode cX7_changeRate 28 = .ok (.iload_n 1, 1) := by decide +kernel
theorem dX7_changeRate_29 : decode cX7_changeRate 29 = .ok (.bipush 10, 2) := by decide +kernel
theorem dX7_changeRate_31 : decode cX7_changeRate 31 = .ok (.imul, 1) := by decide +kernel
theorem dX7_changeRate_32 : decode cX7_changeRate 32 = .ok (.iload_n 2, 1) := by decide +kernel
theorem dX7_changeRate_33 : decode cX7_changeRate 33 = .ok (.iadd, 1) := by decide +kernel
theorem dX7_changeRate_34 : decode cX7_changeRate 34 = .ok (.iload_n 3, 1) := by decide +kernel
theorem dX7_changeRate_35 : decode cX7_changeRate 35 = .ok (.iastore, 1) := by decide +kernel
theorem dX7_changeRate_36 : decode cX7_changeRate 36 = .ok (.iload 4, 2) := by decide +kernel
theorem dX7_changeRate_38 : decode cX7_changeRate 38 = .ok (.ireturn, 1) := by decide +kernel
theorem dX7_changeWeather_0 : decode cX7_changeWeather 0 = .ok (.iload_n 2, 1) := by decide +kernel
