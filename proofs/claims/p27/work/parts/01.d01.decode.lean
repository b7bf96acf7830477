theorem dX1_partsHeld_25 : decode cX1_partsHeld 25 = .ok (.iadd, 1) := by decide +kernel
theorem dX1_partsHeld_26 : decode cX1_partsHeld 26 = .ok (.istore_n 1, 1) := by decide +kernel
theorem dX1_partsHeld_27 : decode cX1_partsHeld 27 = .ok (.iinc 2 1, 3) := by decide +kernel
theorem dX1_partsHeld_30 : decode cX1_partsHeld 30 = .ok (.goto (-18), 3) := by decide +kernel
theorem dX1_partsHeld_33 : decode cX1_partsHeld 33 = .ok (.iload_n 1, 1) := by decide +kernel
theorem dX1_partsHeld_34 : decode cX1_partsHeld 34 = .ok (.ireturn, 1) := by decide +kernel
theorem dX1_partsForHay_0 : decode cX1_partsForHay 0 = .ok (.aload_n 0, 1) := by decide +kernel
theorem dX1_partsForHay_1 : decode cX1_partsForHay 1 = .ok (.getfield 25, 3) := by decide +kernel
theorem dX1_partsForHay_4 : decode cX1_partsForHay 4 = .ok (.iload_n 1, 1) := by decide +kernel
theorem dX1_partsForHay_5 : decode cX1_partsForHay 5 = .ok (.ifCond .lt 18, 3) := by decide +kernel
theorem dX1_partsForHay_8 : decode cX1_partsForHay 8 = .ok (.iload_n 1, 1) := by decide +kernel
theorem dX1_partsForHay_9 : decode cX1_partsForHay 9 = .ok (.bipush 6, 2) := by decide +kernel
theorem dX1_partsForHay_11 : decode cX1_partsForHay 11 = .ok (.if_icmp .ge 12, 3) := by decide +kernel
theorem dX1_partsForHay_14 : decode cX1_partsForHay 14 = .ok (.aload_n 0, 1) := by decide +kernel
theorem dX1_partsForHay_15 : decode cX1_partsForHay 15 = .ok (.getfield 18, 3) := by decide +kernel
theorem dX1_partsForHay_18 : decode cX1_partsForHay 18 = .ok (.iload_n 1, 1) := by decide +kernel
theorem dX1_partsForHay_19 : decode cX1_partsForHay 19 = .ok (.iaload, 1) := by decide +kernel
theorem dX1_partsForHay_20 : decode cX1_partsForHay 20 = .ok (.goto 4, 3) := by decide +kernel
theorem dX1_partsForHay_23 : decode cX1_partsForHay 23 = .ok (.iconst 0, 1) := by decide +kernel
theorem dX1_partsForHay_24 : decode cX1_partsForHay 24 = .ok (.iadd, 1) := by decide +kernel
theorem dX1_partsForHay_25 : decode cX1_partsForHay 25 = .ok (.ireturn, 1) := by decide +kernel
theorem dX2_init_0 : decode cX2_init 0 = .ok (.aload_n 0, 1) := by decide +kernel
theorem dX2_init_1 : decode cX2_init 1 = .ok (.invokespecial 3, 3) := by decide +kernel
theorem dX2_init_4 : decode cX2_init 4 = .ok (.aload_n 0, 1) := by decide +kernel
theorem dX2_init_5 : decode cX2_init 5 = .ok (.iconst (-1), 1) := by decide +kernel
theorem dX2_init_6 : decode cX2_init 6 = .ok (.putfield 9, 3) := by decide +kernel
theorem dX2_init_9 : decode cX2_init 9 = .ok (.aload_n 0, 1) := by decide +kernel
theorem dX2_init_10 : decode cX2_init 10 = .ok (.iconst 0, 1) := by decide +kernel
theorem dX2_init_11 : decode cX2_init 11 = .ok (.putfield 15, 3) := by decide +kernel
theorem dX2_init_14 : decode cX2_init 14 = .ok (.aload_n 0, 1) := by decide +kernel
theorem dX2_init_15 : decode cX2_init 15 = .ok (.iconst 0, 1) := by decide +kernel
theorem dX2_init_16 : decode cX2_init 16 = .ok (.putfield 18, 3) := by decide +kernel
theorem dX2_init_19 : decode cX2_init 19 = .ok (.aload_n 0, 1) := by decide +kernel
theorem dX2_init_20 : decode cX2_init 20 = .ok (.iconst 0, 1) := by decide +kernel
theorem dX2_init_21 : decode cX2_init 21 = .ok (.putfield 21, 3) := by decide +kernel
theorem dX2_init_24 : decode cX2_init 24 = .ok (.aload_n 0, 1) := by decide +kernel
theorem dX2_init_25 : decode cX2_init 25 = .ok (.iconst 0, 1) := by decide +kernel
theorem dX2_init_26 : decode cX2_init 26 = .ok (.putfield 24, 3) := by decide +kernel
theorem dX2_init_29 : decode cX2_init 29 = .ok (.aload_n 0, 1) := by decide +kernel
theorem dX2_init_30 : decode cX2_init 30 = .ok (.iload_n 1, 1) := by decide +kernel
theorem dX2_init_31 : decode cX2_init 31 = .ok (.putfield 27, 3) := by decide +kernel
theorem dX2_init_34 : decode cX2_init 34 = .ok (.aload_n 0, 1) := by decide +kernel
theorem dX2_init_35 : decode cX2_init 35 = .ok (.iload_n 2, 1) := by decide +kernel
theorem dX2_init_36 : decode cX2_init 36 = .ok (.putfield 30, 3) := by decide +kernel
theorem dX2_init_39 : decode cX2_init 39 = .ok (.aload_n 0, 1) := by decide +kernel
theorem dX2_init_40 : decode cX2_init 40 = .ok (.iload_n 3, 1) := by decide +kernel
theorem dX2_init_41 : decode cX2_init 41 = .ok (.putfield 33, 3) := by decide +kernel
theorem dX2_init_44 : decode cX2_init 44 = .ok (.return_, 1) := by decide +kernel
theorem dX2_parts_0 : decode cX2_parts 0 = .ok (.aload_n 0, 1) := by decide +kernel
theorem dX2_parts_1 : decode cX2_parts 1 = .ok (.getfield 30, 3) := by decide +kernel
theorem dX2_parts_4 : decode cX2_parts 4 = .ok (.ifCond .lt 27, 3) := by decide +kernel
theorem dX2_parts_7 : decode cX2_parts 7 = .ok (.aload_n 0, 1) := by decide +kernel
theorem dX2_parts_8 : decode cX2_parts 8 = .ok (.getfield 30, 3) := by decide +kernel
theorem dX2_parts_11 : decode cX2_parts 11 = .ok (.iconst 3, 1) := by decide +kernel
theorem dX2_parts_12 : decode cX2_parts 12 = .ok (.if_icmp .ge 19, 3) := by decide +kernel
theorem dX2_parts_15 : decode cX2_parts 15 = .ok (.aload_n 0, 1) := by decide +kernel
theorem dX2_parts_16 : decode cX2_parts 16 = .ok (.getfield 33, 3) := by decide +kernel
theorem dX2_parts_19 : decode cX2_parts 19 = .ok (.getstatic 36, 3) := by decide +kernel
theorem dX2_parts_22 : decode cX2_parts 22 = .ok (.aload_n 0, 1) := by decide +kernel
theorem dX2_parts_23 : decode cX2_parts 23 = .ok (.getfield 30, 3) := by decide +kernel
theorem dX2_parts_26 : decode cX2_parts 26 = .ok (.iaload, 1) := by decide +kernel
theorem dX2_parts_27 : decode cX2_parts 27 = .ok (.imul, 1) := by decide +kernel
theorem dX2_parts_28 : decode cX2_parts 28 = .ok (.goto 4, 3) := by decide +kernel
theorem dX2_parts_31 : decode cX2_parts 31 = .ok (.iconst 0, 1) := by decide +kernel
theorem dX2_parts_32 : decode cX2_parts 32 = .ok (.ireturn, 1) := by decide +kernel
theorem dX2_daysInPound_0 : decode cX2_daysInPound 0 = .ok (.aload_n 0, 1) := by decide +kernel
theorem dX2_daysInPound_1 : decode cX2_daysInPound 1 = .ok (.getfield 21, 3) := by decide +kernel
theorem dX2_daysInPound_4 : decode cX2_daysInPound 4 = .ok (.iconst 1, 1) := by decide +kernel
theorem dX2_daysInPound_5 : decode cX2_daysInPound 5 = .ok (.if_icmp .ne 14, 3) := by decide +kernel
theorem dX2_daysInPound_8 : decode cX2_daysInPound 8 = .ok (.iload_n 1, 1) := by decide +kernel
theorem dX2_daysInPound_9 : decode cX2_daysInPound 9 = .ok (.aload_n 0, 1) := by decide +kernel
theorem dX2_daysInPound_10 : decode cX2_daysInPound 10 = .ok (.getfield 24, 3) := by decide +kernel
theorem dX2_daysInPound_13 : decode cX2_daysInPound 13 = .ok (.isub, 1) := by decide +kernel
theorem dX2_daysInPound_14 : decode cX2_daysInPound 14 = .ok (.iconst 1, 1) := by decide +kernel
theorem dX2_daysInPound_15 : decode cX2_daysInPound 15 = .ok (.iadd, 1) := by decide +kernel
theorem dX2_daysInPound_16 : decode cX2_daysInPound 16 = .ok (.goto 4, 3) := by decide +kernel
theorem dX2_daysInPound_19 : decode cX2_daysInPound 19 = .ok (.iconst 0, 1) := by decide +kernel
theorem dX2_daysInPound_20 : decode cX2_daysInPound 20 = .ok (.ireturn, 1) := by decide +kernel
theorem dX2_fee_0 : decode cX2_fee 0 = .ok (.aload_n 0, 1) := by decide +kernel
theorem dX2_fee_1 : decode cX2_fee 1 = .ok (.iload_n 1, 1) := by decide +kernel
theorem dX2_fee_2 : decode cX2_fee 2 = .ok (.invokevirtual 40, 3) := by decide +kernel
theorem dX2_fee_5 : decode cX2_fee 5 = .ok (.aload_n 0, 1) := by decide +kernel
theorem dX2_fee_6 : decode cX2_fee 6 = .ok (.getfield 33, 3) := by decide +kernel
theorem dX2_fee_9 : decode cX2_fee 9 = .ok (.imul, 1) := by decide +kernel
theorem dX2_fee_10 : decode cX2_fee 10 = .ok (.ireturn, 1) := by decide +kernel
theorem dX3_init_0 : decode cX3_init 0 = .ok (.aload_n 0, 1) := by decide +kernel
theorem dX3_init_1 : decode cX3_init 1 = .ok (.invokespecial 3, 3) := by decide +kernel
theorem dX3_init_4 : decode cX3_init 4 = .ok (.aload_n 0, 1) := by decide +kernel
theorem dX3_init_5 : decode cX3_init 5 = .ok (.bipush 20, 2) := by decide +kernel
theorem dX3_init_7 : decode cX3_init 7 = .ok (.newarray .int, 2) := by decide +kernel
theorem dX3_init_9 : decode cX3_init 9 = .ok (.putfield 9, 3) := by decide +kernel
theorem dX3_init_12 : decode cX3_init 12 = .ok (.aload_n 0, 1) := by decide +kernel
theorem dX3_init_13 : decode cX3_init 13 = .ok (.bipush 20, 2) := by decide +kernel
theorem dX3_init_15 : decode cX3_init 15 = .ok (.newarray .int, 2) := by decide +kernel
theorem dX3_init_17 : decode cX3_init 17 = .ok (.putfield 15, 3) := by decide +kernel
theorem dX3_init_20 : decode cX3_init 20 = .ok (.aload_n 0, 1) := by decide +kernel
theorem dX3_init_21 : decode cX3_init 21 = .ok (.bipush 20, 2) := by decide +kernel
theorem dX3_init_23 : decode cX3_init 23 = .ok (.newarray .int, 2) := by decide +kernel
theorem dX3_init_25 : decode cX3_init 25 = .ok (.putfield 18, 3) := by decide +kernel
theorem dX3_init_28 : decode cX3_init 28 = .ok (.aload_n 0, 1) := by decide +kernel
theorem dX3_init_29 : decode cX3_init 29 = .ok (.bipush 20, 2) := by decide +kernel
theorem dX3_init_31 : decode cX3_init 31 = .ok (.newarray .int, 2) := by decide +kernel
theorem dX3_init_33 : decode cX3_init 33 = .ok (.putfield 21, 3) := by decide +kernel
theorem dX3_init_36 : decode cX3_init 36 = .ok (.aload_n 0, 1) := by decide +kernel
theorem dX3_init_37 : decode cX3_init 37 = .ok (.iconst 0, 1) := by decide +kernel
theorem dX3_init_38 : decode cX3_init 38 = .ok (.putfield 24, 3) := by decide +kernel
theorem dX3_init_41 : decode cX3_init 41 = .ok (.aload_n 0, 1) := by decide +kernel
theorem dX3_init_42 : decode cX3_init 42 = .ok (.iconst 0, 1) := by decide +kernel
theorem dX3_init_43 : decode cX3_init 43 = .ok (.putfield 28, 3) := by decide +kernel
theorem dX3_init_46 : decode cX3_init 46 = .ok (.aload_n 0, 1) := by decide +kernel
theorem dX3_init_47 : decode cX3_init 47 = .ok (.iconst 0, 1) := by decide +kernel
theorem dX3_init_48 : decode cX3_init 48 = .ok (.putfield 31, 3) := by decide +kernel
theorem dX3_init_51 : decode cX3_init 51 = .ok (.return_, 1) := by decide +kernel
theorem dX3_clear_0 : decode cX3_clear 0 = .ok (.aload_n 0, 1) := by decide +kernel
theorem dX3_clear_1 : decode cX3_clear 1 = .ok (.iconst 0, 1) := by decide +kernel
theorem dX3_clear_2 : decode cX3_clear 2 = .ok (.putfield 24, 3) := by decide +kernel
theorem dX3_clear_5 : decode cX3_clear 5 = .ok (.aload_n 0, 1) := by decide +kernel
theorem dX3_clear_6 : decode cX3_clear 6 = .ok (.iconst 0, 1) := by decide +kernel
theorem dX3_clear_7 : decode cX3_clear 7 = .ok (.putfield 28, 3) := by decide +kernel
theorem dX3_clear_10 : decode cX3_clear 10 = .ok (.aload_n 0, 1) := by decide +kernel
theorem dX3_clear_11 : decode cX3_clear 11 = .ok (.iconst 0, 1) := by decide +kernel
theorem dX3_clear_12 : decode cX3_clear 12 = .ok (.putfield 31, 3) := by decide +kernel
theorem dX3_clear_15 : decode cX3_clear 15 = .ok (.return_, 1) := by decide +kernel
theorem dX3_add_0 : decode cX3_add 0 = .ok (.aload_n 0, 1) := by decide +kernel
theorem dX3_add_1 : decode cX3_add 1 = .ok (.getfield 24, 3) := by decide +kernel
theorem dX3_add_4 : decode cX3_add 4 = .ok (.bipush 20, 2) := by decide +kernel
theorem dX3_add_6 : decode cX3_add 6 = .ok (.if_icmp .ge 53, 3) := by decide +kernel
theorem dX3_add_9 : decode cX3_add 9 = .ok (.aload_n 0, 1) := by decide +kernel
theorem dX3_add_10 : decode cX3_add 10 = .ok (.getfield 9, 3) := by decide +kernel
theorem dX3_add_13 : decode cX3_add 13 = .ok (.aload_n 0, 1) := by decide +kernel
theorem dX3_add_14 : decode cX3_add 14 = .ok (.getfield 24, 3) := by decide +kernel
theorem dX3_add_17 : decode cX3_add 17 = .ok (.iload_n 1, 1) := by decide +kernel
theorem dX3_add_18 : decode cX3_add 18 = .ok (.iastore, 1) := by decide +kernel
theorem dX3_add_19 : decode cX3_add 19 = .ok (.aload_n 0, 1) := by decide +kernel
theorem dX3_add_20 : decode cX3_add 20 = .ok (.getfield 15, 3) := by decide +kernel
theorem dX3_add_23 : decode cX3_add 23 = .ok (.aload_n 0, 1) := by decide +kernel
theorem dX3_add_24 : decode cX3_add 24 = .ok (.getfield 24, 3) := by decide +kernel
theorem dX3_add_27 : decode cX3_add 27 = .ok (.iload_n 2, 1) := by decide +kernel
theorem dX3_add_28 : decode cX3_add 28 = .ok (.iastore, 1) := by decide +kernel
theorem dX3_add_29 : decode cX3_add 29 = .ok (.aload_n 0, 1) := by decide +kernel
theorem dX3_add_30 : decode cX3_add 30 = .ok (.getfield 18, 3) := by decide +kernel
theorem dX3_add_33 : decode cX3_add 33 = .ok (.aload_n 0, 1) := by decide +kernel
theorem dX3_add_34 : decode cX3_add 34 = .ok (.getfield 24, 3) := by decide +kernel
theorem dX3_add_37 : decode cX3_add 37 = .ok (.iconst 0, 1) := by decide +kernel
theorem dX3_add_38 : decode cX3_add 38 = .ok (.iastore, 1) := by decide +kernel
theorem dX3_add_39 : decode cX3_add 39 = .ok (.aload_n 0, 1) := by decide +kernel
theorem dX3_add_40 : decode cX3_add 40 = .ok (.dup, 1) := by decide +kernel
theorem dX3_add_41 : decode cX3_add 41 = .ok (.getfield 28, 3) := by decide +kernel
theorem dX3_add_44 : decode cX3_add 44 = .ok (.iload_n 2, 1) := by decide +kernel
theorem dX3_add_45 : decode cX3_add 45 = .ok (.iadd, 1) := by decide +kernel
theorem dX3_add_46 : decode cX3_add 46 = .ok (.putfield 28, 3) := by decide +kernel
theorem dX3_add_49 : decode cX3_add 49 = .ok (.aload_n 0, 1) := by decide +kernel
theorem dX3_add_50 : decode cX3_add 50 = .ok (.dup, 1) := by decide +kernel
theorem dX3_add_51 : decode cX3_add 51 = .ok (.getfield 24, 3) := by decide +kernel
theorem dX3_add_54 : decode cX3_add 54 = .ok (.iconst 1, 1) := by decide +kernel
theorem dX3_add_55 : decode cX3_add 55 = .ok (.iadd, 1) := by decide +kernel
theorem dX3_add_56 : decode cX3_add 56 = .ok (.putfield 24, 3) := by decide +kernel
theorem dX3_add_59 : decode cX3_add 59 = .ok (.return_, 1) := by decide +kernel
theorem dX3_hungerOf_0 : decode cX3_hungerOf 0 = .ok (.iconst 0, 1) := by decide +kernel
theorem dX3_hungerOf_1 : decode cX3_hungerOf 1 = .ok (.istore_n 2, 1) := by decide +kernel
theorem dX3_hungerOf_2 : decode cX3_hungerOf 2 = .ok (.iload_n 2, 1) := by decide +kernel
theorem dX3_hungerOf_3 : decode cX3_hungerOf 3 = .ok (.aload_n 0, 1) := by decide +kernel
theorem dX3_hungerOf_4 : decode cX3_hungerOf 4 = .ok (.getfield 24, 3) := by decide +kernel
theorem dX3_hungerOf_7 : decode cX3_hungerOf 7 = .ok (.if_icmp .ge 26, 3) := by decide +kernel
theorem dX3_hungerOf_10 : decode cX3_hungerOf 10 = .ok (.aload_n 0, 1) := by decide +kernel
theorem dX3_hungerOf_11 : decode cX3_hungerOf 11 = .ok (.getfield 9, 3) := by decide +kernel
theorem dX3_hungerOf_14 : decode cX3_hungerOf 14 = .ok (.iload_n 2, 1) := by decide +kernel
theorem dX3_hungerOf_15 : decode cX3_hungerOf 15 = .ok (.iaload, 1) := by decide +kernel
theorem dX3_hungerOf_16 : decode cX3_hungerOf 16 = .ok (.iload_n 1, 1) := by decide +kernel
theorem dX3_hungerOf_17 : decode cX3_hungerOf 17 = .ok (.if_icmp .ne 10, 3) := by decide +kernel
theorem dX3_hungerOf_20 : decode cX3_hungerOf 20 = .ok (.aload_n 0, 1) := by decide +kernel
theorem dX3_hungerOf_21 : decode cX3_hungerOf 21 = .ok (.getfield 18, 3) := by decide +kernel
theorem dX3_hungerOf_24 : decode cX3_hungerOf 24 = .ok (.iload_n 2, 1) := by decide +kernel
theorem dX3_hungerOf_25 : decode cX3_hungerOf 25 = .ok (.iaload, 1) := by decide +kernel
theorem dX3_hungerOf_26 : decode cX3_hungerOf 26 = .ok (.ireturn, 1) := by decide +kernel
theorem dX3_hungerOf_27 : decode cX3_hungerOf 27 = .ok (.iinc 2 1, 3) := by decide +kernel
theorem dX3_hungerOf_30 : decode cX3_hungerOf 30 = .ok (.goto (-28), 3) := by decide +kernel
theorem dX3_hungerOf_33 : decode cX3_hungerOf 33 = .ok (.iconst 0, 1) := by decide +kernel
theorem dX3_hungerOf_34 : decode cX3_hungerOf 34 = .ok (.ireturn, 1) := by decide +kernel
theorem dX3_passDay_0 : decode cX3_passDay 0 = .ok (.aload_n 0, 1) := by decide +kernel
theorem dX3_passDay_1 : decode cX3_passDay 1 = .ok (.iload_n 2, 1) := by decide +kernel
theorem dX3_passDay_2 : decode cX3_passDay 2 = .ok (.iload_n 3, 1) := by decide +kernel
theorem dX3_passDay_3 : decode cX3_passDay 3 = .ok (.invokevirtual 34, 3) := by decide +kernel
theorem dX3_passDay_6 : decode cX3_passDay 6 = .ok (.aload_n 1, 1) := by decide +kernel
theorem dX3_passDay_7 : decode cX3_passDay 7 = .ok (.getfield 38, 3) := by decide +kernel
theorem dX3_passDay_10 : decode cX3_passDay 10 = .ok (.iload 4, 2) := by decide +kernel
theorem dX3_passDay_12 : decode cX3_passDay 12 = .ok (.invokestatic 43, 3) := by decide +kernel
theorem dX3_passDay_15 : decode cX3_passDay 15 = .ok (.istore 5, 2) := by decide +kernel
theorem dX3_passDay_17 : decode cX3_passDay 17 = .ok (.aload_n 0, 1) := by decide +kernel
theorem dX3_passDay_18 : decode cX3_passDay 18 = .ok (.iload 5, 2) := by decide +kernel
theorem dX3_passDay_20 : decode cX3_passDay 20 = .ok (.aload_n 0, 1) := by decide +kernel
theorem dX3_passDay_21 : decode cX3_passDay 21 = .ok (.getfield 28, 3) := by decide +kernel
theorem dX3_passDay_24 : decode cX3_passDay 24 = .ok (.invokestatic 47, 3) := by decide +kernel
theorem dX3_passDay_27 : decode cX3_passDay 27 = .ok (.putfield 31, 3) := by decide +kernel
theorem dX3_passDay_30 : decode cX3_passDay 30 = .ok (.aload_n 0, 1) := by decide +kernel
theorem dX3_passDay_31 : decode cX3_passDay 31 = .ok (.aload_n 0, 1) := by decide +kernel
theorem dX3_passDay_32 : decode cX3_passDay 32 = .ok (.getfield 28, 3) := by decide +kernel
theorem dX3_passDay_35 : decode cX3_passDay 35 = .ok (.aload_n 0, 1) := by decide +kernel
theorem dX3_passDay_36 : decode cX3_passDay 36 = .ok (.getfield 31, 3) := by decide +kernel
theorem dX3_passDay_39 : decode cX3_passDay 39 = .ok (.isub, 1) := by decide +kernel
theorem dX3_passDay_40 : decode cX3_passDay 40 = .ok (.invokevirtual 52, 3) := by decide +kernel
theorem dX3_passDay_43 : decode cX3_passDay 43 = .ok (.aload_n 1, 1) := by decide +kernel
theorem dX3_passDay_44 : decode cX3_passDay 44 = .ok (.getfield 56, 3) := by decide +kernel
theorem dX3_passDay_47 : decode cX3_passDay 47 = .ok (.ifCond .ne 38, 3) := by decide +kernel
theorem dX3_passDay_50 : decode cX3_passDay 50 = .ok (.iconst 0, 1) := by decide +kernel
theorem dX3_passDay_51 : decode cX3_passDay 51 = .ok (.istore 6, 2) := by decide +kernel
theorem dX3_passDay_53 : decode cX3_passDay 53 = .ok (.iload 6, 2) := by decide +kernel
theorem dX3_passDay_55 : decode cX3_passDay 55 = .ok (.aload_n 0, 1) := by decide +kernel
theorem dX3_passDay_56 : decode cX3_passDay 56 = .ok (.getfield 24, 3) := by decide +kernel
theorem dX3_passDay_59 : decode cX3_passDay 59 = .ok (.if_icmp .ge 26, 3) := by decide +kernel
theorem dX3_passDay_62 : decode cX3_passDay 62 = .ok (.aload_n 0, 1) := by decide +kernel
theorem dX3_passDay_63 : decode cX3_passDay 63 = .ok (.getfield 18, 3) := by decide +kernel
theorem dX3_passDay_66 : decode cX3_passDay 66 = .ok (.iload 6, 2) := by decide +kernel
theorem dX3_passDay_68 : decode cX3_passDay 68 = .ok (.dup2, 1) := by decide +kernel
theorem dX3_passDay_69 : decode cX3_passDay 69 = .ok (.iaload, 1) := by decide +kernel
theorem dX3_passDay_70 : decode cX3_passDay 70 = .ok (.aload_n 0, 1) := by decide +kernel
theorem dX3_passDay_71 : decode cX3_passDay 71 = .ok (.getfield 15, 3) := by decide +kernel
theorem dX3_passDay_74 : decode cX3_passDay 74 = .ok (.iload 6, 2) := by decide +kernel
theorem dX3_passDay_76 : decode cX3_passDay 76 = .ok (.iaload, 1) := by decide +kernel
theorem dX3_passDay_77 : decode cX3_passDay 77 = .ok (.iadd, 1) := by decide +kernel
theorem dX3_passDay_78 : decode cX3_passDay 78 = .ok (.iastore, 1) := by decide +kernel
theorem dX3_passDay_79 : decode cX3_passDay 79 = .ok (.iinc 6 1, 3) := by decide +kernel
theorem dX3_passDay_82 : decode cX3_passDay 82 = .ok (.goto (-29), 3) := by decide +kernel
theorem dX3_passDay_85 : decode cX3_passDay 85 = .ok (.iload 5, 2) := by decide +kernel
theorem dX3_passDay_87 : decode cX3_passDay 87 = .ok (.aload_n 0, 1) := by decide +kernel
theorem dX3_passDay_88 : decode cX3_passDay 88 = .ok (.getfield 31, 3) := by decide +kernel
theorem dX3_passDay_91 : decode cX3_passDay 91 = .ok (.isub, 1) := by decide +kernel
theorem dX3_passDay_92 : decode cX3_passDay 92 = .ok (.ireturn, 1) := by decide +kernel
theorem dX3_tread_0 : decode cX3_tread 0 = .ok (.iload_n 2, 1) := by decide +kernel
theorem dX3_tread_1 : decode cX3_tread 1 = .ok (.bipush 8, 2) := by decide +kernel
theorem dX3_tread_3 : decode cX3_tread 3 = .ok (.if_icmp .lt 19, 3) := by decide +kernel
theorem dX3_tread_6 : decode cX3_tread 6 = .ok (.iconst 0, 1) := by decide +kernel
theorem dX3_tread_7 : decode cX3_tread 7 = .ok (.iload_n 1, 1) := by decide +kernel
theorem dX3_tread_8 : decode cX3_tread 8 = .ok (.aload_n 0, 1) := by decide +kernel
theorem dX3_tread_9 : decode cX3_tread 9 = .ok (.getfield 28, 3) := by decide +kernel
theorem dX3_tread_12 : decode cX3_tread 12 = .ok (.bipush 100, 2) := by decide +kernel
theorem dX3_tread_14 : decode cX3_tread 14 = .ok (.idiv, 1) := by decide +kernel
theorem dX3_tread_15 : decode cX3_tread 15 = .ok (.isub, 1) := by decide +kernel
theorem dX3_tread_16 : decode cX3_tread 16 = .ok (.invokestatic 60, 3) := by decide +kernel
theorem dX3_tread_19 : decode cX3_tread 19 = .ok (.goto 4, 3) := by decide +kernel
theorem dX3_tread_22 : decode cX3_tread 22 = .ok (.iload_n 1, 1) := by decide +kernel
theorem dX3_tread_23 : decode cX3_tread 23 = .ok (.ireturn, 1) := by decide +kernel
theorem dX3_grow_0 : decode cX3_grow 0 = .ok (.iload_n 1, 1) := by decide +kernel
theorem dX3_grow_1 : decode cX3_grow 1 = .ok (.iload_n 0, 1) := by decide +kernel
theorem dX3_grow_2 : decode cX3_grow 2 = .ok (.iconst 1, 1) := by decide +kernel
theorem dX3_grow_3 : decode cX3_grow 3 = .ok (.iload_n 2, 1) := by decide +kernel
theorem dX3_grow_4 : decode cX3_grow 4 = .ok (.iload_n 1, 1) := by decide +kernel
theorem dX3_grow_5 : decode cX3_grow 5 = .ok (.imul, 1) := by decide +kernel
theorem dX3_grow_6 : decode cX3_grow 6 = .ok (.sipush 1000, 3) := by decide +kernel
theorem dX3_grow_9 : decode cX3_grow 9 = .ok (.idiv, 1) := by decide +kernel
theorem dX3_grow_10 : decode cX3_grow 10 = .ok (.invokestatic 60, 3) := by decide +kernel
theorem dX3_grow_13 : decode cX3_grow 13 = .ok (.iadd, 1) := by decide +kernel
theorem dX3_grow_14 : decode cX3_grow 14 = .ok (.invokestatic 47, 3) := by decide +kernel
theorem dX3_grow_17 : decode cX3_grow 17 = .ok (.ireturn, 1) := by decide +kernel
theorem dX3_shareHunger_0 : decode cX3_shareHunger 0 = .ok (.iload_n 1, 1) := by decide +kernel
theorem dX3_shareHunger_1 : decode cX3_shareHunger 1 = .ok (.istore_n 2, 1) := by decide +kernel
theorem dX3_shareHunger_2 : decode cX3_shareHunger 2 = .ok (.iconst 0, 1) := by decide +kernel
theorem dX3_shareHunger_3 : decode cX3_shareHunger 3 = .ok (.istore_n 3, 1) := by decide +kernel
theorem dX3_shareHunger_4 : decode cX3_shareHunger 4 = .ok (.iload_n 3, 1) := by decide +kernel
theorem dX3_shareHunger_5 : decode cX3_shareHunger 5 = .ok (.aload_n 0, 1) := by decide +kernel
theorem dX3_shareHunger_6 : decode cX3_shareHunger 6 = .ok (.getfield 24, 3) := by decide +kernel
theorem dX3_shareHunger_9 : decode cX3_shareHunger 9 = .ok (.if_icmp .ge 61, 3) := by decide +kernel
theorem dX3_shareHunger_12 : decode cX3_shareHunger 12 = .ok (.aload_n 0, 1) := by decide +kernel
theorem dX3_shareHunger_13 : decode cX3_shareHunger 13 = .ok (.getfield 28, 3) := by decide +kernel
theorem dX3_shareHunger_16 : decode cX3_shareHunger 16 = .ok (.ifCond .le 54, 3) := by decide +kernel
theorem dX3_shareHunger_19 : decode cX3_shareHunger 19 = .ok (.iload_n 1, 1) := by decide +kernel
theorem dX3_shareHunger_20 : decode cX3_shareHunger 20 = .ok (.aload_n 0, 1) := by decide +kernel
theorem dX3_shareHunger_21 : decode cX3_shareHunger 21 = .ok (.getfield 15, 3) := by decide +kernel
theorem dX3_shareHunger_24 : decode cX3_shareHunger 24 = .ok (.iload_n 3, 1) := by decide +kernel
theorem dX3_shareHunger_25 : decode cX3_shareHunger 25 = .ok (.iaload, 1) := by decide +kernel
theorem dX3_shareHunger_26 : decode cX3_shareHunger 26 = .ok (.imul, 1) := by decide +kernel
theorem dX3_shareHunger_27 : decode cX3_shareHunger 27 = .ok (.istore 4, 2) := by decide +kernel
theorem dX3_shareHunger_29 : decode cX3_shareHunger 29 = .ok (.aload_n 0, 1) := by decide +kernel
theorem dX3_shareHunger_30 : decode cX3_shareHunger 30 = .ok (.getfield 18, 3) := by decide +kernel
theorem dX3_shareHunger_33 : decode cX3_shareHunger 33 = .ok (.iload_n 3, 1) := by decide +kernel
theorem dX3_shareHunger_34 : decode cX3_shareHunger 34 = .ok (.iload 4, 2) := by decide +kernel
theorem dX3_shareHunger_36 : decode cX3_shareHunger 36 = .ok (.aload_n 0, 1) := by decide +kernel
theorem dX3_shareHunger_37 : decode cX3_shareHunger 37 = .ok (.getfield 28, 3) := by decide +kernel
theorem dX3_shareHunger_40 : decode cX3_shareHunger 40 = .ok (.idiv, 1) := by decide +kernel
theorem dX3_shareHunger_41 : decode cX3_shareHunger 41 = .ok (.iastore, 1) := by decide +kernel
theorem dX3_shareHunger_42 : decode cX3_shareHunger 42 = .ok (.aload_n 0, 1) := by decide +kernel
theorem dX3_shareHunger_43 : decode cX3_shareHunger 43 = .ok (.getfield 21, 3) := by decide +kernel
theorem dX3_shareHunger_46 : decode cX3_shareHunger 46 = .ok (.iload_n 3, 1) := by decide +kernel
theorem dX3_shareHunger_47 : decode cX3_shareHunger 47 = .ok (.iload 4, 2) := by decide +kernel
theorem dX3_shareHunger_49 : decode cX3_shareHunger 49 = .ok (.aload_n 0, 1) := by decide +kernel
theorem dX3_shareHunger_50 : decode cX3_shareHunger 50 = .ok (.getfield 28, 3) := by decide +kernel
theorem dX3_shareHunger_53 : decode cX3_shareHunger 53 = .ok (.irem, 1) := by decide +kernel
theorem dX3_shareHunger_54 : decode cX3_shareHunger 54 = .ok (.iastore, 1) := by decide +kernel
theorem dX3_shareHunger_55 : decode cX3_shareHunger 55 = .ok (.iload_n 2, 1) := by decide +kernel
theorem dX3_shareHunger_56 : decode cX3_shareHunger 56 = .ok (.aload_n 0, 1) := by decide +kernel
theorem dX3_shareHunger_57 : decode cX3_shareHunger 57 = .ok (.getfield 18, 3) := by decide +kernel
theorem dX3_shareHunger_60 : decode cX3_shareHunger 60 = .ok (.iload_n 3, 1) := by decide +kernel
theorem dX3_shareHunger_61 : decode cX3_shareHunger 61 = .ok (.iaload, 1) := by decide +kernel
theorem dX3_shareHunger_62 : decode cX3_shareHunger 62 = .ok (.isub, 1) := by decide +kernel
theorem dX3_shareHunger_63 : decode cX3_shareHunger 63 = .ok (.istore_n 2, 1) := by decide +kernel
theorem dX3_shareHunger_64 : decode cX3_shareHunger 64 = .ok (.iinc 3 1, 3) := by decide +kernel
theorem dX3_shareHunger_67 : decode cX3_shareHunger 67 = .ok (.goto (-63), 3) := by decide +kernel
theorem dX3_shareHunger_70 : decode cX3_shareHunger 70 = .ok (.iconst 0, 1) := by decide +kernel
theorem dX3_shareHunger_71 : decode cX3_shareHunger 71 = .ok (.istore_n 3, 1) := by decide +kernel
theorem dX3_shareHunger_72 : decode cX3_shareHunger 72 = .ok (.iload_n 3, 1) := by decide +kernel
