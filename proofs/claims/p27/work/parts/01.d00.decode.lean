theorem dX0_init_0 : decode cX0_init 0 = .ok (.aload_n 0, 1) := by decide +kernel
theorem dX0_init_1 : decode cX0_init 1 = .ok (.invokespecial 3, 3) := by decide +kernel
theorem dX0_init_4 : decode cX0_init 4 = .ok (.aload_n 0, 1) := by decide +kernel
theorem dX0_init_5 : decode cX0_init 5 = .ok (.bipush (-9), 2) := by decide +kernel
theorem dX0_init_7 : decode cX0_init 7 = .ok (.putfield 9, 3) := by decide +kernel
theorem dX0_init_10 : decode cX0_init 10 = .ok (.aload_n 0, 1) := by decide +kernel
theorem dX0_init_11 : decode cX0_init 11 = .ok (.iconst 0, 1) := by decide +kernel
theorem dX0_init_12 : decode cX0_init 12 = .ok (.putfield 15, 3) := by decide +kernel
theorem dX0_init_15 : decode cX0_init 15 = .ok (.aload_n 0, 1) := by decide +kernel
theorem dX0_init_16 : decode cX0_init 16 = .ok (.iload_n 1, 1) := by decide +kernel
theorem dX0_init_17 : decode cX0_init 17 = .ok (.putfield 19, 3) := by decide +kernel
theorem dX0_init_20 : decode cX0_init 20 = .ok (.aload_n 0, 1) := by decide +kernel
theorem dX0_init_21 : decode cX0_init 21 = .ok (.iload_n 2, 1) := by decide +kernel
theorem dX0_init_22 : decode cX0_init 22 = .ok (.putfield 22, 3) := by decide +kernel
theorem dX0_init_25 : decode cX0_init 25 = .ok (.aload_n 0, 1) := by decide +kernel
theorem dX0_init_26 : decode cX0_init 26 = .ok (.iload_n 3, 1) := by decide +kernel
theorem dX0_init_27 : decode cX0_init 27 = .ok (.putfield 25, 3) := by decide +kernel
theorem dX0_init_30 : decode cX0_init 30 = .ok (.aload_n 0, 1) := by decide +kernel
theorem dX0_init_31 : decode cX0_init 31 = .ok (.iload 4, 2) := by decide +kernel
theorem dX0_init_33 : decode cX0_init 33 = .ok (.putfield 28, 3) := by decide +kernel
theorem dX0_init_36 : decode cX0_init 36 = .ok (.aload_n 0, 1) := by decide +kernel
theorem dX0_init_37 : decode cX0_init 37 = .ok (.iload 5, 2) := by decide +kernel
theorem dX0_init_39 : decode cX0_init 39 = .ok (.putfield 31, 3) := by decide +kernel
theorem dX0_init_42 : decode cX0_init 42 = .ok (.aload_n 0, 1) := by decide +kernel
theorem dX0_init_43 : decode cX0_init 43 = .ok (.iload 6, 2) := by decide +kernel
theorem dX0_init_45 : decode cX0_init 45 = .ok (.putfield 34, 3) := by decide +kernel
theorem dX0_init_48 : decode cX0_init 48 = .ok (.aload_n 0, 1) := by decide +kernel
theorem dX0_init_49 : decode cX0_init 49 = .ok (.iload 7, 2) := by decide +kernel
theorem dX0_init_51 : decode cX0_init 51 = .ok (.putfield 37, 3) := by decide +kernel
theorem dX0_init_54 : decode cX0_init 54 = .ok (.return_, 1) := by decide +kernel
theorem dX0_isInForce_0 : decode cX0_isInForce 0 = .ok (.aload_n 0, 1) := by decide +kernel
theorem dX0_isInForce_1 : decode cX0_isInForce 1 = .ok (.getfield 15, 3) := by decide +kernel
theorem dX0_isInForce_4 : decode cX0_isInForce 4 = .ok (.ifCond .ne 23, 3) := by decide +kernel
theorem dX0_isInForce_7 : decode cX0_isInForce 7 = .ok (.iload_n 1, 1) := by decide +kernel
theorem dX0_isInForce_8 : decode cX0_isInForce 8 = .ok (.aload_n 0, 1) := by decide +kernel
theorem dX0_isInForce_9 : decode cX0_isInForce 9 = .ok (.getfield 28, 3) := by decide +kernel
theorem dX0_isInForce_12 : decode cX0_isInForce 12 = .ok (.if_icmp .lt 15, 3) := by decide +kernel
theorem dX0_isInForce_15 : decode cX0_isInForce 15 = .ok (.iload_n 1, 1) := by decide +kernel
theorem dX0_isInForce_16 : decode cX0_isInForce 16 = .ok (.aload_n 0, 1) := by decide +kernel
theorem dX0_isInForce_17 : decode cX0_isInForce 17 = .ok (.getfield 31, 3) := by decide +kernel
theorem dX0_isInForce_20 : decode cX0_isInForce 20 = .ok (.if_icmp .gt 7, 3) := by decide +kernel
theorem dX0_isInForce_23 : decode cX0_isInForce 23 = .ok (.iconst 1, 1) := by decide +kernel
theorem dX0_isInForce_24 : decode cX0_isInForce 24 = .ok (.goto 4, 3) := by decide +kernel
theorem dX0_isInForce_27 : decode cX0_isInForce 27 = .ok (.iconst 0, 1) := by decide +kernel
theorem dX0_isInForce_28 : decode cX0_isInForce 28 = .ok (.ireturn, 1) := by decide +kernel
theorem dX0_fits_0 : decode cX0_fits 0 = .ok (.aload_n 1, 1) := by decide +kernel
theorem dX0_fits_1 : decode cX0_fits 1 = .ok (.getfield 40, 3) := by decide +kernel
theorem dX0_fits_4 : decode cX0_fits 4 = .ok (.iconst (-1), 1) := by decide +kernel
theorem dX0_fits_5 : decode cX0_fits 5 = .ok (.if_icmp .ne 5, 3) := by decide +kernel
theorem dX0_fits_8 : decode cX0_fits 8 = .ok (.iconst 0, 1) := by decide +kernel
theorem dX0_fits_9 : decode cX0_fits 9 = .ok (.ireturn, 1) := by decide +kernel
theorem dX0_fits_10 : decode cX0_fits 10 = .ok (.aload_n 0, 1) := by decide +kernel
theorem dX0_fits_11 : decode cX0_fits 11 = .ok (.getfield 19, 3) := by decide +kernel
theorem dX0_fits_14 : decode cX0_fits 14 = .ok (.iconst 2, 1) := by decide +kernel
theorem dX0_fits_15 : decode cX0_fits 15 = .ok (.if_icmp .ne 17, 3) := by decide +kernel
theorem dX0_fits_18 : decode cX0_fits 18 = .ok (.aload_n 1, 1) := by decide +kernel
theorem dX0_fits_19 : decode cX0_fits 19 = .ok (.getfield 43, 3) := by decide +kernel
theorem dX0_fits_22 : decode cX0_fits 22 = .ok (.iconst 2, 1) := by decide +kernel
theorem dX0_fits_23 : decode cX0_fits 23 = .ok (.if_icmp .ne 7, 3) := by decide +kernel
theorem dX0_fits_26 : decode cX0_fits 26 = .ok (.iconst 1, 1) := by decide +kernel
theorem dX0_fits_27 : decode cX0_fits 27 = .ok (.goto 4, 3) := by decide +kernel
theorem dX0_fits_30 : decode cX0_fits 30 = .ok (.iconst 0, 1) := by decide +kernel
theorem dX0_fits_31 : decode cX0_fits 31 = .ok (.ireturn, 1) := by decide +kernel
theorem dX0_fits_32 : decode cX0_fits 32 = .ok (.aload_n 0, 1) := by decide +kernel
theorem dX0_fits_33 : decode cX0_fits 33 = .ok (.getfield 19, 3) := by decide +kernel
theorem dX0_fits_36 : decode cX0_fits 36 = .ok (.iconst 3, 1) := by decide +kernel
theorem dX0_fits_37 : decode cX0_fits 37 = .ok (.if_icmp .ne 14, 3) := by decide +kernel
theorem dX0_fits_40 : decode cX0_fits 40 = .ok (.aload_n 1, 1) := by decide +kernel
theorem dX0_fits_41 : decode cX0_fits 41 = .ok (.getfield 40, 3) := by decide +kernel
theorem dX0_fits_44 : decode cX0_fits 44 = .ok (.aload_n 0, 1) := by decide +kernel
theorem dX0_fits_45 : decode cX0_fits 45 = .ok (.getfield 34, 3) := by decide +kernel
theorem dX0_fits_48 : decode cX0_fits 48 = .ok (.if_icmp .ne 7, 3) := by decide +kernel
theorem dX0_fits_51 : decode cX0_fits 51 = .ok (.iconst 1, 1) := by decide +kernel
theorem dX0_fits_52 : decode cX0_fits 52 = .ok (.goto 4, 3) := by decide +kernel
theorem dX0_fits_55 : decode cX0_fits 55 = .ok (.iconst 0, 1) := by decide +kernel
theorem dX0_fits_56 : decode cX0_fits 56 = .ok (.ireturn, 1) := by decide +kernel
theorem dX1_init_0 : decode cX1_init 0 = .ok (.aload_n 0, 1) := by decide +kernel
theorem dX1_init_1 : decode cX1_init 1 = .ok (.invokespecial 3, 3) := by decide +kernel
theorem dX1_init_4 : decode cX1_init 4 = .ok (.aload_n 0, 1) := by decide +kernel
theorem dX1_init_5 : decode cX1_init 5 = .ok (.bipush 6, 2) := by decide +kernel
theorem dX1_init_7 : decode cX1_init 7 = .ok (.newarray .int, 2) := by decide +kernel
theorem dX1_init_9 : decode cX1_init 9 = .ok (.putfield 9, 3) := by decide +kernel
theorem dX1_init_12 : decode cX1_init 12 = .ok (.aload_n 0, 1) := by decide +kernel
theorem dX1_init_13 : decode cX1_init 13 = .ok (.bipush 6, 2) := by decide +kernel
theorem dX1_init_15 : decode cX1_init 15 = .ok (.newarray .int, 2) := by decide +kernel
theorem dX1_init_17 : decode cX1_init 17 = .ok (.putfield 15, 3) := by decide +kernel
theorem dX1_init_20 : decode cX1_init 20 = .ok (.aload_n 0, 1) := by decide +kernel
theorem dX1_init_21 : decode cX1_init 21 = .ok (.bipush 6, 2) := by decide +kernel
theorem dX1_init_23 : decode cX1_init 23 = .ok (.newarray .int, 2) := by decide +kernel
theorem dX1_init_25 : decode cX1_init 25 = .ok (.putfield 18, 3) := by decide +kernel
theorem dX1_init_28 : decode cX1_init 28 = .ok (.aload_n 0, 1) := by decide +kernel
theorem dX1_init_29 : decode cX1_init 29 = .ok (.iconst 0, 1) := by decide +kernel
theorem dX1_init_30 : decode cX1_init 30 = .ok (.putfield 21, 3) := by decide +kernel
theorem dX1_init_33 : decode cX1_init 33 = .ok (.aload_n 0, 1) := by decide +kernel
theorem dX1_init_34 : decode cX1_init 34 = .ok (.iconst 0, 1) := by decide +kernel
theorem dX1_init_35 : decode cX1_init 35 = .ok (.putfield 25, 3) := by decide +kernel
theorem dX1_init_38 : decode cX1_init 38 = .ok (.return_, 1) := by decide +kernel
theorem dX1_clear_0 : decode cX1_clear 0 = .ok (.iconst 0, 1) := by decide +kernel
theorem dX1_clear_1 : decode cX1_clear 1 = .ok (.istore_n 1, 1) := by decide +kernel
theorem dX1_clear_2 : decode cX1_clear 2 = .ok (.iload_n 1, 1) := by decide +kernel
theorem dX1_clear_3 : decode cX1_clear 3 = .ok (.bipush 6, 2) := by decide +kernel
theorem dX1_clear_5 : decode cX1_clear 5 = .ok (.if_icmp .ge 30, 3) := by decide +kernel
theorem dX1_clear_8 : decode cX1_clear 8 = .ok (.aload_n 0, 1) := by decide +kernel
theorem dX1_clear_9 : decode cX1_clear 9 = .ok (.getfield 9, 3) := by decide +kernel
theorem dX1_clear_12 : decode cX1_clear 12 = .ok (.iload_n 1, 1) := by decide +kernel
theorem dX1_clear_13 : decode cX1_clear 13 = .ok (.iconst 0, 1) := by decide +kernel
theorem dX1_clear_14 : decode cX1_clear 14 = .ok (.iastore, 1) := by decide +kernel
theorem dX1_clear_15 : decode cX1_clear 15 = .ok (.aload_n 0, 1) := by decide +kernel
theorem dX1_clear_16 : decode cX1_clear 16 = .ok (.getfield 15, 3) := by decide +kernel
theorem dX1_clear_19 : decode cX1_clear 19 = .ok (.iload_n 1, 1) := by decide +kernel
theorem dX1_clear_20 : decode cX1_clear 20 = .ok (.iconst 0, 1) := by decide +kernel
theorem dX1_clear_21 : decode cX1_clear 21 = .ok (.iastore, 1) := by decide +kernel
theorem dX1_clear_22 : decode cX1_clear 22 = .ok (.aload_n 0, 1) := by decide +kernel
theorem dX1_clear_23 : decode cX1_clear 23 = .ok (.getfield 18, 3) := by decide +kernel
theorem dX1_clear_26 : decode cX1_clear 26 = .ok (.iload_n 1, 1) := by decide +kernel
theorem dX1_clear_27 : decode cX1_clear 27 = .ok (.iconst 0, 1) := by decide +kernel
theorem dX1_clear_28 : decode cX1_clear 28 = .ok (.iastore, 1) := by decide +kernel
theorem dX1_clear_29 : decode cX1_clear 29 = .ok (.iinc 1 1, 3) := by decide +kernel
theorem dX1_clear_32 : decode cX1_clear 32 = .ok (.goto (-30), 3) := by decide +kernel
theorem dX1_clear_35 : decode cX1_clear 35 = .ok (.aload_n 0, 1) := by decide +kernel
theorem dX1_clear_36 : decode cX1_clear 36 = .ok (.iconst 0, 1) := by decide +kernel
theorem dX1_clear_37 : decode cX1_clear 37 = .ok (.putfield 21, 3) := by decide +kernel
theorem dX1_clear_40 : decode cX1_clear 40 = .ok (.aload_n 0, 1) := by decide +kernel
theorem dX1_clear_41 : decode cX1_clear 41 = .ok (.iconst 0, 1) := by decide +kernel
theorem dX1_clear_42 : decode cX1_clear 42 = .ok (.putfield 25, 3) := by decide +kernel
theorem dX1_clear_45 : decode cX1_clear 45 = .ok (.return_, 1) := by decide +kernel
theorem dX1_addHerd_0 : decode cX1_addHerd 0 = .ok (.aload_n 1, 1) := by decide +kernel
theorem dX1_addHerd_1 : decode cX1_addHerd 1 = .ok (.getfield 28, 3) := by decide +kernel
theorem dX1_addHerd_4 : decode cX1_addHerd 4 = .ok (.ifCond .lt 12, 3) := by decide +kernel
theorem dX1_addHerd_7 : decode cX1_addHerd 7 = .ok (.aload_n 1, 1) := by decide +kernel
theorem dX1_addHerd_8 : decode cX1_addHerd 8 = .ok (.getfield 28, 3) := by decide +kernel
theorem dX1_addHerd_11 : decode cX1_addHerd 11 = .ok (.bipush 6, 2) := by decide +kernel
theorem dX1_addHerd_13 : decode cX1_addHerd 13 = .ok (.if_icmp .lt 4, 3) := by decide +kernel
theorem dX1_addHerd_16 : decode cX1_addHerd 16 = .ok (.return_, 1) := by decide +kernel
theorem dX1_addHerd_17 : decode cX1_addHerd 17 = .ok (.aload_n 1, 1) := by decide +kernel
theorem dX1_addHerd_18 : decode cX1_addHerd 18 = .ok (.getfield 33, 3) := by decide +kernel
theorem dX1_addHerd_21 : decode cX1_addHerd 21 = .ok (.iconst 2, 1) := by decide +kernel
theorem dX1_addHerd_22 : decode cX1_addHerd 22 = .ok (.if_icmp .ne 22, 3) := by decide +kernel
theorem dX1_addHerd_25 : decode cX1_addHerd 25 = .ok (.aload_n 0, 1) := by decide +kernel
theorem dX1_addHerd_26 : decode cX1_addHerd 26 = .ok (.getfield 9, 3) := by decide +kernel
theorem dX1_addHerd_29 : decode cX1_addHerd 29 = .ok (.aload_n 1, 1) := by decide +kernel
theorem dX1_addHerd_30 : decode cX1_addHerd 30 = .ok (.getfield 28, 3) := by decide +kernel
theorem dX1_addHerd_33 : decode cX1_addHerd 33 = .ok (.dup2, 1) := by decide +kernel
theorem dX1_addHerd_34 : decode cX1_addHerd 34 = .ok (.iaload, 1) := by decide +kernel
theorem dX1_addHerd_35 : decode cX1_addHerd 35 = .ok (.aload_n 1, 1) := by decide +kernel
theorem dX1_addHerd_36 : decode cX1_addHerd 36 = .ok (.invokevirtual 36, 3) := by decide +kernel
theorem dX1_addHerd_39 : decode cX1_addHerd 39 = .ok (.iadd, 1) := by decide +kernel
theorem dX1_addHerd_40 : decode cX1_addHerd 40 = .ok (.iastore, 1) := by decide +kernel
theorem dX1_addHerd_41 : decode cX1_addHerd 41 = .ok (.goto 19, 3) := by decide +kernel
theorem dX1_addHerd_44 : decode cX1_addHerd 44 = .ok (.aload_n 0, 1) := by decide +kernel
theorem dX1_addHerd_45 : decode cX1_addHerd 45 = .ok (.getfield 15, 3) := by decide +kernel
theorem dX1_addHerd_48 : decode cX1_addHerd 48 = .ok (.aload_n 1, 1) := by decide +kernel
theorem dX1_addHerd_49 : decode cX1_addHerd 49 = .ok (.getfield 28, 3) := by decide +kernel
theorem dX1_addHerd_52 : decode cX1_addHerd 52 = .ok (.dup2, 1) := by decide +kernel
theorem dX1_addHerd_53 : decode cX1_addHerd 53 = .ok (.iaload, 1) := by decide +kernel
theorem dX1_addHerd_54 : decode cX1_addHerd 54 = .ok (.aload_n 1, 1) := by decide +kernel
theorem dX1_addHerd_55 : decode cX1_addHerd 55 = .ok (.invokevirtual 36, 3) := by decide +kernel
theorem dX1_addHerd_58 : decode cX1_addHerd 58 = .ok (.iadd, 1) := by decide +kernel
theorem dX1_addHerd_59 : decode cX1_addHerd 59 = .ok (.iastore, 1) := by decide +kernel
theorem dX1_addHerd_60 : decode cX1_addHerd 60 = .ok (.return_, 1) := by decide +kernel
theorem dX1_addRight_0 : decode cX1_addRight 0 = .ok (.aload_n 1, 1) := by decide +kernel
theorem dX1_addRight_1 : decode cX1_addRight 1 = .ok (.getfield 40, 3) := by decide +kernel
theorem dX1_addRight_4 : decode cX1_addRight 4 = .ok (.iconst 2, 1) := by decide +kernel
theorem dX1_addRight_5 : decode cX1_addRight 5 = .ok (.if_icmp .ne 16, 3) := by decide +kernel
theorem dX1_addRight_8 : decode cX1_addRight 8 = .ok (.aload_n 0, 1) := by decide +kernel
theorem dX1_addRight_9 : decode cX1_addRight 9 = .ok (.dup, 1) := by decide +kernel
theorem dX1_addRight_10 : decode cX1_addRight 10 = .ok (.getfield 21, 3) := by decide +kernel
theorem dX1_addRight_13 : decode cX1_addRight 13 = .ok (.iload_n 2, 1) := by decide +kernel
theorem dX1_addRight_14 : decode cX1_addRight 14 = .ok (.iadd, 1) := by decide +kernel
theorem dX1_addRight_15 : decode cX1_addRight 15 = .ok (.putfield 21, 3) := by decide +kernel
theorem dX1_addRight_18 : decode cX1_addRight 18 = .ok (.goto 53, 3) := by decide +kernel
theorem dX1_addRight_21 : decode cX1_addRight 21 = .ok (.aload_n 1, 1) := by decide +kernel
theorem dX1_addRight_22 : decode cX1_addRight 22 = .ok (.getfield 40, 3) := by decide +kernel
theorem dX1_addRight_25 : decode cX1_addRight 25 = .ok (.iconst 3, 1) := by decide +kernel
theorem dX1_addRight_26 : decode cX1_addRight 26 = .ok (.if_icmp .eq 16, 3) := by decide +kernel
theorem dX1_addRight_29 : decode cX1_addRight 29 = .ok (.aload_n 0, 1) := by decide +kernel
theorem dX1_addRight_30 : decode cX1_addRight 30 = .ok (.dup, 1) := by decide +kernel
theorem dX1_addRight_31 : decode cX1_addRight 31 = .ok (.getfield 25, 3) := by decide +kernel
theorem dX1_addRight_34 : decode cX1_addRight 34 = .ok (.iload_n 2, 1) := by decide +kernel
theorem dX1_addRight_35 : decode cX1_addRight 35 = .ok (.iadd, 1) := by decide +kernel
theorem dX1_addRight_36 : decode cX1_addRight 36 = .ok (.putfield 25, 3) := by decide +kernel
theorem dX1_addRight_39 : decode cX1_addRight 39 = .ok (.goto 32, 3) := by decide +kernel
theorem dX1_addRight_42 : decode cX1_addRight 42 = .ok (.aload_n 1, 1) := by decide +kernel
theorem dX1_addRight_43 : decode cX1_addRight 43 = .ok (.getfield 45, 3) := by decide +kernel
theorem dX1_addRight_46 : decode cX1_addRight 46 = .ok (.ifCond .lt 25, 3) := by decide +kernel
theorem dX1_addRight_49 : decode cX1_addRight 49 = .ok (.aload_n 1, 1) := by decide +kernel
theorem dX1_addRight_50 : decode cX1_addRight 50 = .ok (.getfield 45, 3) := by decide +kernel
theorem dX1_addRight_53 : decode cX1_addRight 53 = .ok (.bipush 6, 2) := by decide +kernel
theorem dX1_addRight_55 : decode cX1_addRight 55 = .ok (.if_icmp .ge 16, 3) := by decide +kernel
theorem dX1_addRight_58 : decode cX1_addRight 58 = .ok (.aload_n 0, 1) := by decide +kernel
theorem dX1_addRight_59 : decode cX1_addRight 59 = .ok (.getfield 18, 3) := by decide +kernel
theorem dX1_addRight_62 : decode cX1_addRight 62 = .ok (.aload_n 1, 1) := by decide +kernel
theorem dX1_addRight_63 : decode cX1_addRight 63 = .ok (.getfield 45, 3) := by decide +kernel
theorem dX1_addRight_66 : decode cX1_addRight 66 = .ok (.dup2, 1) := by decide +kernel
theorem dX1_addRight_67 : decode cX1_addRight 67 = .ok (.iaload, 1) := by decide +kernel
theorem dX1_addRight_68 : decode cX1_addRight 68 = .ok (.iload_n 2, 1) := by decide +kernel
theorem dX1_addRight_69 : decode cX1_addRight 69 = .ok (.iadd, 1) := by decide +kernel
theorem dX1_addRight_70 : decode cX1_addRight 70 = .ok (.iastore, 1) := by decide +kernel
theorem dX1_addRight_71 : decode cX1_addRight 71 = .ok (.return_, 1) := by decide +kernel
theorem dX1_lack_0 : decode cX1_lack 0 = .ok (.iconst 0, 1) := by decide +kernel
theorem dX1_lack_1 : decode cX1_lack 1 = .ok (.istore_n 1, 1) := by decide +kernel
theorem dX1_lack_2 : decode cX1_lack 2 = .ok (.iconst 0, 1) := by decide +kernel
theorem dX1_lack_3 : decode cX1_lack 3 = .ok (.istore_n 2, 1) := by decide +kernel
theorem dX1_lack_4 : decode cX1_lack 4 = .ok (.iconst 0, 1) := by decide +kernel
theorem dX1_lack_5 : decode cX1_lack 5 = .ok (.istore_n 3, 1) := by decide +kernel
theorem dX1_lack_6 : decode cX1_lack 6 = .ok (.iload_n 3, 1) := by decide +kernel
theorem dX1_lack_7 : decode cX1_lack 7 = .ok (.bipush 6, 2) := by decide +kernel
theorem dX1_lack_9 : decode cX1_lack 9 = .ok (.if_icmp .ge 64, 3) := by decide +kernel
theorem dX1_lack_12 : decode cX1_lack 12 = .ok (.iconst 0, 1) := by decide +kernel
theorem dX1_lack_13 : decode cX1_lack 13 = .ok (.aload_n 0, 1) := by decide +kernel
theorem dX1_lack_14 : decode cX1_lack 14 = .ok (.getfield 18, 3) := by decide +kernel
theorem dX1_lack_17 : decode cX1_lack 17 = .ok (.iload_n 3, 1) := by decide +kernel
theorem dX1_lack_18 : decode cX1_lack 18 = .ok (.iaload, 1) := by decide +kernel
theorem dX1_lack_19 : decode cX1_lack 19 = .ok (.aload_n 0, 1) := by decide +kernel
theorem dX1_lack_20 : decode cX1_lack 20 = .ok (.getfield 15, 3) := by decide +kernel
theorem dX1_lack_23 : decode cX1_lack 23 = .ok (.iload_n 3, 1) := by decide +kernel
theorem dX1_lack_24 : decode cX1_lack 24 = .ok (.iaload, 1) := by decide +kernel
theorem dX1_lack_25 : decode cX1_lack 25 = .ok (.isub, 1) := by decide +kernel
theorem dX1_lack_26 : decode cX1_lack 26 = .ok (.invokestatic 46, 3) := by decide +kernel
theorem dX1_lack_29 : decode cX1_lack 29 = .ok (.istore 4, 2) := by decide +kernel
theorem dX1_lack_31 : decode cX1_lack 31 = .ok (.iload_n 1, 1) := by decide +kernel
theorem dX1_lack_32 : decode cX1_lack 32 = .ok (.iconst 0, 1) := by decide +kernel
theorem dX1_lack_33 : decode cX1_lack 33 = .ok (.aload_n 0, 1) := by decide +kernel
theorem dX1_lack_34 : decode cX1_lack 34 = .ok (.getfield 15, 3) := by decide +kernel
theorem dX1_lack_37 : decode cX1_lack 37 = .ok (.iload_n 3, 1) := by decide +kernel
theorem dX1_lack_38 : decode cX1_lack 38 = .ok (.iaload, 1) := by decide +kernel
theorem dX1_lack_39 : decode cX1_lack 39 = .ok (.aload_n 0, 1) := by decide +kernel
theorem dX1_lack_40 : decode cX1_lack 40 = .ok (.getfield 18, 3) := by decide +kernel
theorem dX1_lack_43 : decode cX1_lack 43 = .ok (.iload_n 3, 1) := by decide +kernel
theorem dX1_lack_44 : decode cX1_lack 44 = .ok (.iaload, 1) := by decide +kernel
theorem dX1_lack_45 : decode cX1_lack 45 = .ok (.isub, 1) := by decide +kernel
theorem dX1_lack_46 : decode cX1_lack 46 = .ok (.invokestatic 46, 3) := by decide +kernel
theorem dX1_lack_49 : decode cX1_lack 49 = .ok (.iadd, 1) := by decide +kernel
theorem dX1_lack_50 : decode cX1_lack 50 = .ok (.istore_n 1, 1) := by decide +kernel
theorem dX1_lack_51 : decode cX1_lack 51 = .ok (.iload_n 2, 1) := by decide +kernel
theorem dX1_lack_52 : decode cX1_lack 52 = .ok (.iconst 0, 1) := by decide +kernel
theorem dX1_lack_53 : decode cX1_lack 53 = .ok (.aload_n 0, 1) := by decide +kernel
theorem dX1_lack_54 : decode cX1_lack 54 = .ok (.getfield 9, 3) := by decide +kernel
theorem dX1_lack_57 : decode cX1_lack 57 = .ok (.iload_n 3, 1) := by decide +kernel
theorem dX1_lack_58 : decode cX1_lack 58 = .ok (.iaload, 1) := by decide +kernel
theorem dX1_lack_59 : decode cX1_lack 59 = .ok (.iload 4, 2) := by decide +kernel
theorem dX1_lack_61 : decode cX1_lack 61 = .ok (.isub, 1) := by decide +kernel
theorem dX1_lack_62 : decode cX1_lack 62 = .ok (.invokestatic 46, 3) := by decide +kernel
theorem dX1_lack_65 : decode cX1_lack 65 = .ok (.iadd, 1) := by decide +kernel
theorem dX1_lack_66 : decode cX1_lack 66 = .ok (.istore_n 2, 1) := by decide +kernel
theorem dX1_lack_67 : decode cX1_lack 67 = .ok (.iinc 3 1, 3) := by decide +kernel
theorem dX1_lack_70 : decode cX1_lack 70 = .ok (.goto (-64), 3) := by decide +kernel
theorem dX1_lack_73 : decode cX1_lack 73 = .ok (.iconst 0, 1) := by decide +kernel
theorem dX1_lack_74 : decode cX1_lack 74 = .ok (.iload_n 1, 1) := by decide +kernel
theorem dX1_lack_75 : decode cX1_lack 75 = .ok (.iconst 0, 1) := by decide +kernel
theorem dX1_lack_76 : decode cX1_lack 76 = .ok (.iload_n 2, 1) := by decide +kernel
theorem dX1_lack_77 : decode cX1_lack 77 = .ok (.aload_n 0, 1) := by decide +kernel
theorem dX1_lack_78 : decode cX1_lack 78 = .ok (.getfield 21, 3) := by decide +kernel
theorem dX1_lack_81 : decode cX1_lack 81 = .ok (.isub, 1) := by decide +kernel
theorem dX1_lack_82 : decode cX1_lack 82 = .ok (.invokestatic 46, 3) := by decide +kernel
theorem dX1_lack_85 : decode cX1_lack 85 = .ok (.iadd, 1) := by decide +kernel
theorem dX1_lack_86 : decode cX1_lack 86 = .ok (.aload_n 0, 1) := by decide +kernel
theorem dX1_lack_87 : decode cX1_lack 87 = .ok (.getfield 25, 3) := by decide +kernel
theorem dX1_lack_90 : decode cX1_lack 90 = .ok (.isub, 1) := by decide +kernel
theorem dX1_lack_91 : decode cX1_lack 91 = .ok (.invokestatic 46, 3) := by decide +kernel
theorem dX1_lack_94 : decode cX1_lack 94 = .ok (.ireturn, 1) := by decide +kernel
theorem dX1_partsOut_0 : decode cX1_partsOut 0 = .ok (.iconst 0, 1) := by decide +kernel
theorem dX1_partsOut_1 : decode cX1_partsOut 1 = .ok (.istore_n 1, 1) := by decide +kernel
theorem dX1_partsOut_2 : decode cX1_partsOut 2 = .ok (.iconst 0, 1) := by decide +kernel
theorem dX1_partsOut_3 : decode cX1_partsOut 3 = .ok (.istore_n 2, 1) := by decide +kernel
theorem dX1_partsOut_4 : decode cX1_partsOut 4 = .ok (.iload_n 2, 1) := by decide +kernel
theorem dX1_partsOut_5 : decode cX1_partsOut 5 = .ok (.bipush 6, 2) := by decide +kernel
theorem dX1_partsOut_7 : decode cX1_partsOut 7 = .ok (.if_icmp .ge 25, 3) := by decide +kernel
theorem dX1_partsOut_10 : decode cX1_partsOut 10 = .ok (.iload_n 1, 1) := by decide +kernel
theorem dX1_partsOut_11 : decode cX1_partsOut 11 = .ok (.aload_n 0, 1) := by decide +kernel
theorem dX1_partsOut_12 : decode cX1_partsOut 12 = .ok (.getfield 9, 3) := by decide +kernel
theorem dX1_partsOut_15 : decode cX1_partsOut 15 = .ok (.iload_n 2, 1) := by decide +kernel
theorem dX1_partsOut_16 : decode cX1_partsOut 16 = .ok (.iaload, 1) := by decide +kernel
theorem dX1_partsOut_17 : decode cX1_partsOut 17 = .ok (.aload_n 0, 1) := by decide +kernel
theorem dX1_partsOut_18 : decode cX1_partsOut 18 = .ok (.getfield 15, 3) := by decide +kernel
theorem dX1_partsOut_21 : decode cX1_partsOut 21 = .ok (.iload_n 2, 1) := by decide +kernel
theorem dX1_partsOut_22 : decode cX1_partsOut 22 = .ok (.iaload, 1) := by decide +kernel
theorem dX1_partsOut_23 : decode cX1_partsOut 23 = .ok (.iadd, 1) := by decide +kernel
theorem dX1_partsOut_24 : decode cX1_partsOut 24 = .ok (.iadd, 1) := by decide +kernel
theorem dX1_partsOut_25 : decode cX1_partsOut 25 = .ok (.istore_n 1, 1) := by decide +kernel
theorem dX1_partsOut_26 : decode cX1_partsOut 26 = .ok (.iinc 2 1, 3) := by decide +kernel
theorem dX1_partsOut_29 : decode cX1_partsOut 29 = .ok (.goto (-25), 3) := by decide +kernel
theorem dX1_partsOut_32 : decode cX1_partsOut 32 = .ok (.iload_n 1, 1) := by decide +kernel
theorem dX1_partsOut_33 : decode cX1_partsOut 33 = .ok (.ireturn, 1) := by decide +kernel
theorem dX1_partsHeld_0 : decode cX1_partsHeld 0 = .ok (.aload_n 0, 1) := by decide +kernel
theorem dX1_partsHeld_1 : decode cX1_partsHeld 1 = .ok (.getfield 21, 3) := by decide +kernel
theorem dX1_partsHeld_4 : decode cX1_partsHeld 4 = .ok (.aload_n 0, 1) := by decide +kernel
theorem dX1_partsHeld_5 : decode cX1_partsHeld 5 = .ok (.getfield 25, 3) := by decide +kernel
theorem dX1_partsHeld_8 : decode cX1_partsHeld 8 = .ok (.iadd, 1) := by decide +kernel
theorem dX1_partsHeld_9 : decode cX1_partsHeld 9 = .ok (.istore_n 1, 1) := by decide +kernel
theorem dX1_partsHeld_10 : decode cX1_partsHeld 10 = .ok (.iconst 0, 1) := by decide +kernel
theorem dX1_partsHeld_11 : decode cX1_partsHeld 11 = .ok (.istore_n 2, 1) := by decide +kernel
theorem dX1_partsHeld_12 : decode cX1_partsHeld 12 = .ok (.iload_n 2, 1) := by decide +kernel
theorem dX1_partsHeld_13 : decode cX1_partsHeld 13 = .ok (.bipush 6, 2) := by decide +kernel
theorem dX1_partsHeld_15 : decode cX1_partsHeld 15 = .ok (.if_icmp .ge 18, 3) := by decide +kernel
theorem dX1_partsHeld_18 : decode cX1_partsHeld 18 = .ok (.iload_n 1, 1) := by decide +kernel
theorem dX1_partsHeld_19 : decode cX1_partsHeld 19 = .ok (.aload_n 0, 1) := by decide +kernel
theorem dX1_partsHeld_20 : decode cX1_partsHeld 20 = .ok (.getfield 18, 3) := by decide +kernel
theorem dX1_partsHeld_23 : decode cX1_partsHeld 23 = .ok (.iload_n 2, 1) := by decide +kernel
theorem dX1_partsHeld_24 : decode cX1_partsHeld 24 = .ok (.iaload, 1) := by decide +kernel
