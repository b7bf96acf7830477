theorem dX9_owner_18 : decode cX9_owner 18 = .ok (.getfield 131, 3) := by decide +kernel
theorem dX9_owner_21 : decode cX9_owner 21 = .ok (.bipush 10, 2) := by decide +kernel
theorem dX9_owner_23 : decode cX9_owner 23 = .ok (.if_icmp .ne 10, 3) := by decide +kernel
theorem dX9_owner_26 : decode cX9_owner 26 = .ok (.aload_n 0, 1) := by decide +kernel
theorem dX9_owner_27 : decode cX9_owner 27 = .ok (.bipush (-6), 2) := by decide +kernel
theorem dX9_owner_29 : decode cX9_owner 29 = .ok (.invokevirtual 122, 3) := by decide +kernel
theorem dX9_owner_32 : decode cX9_owner 32 = .ok (.ireturn, 1) := by decide +kernel
theorem dX9_owner_33 : decode cX9_owner 33 = .ok (.aload_n 0, 1) := by decide +kernel
theorem dX9_owner_34 : decode cX9_owner 34 = .ok (.getfield 32, 3) := by decide +kernel
theorem dX9_owner_37 : decode cX9_owner 37 = .ok (.aload_n 0, 1) := by decide +kernel
theorem dX9_owner_38 : decode cX9_owner 38 = .ok (.getfield 131, 3) := by decide +kernel
theorem dX9_owner_41 : decode cX9_owner 41 = .ok (.iload_n 1, 1) := by decide +kernel
theorem dX9_owner_42 : decode cX9_owner 42 = .ok (.iastore, 1) := by decide +kernel
theorem dX9_owner_43 : decode cX9_owner 43 = .ok (.aload_n 0, 1) := by decide +kernel
theorem dX9_owner_44 : decode cX9_owner 44 = .ok (.dup, 1) := by decide +kernel
theorem dX9_owner_45 : decode cX9_owner 45 = .ok (.getfield 131, 3) := by decide +kernel
theorem dX9_owner_48 : decode cX9_owner 48 = .ok (.iconst 1, 1) := by decide +kernel
theorem dX9_owner_49 : decode cX9_owner 49 = .ok (.iadd, 1) := by decide +kernel
theorem dX9_owner_50 : decode cX9_owner 50 = .ok (.putfield 131, 3) := by decide +kernel
theorem dX9_owner_53 : decode cX9_owner 53 = .ok (.aload_n 0, 1) := by decide +kernel
theorem dX9_owner_54 : decode cX9_owner 54 = .ok (.getfield 131, 3) := by decide +kernel
theorem dX9_owner_57 : decode cX9_owner 57 = .ok (.iconst 1, 1) := by decide +kernel
theorem dX9_owner_58 : decode cX9_owner 58 = .ok (.isub, 1) := by decide +kernel
theorem dX9_owner_59 : decode cX9_owner 59 = .ok (.ireturn, 1) := by decide +kernel
theorem dX9_house_0 : decode cX9_house 0 = .ok (.iload_n 1, 1) := by decide +kernel
theorem dX9_house_1 : decode cX9_house 1 = .ok (.aload_n 0, 1) := by decide +kernel
theorem dX9_house_2 : decode cX9_house 2 = .ok (.getfield 131, 3) := by decide +kernel
theorem dX9_house_5 : decode cX9_house 5 = .ok (.invokestatic 134, 3) := by decide +kernel
theorem dX9_house_8 : decode cX9_house 8 = .ok (.ifCond .ne 9, 3) := by decide +kernel
theorem dX9_house_11 : decode cX9_house 11 = .ok (.aload_n 0, 1) := by decide +kernel
theorem dX9_house_12 : decode cX9_house 12 = .ok (.iconst (-1), 1) := by decide +kernel
theorem dX9_house_13 : decode cX9_house 13 = .ok (.invokevirtual 122, 3) := by decide +kernel
theorem dX9_house_16 : decode cX9_house 16 = .ok (.ireturn, 1) := by decide +kernel
theorem dX9_rate_0 : decode cX9_rate 0 = .ok (.iload_n 1, 1) := by decide +kernel
theorem dX9_rate_1 : decode cX9_rate 1 = .ok (.bipush 10, 2) := by decide +kernel
theorem dX9_rate_3 : decode cX9_rate 3 = .ok (.invokestatic 134, 3) := by decide +kernel
theorem dX9_rate_6 : decode cX9_rate 6 = .ok (.ifCond .eq 12, 3) := by decide +kernel
theorem dX9_rate_9 : decode cX9_rate 9 = .ok (.iload_n 2, 1) := by decide +kernel
theorem dX9_rate_10 : decode cX9_rate 10 = .ok (.bipush 10, 2) := by decide +kernel
theorem dX9_rate_12 : decode cX9_rate 12 = .ok (.invokestatic 134, 3) := by decide +kernel
theorem dX9_rate_15 : decode cX9_rate 15 = .ok (.ifCond .ne 10, 3) := by decide +kernel
theorem dX9_rate_18 : decode cX9_rate 18 = .ok (.aload_n 0, 1) := by decide +kernel
theorem dX9_rate_19 : decode cX9_rate 19 = .ok (.bipush (-2), 2) := by decide +kernel
theorem dX9_rate_21 : decode cX9_rate 21 = .ok (.invokevirtual 122, 3) := by decide +kernel
theorem dX9_rate_24 : decode cX9_rate 24 = .ok (.ireturn, 1) := by decide +kernel
theorem dX9_rate_25 : decode cX9_rate 25 = .ok (.iload_n 3, 1) := by decide +kernel
theorem dX9_rate_26 : decode cX9_rate 26 = .ok (.ifCond .ge 10, 3) := by decide +kernel
theorem dX9_rate_29 : decode cX9_rate 29 = .ok (.aload_n 0, 1) := by decide +kernel
theorem dX9_rate_30 : decode cX9_rate 30 = .ok (.bipush (-4), 2) := by decide +kernel
theorem dX9_rate_32 : decode cX9_rate 32 = .ok (.invokevirtual 122, 3) := by decide +kernel
theorem dX9_rate_35 : decode cX9_rate 35 = .ok (.ireturn, 1) := by decide +kernel
theorem dX9_rate_36 : decode cX9_rate 36 = .ok (.iload_n 3, 1) := by decide +kernel
theorem dX9_rate_37 : decode cX9_rate 37 = .ok (.sipush 1000, 3) := by decide +kernel
theorem dX9_rate_40 : decode cX9_rate 40 = .ok (.if_icmp .le 10, 3) := by decide +kernel
theorem dX9_rate_43 : decode cX9_rate 43 = .ok (.aload_n 0, 1) := by decide +kernel
theorem dX9_rate_44 : decode cX9_rate 44 = .ok (.bipush (-6), 2) := by decide +kernel
theorem dX9_rate_46 : decode cX9_rate 46 = .ok (.invokevirtual 122, 3) := by decide +kernel
theorem dX9_rate_49 : decode cX9_rate 49 = .ok (.ireturn, 1) := by decide +kernel
theorem dX9_rate_50 : decode cX9_rate 50 = .ok (.aload_n 0, 1) := by decide +kernel
theorem dX9_rate_51 : decode cX9_rate 51 = .ok (.getfield 41, 3) := by decide +kernel
theorem dX9_rate_54 : decode cX9_rate 54 = .ok (.bipush 10, 2) := by decide +kernel
theorem dX9_rate_56 : decode cX9_rate 56 = .ok (.iload_n 1, 1) := by decide +kernel
theorem dX9_rate_57 : decode cX9_rate 57 = .ok (.imul, 1) := by decide +kernel
theorem dX9_rate_58 : decode cX9_rate 58 = .ok (.iload_n 2, 1) := by decide +kernel
theorem dX9_rate_59 : decode cX9_rate 59 = .ok (.iadd, 1) := by decide +kernel
theorem dX9_rate_60 : decode cX9_rate 60 = .ok (.iaload, 1) := by decide +kernel
theorem dX9_rate_61 : decode cX9_rate 61 = .ok (.istore 4, 2) := by decide +kernel
theorem dX9_rate_63 : decode cX9_rate 63 = .ok (.aload_n 0, 1) := by decide +kernel
theorem dX9_rate_64 : decode cX9_rate 64 = .ok (.getfield 41, 3) := by decide +kernel
theorem dX9_rate_67 : decode cX9_rate 67 = .ok (.bipush 10, 2) := by decide +kernel
theorem dX9_rate_69 : decode cX9_rate 69 = .ok (.iload_n 1, 1) := by decide +kernel
theorem dX9_rate_70 : decode cX9_rate 70 = .ok (.imul, 1) := by decide +kernel
theorem dX9_rate_71 : decode cX9_rate 71 = .ok (.iload_n 2, 1) := by decide +kernel
theorem dX9_rate_72 : decode cX9_rate 72 = .ok (.iadd, 1) := by decide +kernel
theorem dX9_rate_73 : decode cX9_rate 73 = .ok (.iload_n 3, 1) := by decide +kernel
theorem dX9_rate_74 : decode cX9_rate 74 = .ok (.iastore, 1) := by decide +kernel
theorem dX9_rate_75 : decode cX9_rate 75 = .ok (.iload 4, 2) := by decide +kernel
theorem dX9_rate_77 : decode cX9_rate 77 = .ok (.ireturn, 1) := by decide +kernel
theorem dX9_weather_0 : decode cX9_weather 0 = .ok (.iload_n 2, 1) := by decide +kernel
theorem dX9_weather_1 : decode cX9_weather 1 = .ok (.bipush 10, 2) := by decide +kernel
theorem dX9_weather_3 : decode cX9_weather 3 = .ok (.invokestatic 134, 3) := by decide +kernel
theorem dX9_weather_6 : decode cX9_weather 6 = .ok (.ifCond .eq 12, 3) := by decide +kernel
theorem dX9_weather_9 : decode cX9_weather 9 = .ok (.iload_n 3, 1) := by decide +kernel
theorem dX9_weather_10 : decode cX9_weather 10 = .ok (.bipush 10, 2) := by decide +kernel
theorem dX9_weather_12 : decode cX9_weather 12 = .ok (.invokestatic 134, 3) := by decide +kernel
theorem dX9_weather_15 : decode cX9_weather 15 = .ok (.ifCond .ne 10, 3) := by decide +kernel
theorem dX9_weather_18 : decode cX9_weather 18 = .ok (.aload_n 0, 1) := by decide +kernel
theorem dX9_weather_19 : decode cX9_weather 19 = .ok (.bipush (-2), 2) := by decide +kernel
theorem dX9_weather_21 : decode cX9_weather 21 = .ok (.invokevirtual 122, 3) := by decide +kernel
theorem dX9_weather_24 : decode cX9_weather 24 = .ok (.ireturn, 1) := by decide +kernel
theorem dX9_weather_25 : decode cX9_weather 25 = .ok (.iload_n 1, 1) := by decide +kernel
theorem dX9_weather_26 : decode cX9_weather 26 = .ok (.ifCond .ge 10, 3) := by decide +kernel
theorem dX9_weather_29 : decode cX9_weather 29 = .ok (.aload_n 0, 1) := by decide +kernel
theorem dX9_weather_30 : decode cX9_weather 30 = .ok (.bipush (-4), 2) := by decide +kernel
theorem dX9_weather_32 : decode cX9_weather 32 = .ok (.invokevirtual 122, 3) := by decide +kernel
theorem dX9_weather_35 : decode cX9_weather 35 = .ok (.ireturn, 1) := by decide +kernel
theorem dX9_weather_36 : decode cX9_weather 36 = .ok (.iload_n 1, 1) := by decide +kernel
theorem dX9_weather_37 : decode cX9_weather 37 = .ok (.sipush 720, 3) := by decide +kernel
theorem dX9_weather_40 : decode cX9_weather 40 = .ok (.if_icmp .le 10, 3) := by decide +kernel
theorem dX9_weather_43 : decode cX9_weather 43 = .ok (.aload_n 0, 1) := by decide +kernel
theorem dX9_weather_44 : decode cX9_weather 44 = .ok (.bipush (-6), 2) := by decide +kernel
theorem dX9_weather_46 : decode cX9_weather 46 = .ok (.invokevirtual 122, 3) := by decide +kernel
theorem dX9_weather_49 : decode cX9_weather 49 = .ok (.ireturn, 1) := by decide +kernel
theorem dX9_weather_50 : decode cX9_weather 50 = .ok (.aload_n 0, 1) := by decide +kernel
theorem dX9_weather_51 : decode cX9_weather 51 = .ok (.getfield 44, 3) := by decide +kernel
theorem dX9_weather_54 : decode cX9_weather 54 = .ok (.iload_n 1, 1) := by decide +kernel
theorem dX9_weather_55 : decode cX9_weather 55 = .ok (.iload_n 2, 1) := by decide +kernel
theorem dX9_weather_56 : decode cX9_weather 56 = .ok (.iastore, 1) := by decide +kernel
theorem dX9_weather_57 : decode cX9_weather 57 = .ok (.aload_n 0, 1) := by decide +kernel
theorem dX9_weather_58 : decode cX9_weather 58 = .ok (.getfield 47, 3) := by decide +kernel
theorem dX9_weather_61 : decode cX9_weather 61 = .ok (.iload_n 1, 1) := by decide +kernel
theorem dX9_weather_62 : decode cX9_weather 62 = .ok (.iload_n 3, 1) := by decide +kernel
theorem dX9_weather_63 : decode cX9_weather 63 = .ok (.iastore, 1) := by decide +kernel
theorem dX9_weather_64 : decode cX9_weather 64 = .ok (.iconst 1, 1) := by decide +kernel
theorem dX9_weather_65 : decode cX9_weather 65 = .ok (.ireturn, 1) := by decide +kernel
theorem dX9_right_0 : decode cX9_right 0 = .ok (.iload_n 1, 1) := by decide +kernel
theorem dX9_right_1 : decode cX9_right 1 = .ok (.iconst 4, 1) := by decide +kernel
theorem dX9_right_2 : decode cX9_right 2 = .ok (.invokestatic 134, 3) := by decide +kernel
theorem dX9_right_5 : decode cX9_right 5 = .ok (.ifCond .ne 10, 3) := by decide +kernel
theorem dX9_right_8 : decode cX9_right 8 = .ok (.aload_n 0, 1) := by decide +kernel
theorem dX9_right_9 : decode cX9_right 9 = .ok (.bipush (-2), 2) := by decide +kernel
theorem dX9_right_11 : decode cX9_right 11 = .ok (.invokevirtual 122, 3) := by decide +kernel
theorem dX9_right_14 : decode cX9_right 14 = .ok (.ireturn, 1) := by decide +kernel
theorem dX9_right_15 : decode cX9_right 15 = .ok (.iload_n 2, 1) := by decide +kernel
theorem dX9_right_16 : decode cX9_right 16 = .ok (.iload_n 1, 1) := by decide +kernel
theorem dX9_right_17 : decode cX9_right 17 = .ok (.iconst 1, 1) := by decide +kernel
theorem dX9_right_18 : decode cX9_right 18 = .ok (.if_icmp .ne 10, 3) := by decide +kernel
theorem dX9_right_21 : decode cX9_right 21 = .ok (.aload_n 0, 1) := by decide +kernel
theorem dX9_right_22 : decode cX9_right 22 = .ok (.getfield 138, 3) := by decide +kernel
theorem dX9_right_25 : decode cX9_right 25 = .ok (.goto 7, 3) := by decide +kernel
theorem dX9_right_28 : decode cX9_right 28 = .ok (.aload_n 0, 1) := by decide +kernel
theorem dX9_right_29 : decode cX9_right 29 = .ok (.getfield 131, 3) := by decide +kernel
theorem dX9_right_32 : decode cX9_right 32 = .ok (.invokestatic 134, 3) := by decide +kernel
theorem dX9_right_35 : decode cX9_right 35 = .ok (.ifCond .eq 20, 3) := by decide +kernel
theorem dX9_right_55 : decode cX9_right 55 = .ok (.aload_n 0, 1) := by decide +kernel
theorem dX9_right_56 : decode cX9_right 56 = .ok (.iconst (-1), 1) := by decide +kernel
theorem dX9_right_57 : decode cX9_right 57 = .ok (.invokevirtual 122, 3) := by decide +kernel
theorem dX9_right_60 : decode cX9_right 60 = .ok (.ireturn, 1) := by decide +kernel
theorem dX9_lend_0 : decode cX9_lend 0 = .ok (.iload_n 1, 1) := by decide +kernel
theorem dX9_lend_1 : decode cX9_lend 1 = .ok (.aload_n 0, 1) := by decide +kernel
theorem dX9_lend_2 : decode cX9_lend 2 = .ok (.getfield 148, 3) := by decide +kernel
theorem dX9_lend_5 : decode cX9_lend 5 = .ok (.invokestatic 134, 3) := by decide +kernel
theorem dX9_lend_8 : decode cX9_lend 8 = .ok (.ifCond .eq 23, 3) := by decide +kernel
theorem dX9_lend_31 : decode cX9_lend 31 = .ok (.aload_n 0, 1) := by decide +kernel
theorem dX9_lend_32 : decode cX9_lend 32 = .ok (.iconst (-1), 1) := by decide +kernel
theorem dX9_lend_33 : decode cX9_lend 33 = .ok (.invokevirtual 122, 3) := by decide +kernel
theorem dX9_lend_36 : decode cX9_lend 36 = .ok (.ireturn, 1) := by decide +kernel
theorem dX9_sell_0 : decode cX9_sell 0 = .ok (.iload_n 1, 1) := by decide +kernel
theorem dX9_sell_1 : decode cX9_sell 1 = .ok (.aload_n 0, 1) := by decide +kernel
theorem dX9_sell_2 : decode cX9_sell 2 = .ok (.getfield 148, 3) := by decide +kernel
theorem dX9_sell_5 : decode cX9_sell 5 = .ok (.invokestatic 134, 3) := by decide +kernel
theorem dX9_sell_8 : decode cX9_sell 8 = .ok (.ifCond .eq 23, 3) := by decide +kernel
theorem dX9_sell_31 : decode cX9_sell 31 = .ok (.aload_n 0, 1) := by decide +kernel
theorem dX9_sell_32 : decode cX9_sell 32 = .ok (.iconst (-1), 1) := by decide +kernel
theorem dX9_sell_33 : decode cX9_sell 33 = .ok (.invokevirtual 122, 3) := by decide +kernel
theorem dX9_sell_36 : decode cX9_sell 36 = .ok (.ireturn, 1) := by decide +kernel
theorem dX9_move_0 : decode cX9_move 0 = .ok (.iload_n 1, 1) := by decide +kernel
theorem dX9_move_1 : decode cX9_move 1 = .ok (.aload_n 0, 1) := by decide +kernel
theorem dX9_move_2 : decode cX9_move 2 = .ok (.getfield 138, 3) := by decide +kernel
theorem dX9_move_5 : decode cX9_move 5 = .ok (.invokestatic 134, 3) := by decide +kernel
theorem dX9_move_8 : decode cX9_move 8 = .ok (.ifCond .eq 24, 3) := by decide +kernel
theorem dX9_move_32 : decode cX9_move 32 = .ok (.aload_n 0, 1) := by decide +kernel
theorem dX9_move_33 : decode cX9_move 33 = .ok (.iconst (-1), 1) := by decide +kernel
theorem dX9_move_34 : decode cX9_move 34 = .ok (.invokevirtual 122, 3) := by decide +kernel
theorem dX9_move_37 : decode cX9_move 37 = .ok (.ireturn, 1) := by decide +kernel
theorem dX9_herd_0 : decode cX9_herd 0 = .ok (.iload_n 1, 1) := by decide +kernel
theorem dX9_herd_1 : decode cX9_herd 1 = .ok (.aload_n 0, 1) := by decide +kernel
theorem dX9_herd_2 : decode cX9_herd 2 = .ok (.getfield 131, 3) := by decide +kernel
theorem dX9_herd_5 : decode cX9_herd 5 = .ok (.invokestatic 134, 3) := by decide +kernel
theorem dX9_herd_8 : decode cX9_herd 8 = .ok (.ifCond .ne 9, 3) := by decide +kernel
theorem dX9_herd_11 : decode cX9_herd 11 = .ok (.aload_n 0, 1) := by decide +kernel
theorem dX9_herd_12 : decode cX9_herd 12 = .ok (.iconst (-1), 1) := by decide +kernel
theorem dX9_herd_13 : decode cX9_herd 13 = .ok (.invokevirtual 122, 3) := by decide +kernel
theorem dX9_herd_16 : decode cX9_herd 16 = .ok (.ireturn, 1) := by decide +kernel
theorem dX9_put_0 : decode cX9_put 0 = .ok (.iload_n 1, 1) := by decide +kernel
theorem dX9_put_1 : decode cX9_put 1 = .ok (.aload_n 0, 1) := by decide +kernel
theorem dX9_put_2 : decode cX9_put 2 = .ok (.getfield 164, 3) := by decide +kernel
theorem dX9_put_5 : decode cX9_put 5 = .ok (.invokestatic 134, 3) := by decide +kernel
theorem dX9_put_8 : decode cX9_put 8 = .ok (.ifCond .eq 14, 3) := by decide +kernel
theorem dX9_put_22 : decode cX9_put 22 = .ok (.aload_n 0, 1) := by decide +kernel
theorem dX9_put_23 : decode cX9_put 23 = .ok (.iconst (-1), 1) := by decide +kernel
theorem dX9_put_24 : decode cX9_put 24 = .ok (.invokevirtual 122, 3) := by decide +kernel
theorem dX9_put_27 : decode cX9_put 27 = .ok (.ireturn, 1) := by decide +kernel
theorem dX9_drive_0 : decode cX9_drive 0 = .ok (.iload_n 1, 1) := by decide +kernel
theorem dX9_drive_1 : decode cX9_drive 1 = .ok (.aload_n 0, 1) := by decide +kernel
theorem dX9_drive_2 : decode cX9_drive 2 = .ok (.getfield 164, 3) := by decide +kernel
theorem dX9_drive_5 : decode cX9_drive 5 = .ok (.invokestatic 134, 3) := by decide +kernel
theorem dX9_drive_8 : decode cX9_drive 8 = .ok (.ifCond .eq 19, 3) := by decide +kernel
theorem dX9_drive_27 : decode cX9_drive 27 = .ok (.aload_n 0, 1) := by decide +kernel
theorem dX9_drive_28 : decode cX9_drive 28 = .ok (.iconst (-1), 1) := by decide +kernel
theorem dX9_drive_29 : decode cX9_drive 29 = .ok (.invokevirtual 122, 3) := by decide +kernel
theorem dX9_drive_32 : decode cX9_drive 32 = .ok (.ireturn, 1) := by decide +kernel
theorem dX9_covered_0 : decode cX9_covered 0 = .ok (.iload_n 1, 1) := by decide +kernel
theorem dX9_covered_1 : decode cX9_covered 1 = .ok (.aload_n 0, 1) := by decide +kernel
theorem dX9_covered_2 : decode cX9_covered 2 = .ok (.getfield 131, 3) := by decide +kernel
theorem dX9_covered_5 : decode cX9_covered 5 = .ok (.invokestatic 134, 3) := by decide +kernel
theorem dX9_covered_8 : decode cX9_covered 8 = .ok (.ifCond .eq 19, 3) := by decide +kernel
theorem dX9_covered_27 : decode cX9_covered 27 = .ok (.aload_n 0, 1) := by decide +kernel
theorem dX9_covered_28 : decode cX9_covered 28 = .ok (.iconst (-1), 1) := by decide +kernel
theorem dX9_covered_29 : decode cX9_covered 29 = .ok (.invokevirtual 122, 3) := by decide +kernel
theorem dX9_covered_32 : decode cX9_covered 32 = .ok (.ireturn, 1) := by decide +kernel
theorem dX9_lacks_0 : decode cX9_lacks 0 = .ok (.iload_n 1, 1) := by decide +kernel
theorem dX9_lacks_1 : decode cX9_lacks 1 = .ok (.aload_n 0, 1) := by decide +kernel
theorem dX9_lacks_2 : decode cX9_lacks 2 = .ok (.getfield 131, 3) := by decide +kernel
theorem dX9_lacks_5 : decode cX9_lacks 5 = .ok (.invokestatic 134, 3) := by decide +kernel
theorem dX9_lacks_8 : decode cX9_lacks 8 = .ok (.ifCond .eq 11, 3) := by decide +kernel
theorem dX9_lacks_19 : decode cX9_lacks 19 = .ok (.aload_n 0, 1) := by decide +kernel
theorem dX9_lacks_20 : decode cX9_lacks 20 = .ok (.iconst (-1), 1) := by decide +kernel
theorem dX9_lacks_21 : decode cX9_lacks 21 = .ok (.invokevirtual 122, 3) := by decide +kernel
theorem dX9_lacks_24 : decode cX9_lacks 24 = .ok (.ireturn, 1) := by decide +kernel
theorem dX9_over_0 : decode cX9_over 0 = .ok (.iload_n 1, 1) := by decide +kernel
theorem dX9_over_1 : decode cX9_over 1 = .ok (.aload_n 0, 1) := by decide +kernel
theorem dX9_over_2 : decode cX9_over 2 = .ok (.getfield 127, 3) := by decide +kernel
theorem dX9_over_5 : decode cX9_over 5 = .ok (.invokestatic 134, 3) := by decide +kernel
theorem dX9_over_8 : decode cX9_over 8 = .ok (.ifCond .ne 9, 3) := by decide +kernel
theorem dX9_over_11 : decode cX9_over 11 = .ok (.aload_n 0, 1) := by decide +kernel
theorem dX9_over_12 : decode cX9_over 12 = .ok (.iconst (-1), 1) := by decide +kernel
theorem dX9_over_13 : decode cX9_over 13 = .ok (.invokevirtual 122, 3) := by decide +kernel
theorem dX9_over_16 : decode cX9_over 16 = .ok (.ireturn, 1) := by decide +kernel
theorem dX9_goes_0 : decode cX9_goes 0 = .ok (.iconst 0, 1) := by decide +kernel
theorem dX9_goes_1 : decode cX9_goes 1 = .ok (.istore 5, 2) := by decide +kernel
theorem dX9_goes_3 : decode cX9_goes 3 = .ok (.iload 5, 2) := by decide +kernel
theorem dX9_goes_5 : decode cX9_goes 5 = .ok (.aload_n 0, 1) := by decide +kernel
theorem dX9_goes_6 : decode cX9_goes 6 = .ok (.getfield 164, 3) := by decide +kernel
theorem dX9_goes_9 : decode cX9_goes 9 = .ok (.if_icmp .ge 17, 3) := by decide +kernel
theorem dX9_goes_12 : decode cX9_goes 12 = .ok (.aload_n 0, 1) := by decide +kernel
theorem dX9_goes_13 : decode cX9_goes 13 = .ok (.getfield 104, 3) := by decide +kernel
theorem dX9_goes_16 : decode cX9_goes 16 = .ok (.iload 5, 2) := by decide +kernel
theorem dX9_goes_18 : decode cX9_goes 18 = .ok (.iconst 0, 1) := by decide +kernel
theorem dX9_goes_19 : decode cX9_goes 19 = .ok (.iastore, 1) := by decide +kernel
theorem dX9_goes_20 : decode cX9_goes 20 = .ok (.iinc 5 1, 3) := by decide +kernel
theorem dX9_goes_23 : decode cX9_goes 23 = .ok (.goto (-20), 3) := by decide +kernel
theorem dX9_goes_26 : decode cX9_goes 26 = .ok (.aload_n 0, 1) := by decide +kernel
theorem dX9_goes_27 : decode cX9_goes 27 = .ok (.getfield 44, 3) := by decide +kernel
theorem dX9_goes_30 : decode cX9_goes 30 = .ok (.iload_n 3, 1) := by decide +kernel
theorem dX9_goes_31 : decode cX9_goes 31 = .ok (.iaload, 1) := by decide +kernel
theorem dX9_goes_32 : decode cX9_goes 32 = .ok (.istore 5, 2) := by decide +kernel
theorem dX9_goes_34 : decode cX9_goes 34 = .ok (.aload_n 0, 1) := by decide +kernel
theorem dX9_goes_35 : decode cX9_goes 35 = .ok (.getfield 41, 3) := by decide +kernel
theorem dX9_goes_38 : decode cX9_goes 38 = .ok (.bipush 10, 2) := by decide +kernel
theorem dX9_goes_40 : decode cX9_goes 40 = .ok (.iload 5, 2) := by decide +kernel
theorem dX9_goes_42 : decode cX9_goes 42 = .ok (.imul, 1) := by decide +kernel
theorem dX9_goes_43 : decode cX9_goes 43 = .ok (.aload_n 0, 1) := by decide +kernel
theorem dX9_goes_44 : decode cX9_goes 44 = .ok (.getfield 47, 3) := by decide +kernel
theorem dX9_goes_47 : decode cX9_goes 47 = .ok (.iload_n 3, 1) := by decide +kernel
theorem dX9_goes_48 : decode cX9_goes 48 = .ok (.iaload, 1) := by decide +kernel
theorem dX9_goes_49 : decode cX9_goes 49 = .ok (.iadd, 1) := by decide +kernel
theorem dX9_goes_50 : decode cX9_goes 50 = .ok (.iaload, 1) := by decide +kernel
theorem dX9_goes_51 : decode cX9_goes 51 = .ok (.istore 6, 2) := by decide +kernel
theorem dX9_goes_53 : decode cX9_goes 53 = .ok (.iconst 0, 1) := by decide +kernel
