theorem dX8_piece_38 : decode cX8_piece 38 = .ok (.aload_n 0, 1) := by decide +kernel
theorem dX8_piece_39 : decode cX8_piece 39 = .ok (.getfield 75, 3) := by decide +kernel
theorem dX8_piece_42 : decode cX8_piece 42 = .ok (.bipush 6, 2) := by decide +kernel
theorem dX8_piece_44 : decode cX8_piece 44 = .ok (.if_icmp .lt 10, 3) := by decide +kernel
theorem dX8_piece_47 : decode cX8_piece 47 = .ok (.aload_n 0, 1) := by decide +kernel
theorem dX8_piece_48 : decode cX8_piece 48 = .ok (.bipush (-6), 2) := by decide +kernel
theorem dX8_piece_50 : decode cX8_piece 50 = .ok (.invokevirtual 100, 3) := by decide +kernel
theorem dX8_piece_53 : decode cX8_piece 53 = .ok (.ireturn, 1) := by decide +kernel
theorem dX8_piece_54 : decode cX8_piece 54 = .ok (.aload_n 0, 1) := by decide +kernel
theorem dX8_piece_55 : decode cX8_piece 55 = .ok (.getfield 11, 3) := by decide +kernel
theorem dX8_piece_58 : decode cX8_piece 58 = .ok (.aload_n 0, 1) := by decide +kernel
theorem dX8_piece_59 : decode cX8_piece 59 = .ok (.getfield 75, 3) := by decide +kernel
theorem dX8_piece_62 : decode cX8_piece 62 = .ok (.new 9, 3) := by decide +kernel
theorem dX8_piece_65 : decode cX8_piece 65 = .ok (.dup, 1) := by decide +kernel
theorem dX8_piece_66 : decode cX8_piece 66 = .ok (.iload_n 1, 1) := by decide +kernel
theorem dX8_piece_67 : decode cX8_piece 67 = .ok (.iload_n 2, 1) := by decide +kernel
theorem dX8_piece_68 : decode cX8_piece 68 = .ok (.iload_n 3, 1) := by decide +kernel
theorem dX8_piece_69 : decode cX8_piece 69 = .ok (.iload 4, 2) := by decide +kernel
theorem dX8_piece_71 : decode cX8_piece 71 = .ok (.invokespecial 105, 3) := by decide +kernel
theorem dX8_piece_74 : decode cX8_piece 74 = .ok (.aastore, 1) := by decide +kernel
theorem dX8_piece_75 : decode cX8_piece 75 = .ok (.aload_n 0, 1) := by decide +kernel
theorem dX8_piece_76 : decode cX8_piece 76 = .ok (.dup, 1) := by decide +kernel
theorem dX8_piece_77 : decode cX8_piece 77 = .ok (.getfield 75, 3) := by decide +kernel
theorem dX8_piece_80 : decode cX8_piece 80 = .ok (.iconst 1, 1) := by decide +kernel
theorem dX8_piece_81 : decode cX8_piece 81 = .ok (.iadd, 1) := by decide +kernel
theorem dX8_piece_82 : decode cX8_piece 82 = .ok (.putfield 75, 3) := by decide +kernel
theorem dX8_piece_85 : decode cX8_piece 85 = .ok (.aload_n 0, 1) := by decide +kernel
theorem dX8_piece_86 : decode cX8_piece 86 = .ok (.getfield 75, 3) := by decide +kernel
theorem dX8_piece_89 : decode cX8_piece 89 = .ok (.iconst 1, 1) := by decide +kernel
theorem dX8_piece_90 : decode cX8_piece 90 = .ok (.isub, 1) := by decide +kernel
theorem dX8_piece_91 : decode cX8_piece 91 = .ok (.ireturn, 1) := by decide +kernel
theorem dX8_owner_0 : decode cX8_owner 0 = .ok (.iload_n 1, 1) := by decide +kernel
theorem dX8_owner_1 : decode cX8_owner 1 = .ok (.ifCond .ge 10, 3) := by decide +kernel
theorem dX8_owner_4 : decode cX8_owner 4 = .ok (.aload_n 0, 1) := by decide +kernel
theorem dX8_owner_5 : decode cX8_owner 5 = .ok (.bipush (-4), 2) := by decide +kernel
theorem dX8_owner_7 : decode cX8_owner 7 = .ok (.invokevirtual 100, 3) := by decide +kernel
theorem dX8_owner_10 : decode cX8_owner 10 = .ok (.ireturn, 1) := by decide +kernel
theorem dX8_owner_11 : decode cX8_owner 11 = .ok (.iload_n 1, 1) := by decide +kernel
theorem dX8_owner_12 : decode cX8_owner 12 = .ok (.ldc 104, 2) := by decide +kernel
theorem dX8_owner_14 : decode cX8_owner 14 = .ok (.if_icmp .gt 12, 3) := by decide +kernel
theorem dX8_owner_17 : decode cX8_owner 17 = .ok (.aload_n 0, 1) := by decide +kernel
theorem dX8_owner_18 : decode cX8_owner 18 = .ok (.getfield 79, 3) := by decide +kernel
theorem dX8_owner_21 : decode cX8_owner 21 = .ok (.bipush 10, 2) := by decide +kernel
theorem dX8_owner_23 : decode cX8_owner 23 = .ok (.if_icmp .lt 10, 3) := by decide +kernel
theorem dX8_owner_26 : decode cX8_owner 26 = .ok (.aload_n 0, 1) := by decide +kernel
theorem dX8_owner_27 : decode cX8_owner 27 = .ok (.bipush (-6), 2) := by decide +kernel
theorem dX8_owner_29 : decode cX8_owner 29 = .ok (.invokevirtual 100, 3) := by decide +kernel
theorem dX8_owner_32 : decode cX8_owner 32 = .ok (.ireturn, 1) := by decide +kernel
theorem dX8_owner_33 : decode cX8_owner 33 = .ok (.aload_n 0, 1) := by decide +kernel
theorem dX8_owner_34 : decode cX8_owner 34 = .ok (.getfield 17, 3) := by decide +kernel
theorem dX8_owner_37 : decode cX8_owner 37 = .ok (.aload_n 0, 1) := by decide +kernel
theorem dX8_owner_38 : decode cX8_owner 38 = .ok (.getfield 79, 3) := by decide +kernel
theorem dX8_owner_41 : decode cX8_owner 41 = .ok (.new 15, 3) := by decide +kernel
theorem dX8_owner_44 : decode cX8_owner 44 = .ok (.dup, 1) := by decide +kernel
theorem dX8_owner_45 : decode cX8_owner 45 = .ok (.iload_n 1, 1) := by decide +kernel
theorem dX8_owner_46 : decode cX8_owner 46 = .ok (.invokespecial 21, 3) := by decide +kernel
theorem dX8_owner_49 : decode cX8_owner 49 = .ok (.aastore, 1) := by decide +kernel
theorem dX8_owner_50 : decode cX8_owner 50 = .ok (.aload_n 0, 1) := by decide +kernel
theorem dX8_owner_51 : decode cX8_owner 51 = .ok (.dup, 1) := by decide +kernel
theorem dX8_owner_52 : decode cX8_owner 52 = .ok (.getfield 79, 3) := by decide +kernel
theorem dX8_owner_55 : decode cX8_owner 55 = .ok (.iconst 1, 1) := by decide +kernel
theorem dX8_owner_56 : decode cX8_owner 56 = .ok (.iadd, 1) := by decide +kernel
theorem dX8_owner_57 : decode cX8_owner 57 = .ok (.putfield 79, 3) := by decide +kernel
theorem dX8_owner_60 : decode cX8_owner 60 = .ok (.aload_n 0, 1) := by decide +kernel
theorem dX8_owner_61 : decode cX8_owner 61 = .ok (.getfield 79, 3) := by decide +kernel
theorem dX8_owner_64 : decode cX8_owner 64 = .ok (.iconst 1, 1) := by decide +kernel
theorem dX8_owner_65 : decode cX8_owner 65 = .ok (.isub, 1) := by decide +kernel
theorem dX8_owner_66 : decode cX8_owner 66 = .ok (.ireturn, 1) := by decide +kernel
theorem dX8_house_0 : decode cX8_house 0 = .ok (.aload_n 0, 1) := by decide +kernel
theorem dX8_house_1 : decode cX8_house 1 = .ok (.iload_n 1, 1) := by decide +kernel
theorem dX8_house_2 : decode cX8_house 2 = .ok (.invokevirtual 108, 3) := by decide +kernel
theorem dX8_house_5 : decode cX8_house 5 = .ok (.ifCond .ne 9, 3) := by decide +kernel
theorem dX8_house_8 : decode cX8_house 8 = .ok (.aload_n 0, 1) := by decide +kernel
theorem dX8_house_9 : decode cX8_house 9 = .ok (.iconst (-1), 1) := by decide +kernel
theorem dX8_house_10 : decode cX8_house 10 = .ok (.invokevirtual 100, 3) := by decide +kernel
theorem dX8_house_13 : decode cX8_house 13 = .ok (.ireturn, 1) := by decide +kernel
theorem dX8_house_14 : decode cX8_house 14 = .ok (.aload_n 0, 1) := by decide +kernel
theorem dX8_house_15 : decode cX8_house 15 = .ok (.getfield 82, 3) := by decide +kernel
theorem dX8_house_18 : decode cX8_house 18 = .ok (.bipush 10, 2) := by decide +kernel
theorem dX8_house_20 : decode cX8_house 20 = .ok (.if_icmp .lt 10, 3) := by decide +kernel
theorem dX8_house_23 : decode cX8_house 23 = .ok (.aload_n 0, 1) := by decide +kernel
theorem dX8_house_24 : decode cX8_house 24 = .ok (.bipush (-6), 2) := by decide +kernel
theorem dX8_house_26 : decode cX8_house 26 = .ok (.invokevirtual 100, 3) := by decide +kernel
theorem dX8_house_29 : decode cX8_house 29 = .ok (.ireturn, 1) := by decide +kernel
theorem dX8_house_30 : decode cX8_house 30 = .ok (.aload_n 0, 1) := by decide +kernel
theorem dX8_house_31 : decode cX8_house 31 = .ok (.getfield 28, 3) := by decide +kernel
theorem dX8_house_34 : decode cX8_house 34 = .ok (.aload_n 0, 1) := by decide +kernel
theorem dX8_house_35 : decode cX8_house 35 = .ok (.getfield 82, 3) := by decide +kernel
theorem dX8_house_38 : decode cX8_house 38 = .ok (.iload_n 1, 1) := by decide +kernel
theorem dX8_house_39 : decode cX8_house 39 = .ok (.iastore, 1) := by decide +kernel
theorem dX8_house_40 : decode cX8_house 40 = .ok (.aload_n 0, 1) := by decide +kernel
theorem dX8_house_41 : decode cX8_house 41 = .ok (.dup, 1) := by decide +kernel
theorem dX8_house_42 : decode cX8_house 42 = .ok (.getfield 82, 3) := by decide +kernel
theorem dX8_house_45 : decode cX8_house 45 = .ok (.iconst 1, 1) := by decide +kernel
theorem dX8_house_46 : decode cX8_house 46 = .ok (.iadd, 1) := by decide +kernel
theorem dX8_house_47 : decode cX8_house 47 = .ok (.putfield 82, 3) := by decide +kernel
theorem dX8_house_50 : decode cX8_house 50 = .ok (.aload_n 0, 1) := by decide +kernel
theorem dX8_house_51 : decode cX8_house 51 = .ok (.getfield 82, 3) := by decide +kernel
theorem dX8_house_54 : decode cX8_house 54 = .ok (.iconst 1, 1) := by decide +kernel
theorem dX8_house_55 : decode cX8_house 55 = .ok (.isub, 1) := by decide +kernel
theorem dX8_house_56 : decode cX8_house 56 = .ok (.ireturn, 1) := by decide +kernel
theorem dX8_rate_0 : decode cX8_rate 0 = .ok (.iload_n 1, 1) := by decide +kernel
theorem dX8_rate_1 : decode cX8_rate 1 = .ok (.iload_n 2, 1) := by decide +kernel
theorem dX8_rate_2 : decode cX8_rate 2 = .ok (.invokestatic 112, 3) := by decide +kernel
theorem dX8_rate_5 : decode cX8_rate 5 = .ok (.ifCond .ne 10, 3) := by decide +kernel
theorem dX8_rate_8 : decode cX8_rate 8 = .ok (.aload_n 0, 1) := by decide +kernel
theorem dX8_rate_9 : decode cX8_rate 9 = .ok (.bipush (-2), 2) := by decide +kernel
theorem dX8_rate_11 : decode cX8_rate 11 = .ok (.invokevirtual 100, 3) := by decide +kernel
theorem dX8_rate_14 : decode cX8_rate 14 = .ok (.ireturn, 1) := by decide +kernel
theorem dX8_rate_15 : decode cX8_rate 15 = .ok (.iload_n 3, 1) := by decide +kernel
theorem dX8_rate_16 : decode cX8_rate 16 = .ok (.ifCond .ge 10, 3) := by decide +kernel
theorem dX8_rate_19 : decode cX8_rate 19 = .ok (.aload_n 0, 1) := by decide +kernel
theorem dX8_rate_20 : decode cX8_rate 20 = .ok (.bipush (-4), 2) := by decide +kernel
theorem dX8_rate_22 : decode cX8_rate 22 = .ok (.invokevirtual 100, 3) := by decide +kernel
theorem dX8_rate_25 : decode cX8_rate 25 = .ok (.ireturn, 1) := by decide +kernel
theorem dX8_rate_26 : decode cX8_rate 26 = .ok (.iload_n 3, 1) := by decide +kernel
theorem dX8_rate_27 : decode cX8_rate 27 = .ok (.sipush 1000, 3) := by decide +kernel
theorem dX8_rate_30 : decode cX8_rate 30 = .ok (.if_icmp .le 10, 3) := by decide +kernel
theorem dX8_rate_33 : decode cX8_rate 33 = .ok (.aload_n 0, 1) := by decide +kernel
theorem dX8_rate_34 : decode cX8_rate 34 = .ok (.bipush (-6), 2) := by decide +kernel
theorem dX8_rate_36 : decode cX8_rate 36 = .ok (.invokevirtual 100, 3) := by decide +kernel
theorem dX8_rate_39 : decode cX8_rate 39 = .ok (.ireturn, 1) := by decide +kernel
theorem dX8_rate_40 : decode cX8_rate 40 = .ok (.aload_n 0, 1) := by decide +kernel
theorem dX8_rate_41 : decode cX8_rate 41 = .ok (.getfield 47, 3) := by decide +kernel
theorem dX8_rate_44 : decode cX8_rate 44 = .ok (.iload_n 1, 1) := by decide +kernel
theorem dX8_rate_45 : decode cX8_rate 45 = .ok (.iload_n 2, 1) := by decide +kernel
theorem dX8_rate_46 : decode cX8_rate 46 = .ok (.iload_n 3, 1) := by decide +kernel
theorem dX8_rate_47 : decode cX8_rate 47 = .ok (.invokevirtual 116, 3) := by decide +kernel
theorem dX8_rate_50 : decode cX8_rate 50 = .ok (.ireturn, 1) := by decide +kernel
theorem dX8_weather_0 : decode cX8_weather 0 = .ok (.iload_n 2, 1) := by decide +kernel
theorem dX8_weather_1 : decode cX8_weather 1 = .ok (.iload_n 3, 1) := by decide +kernel
theorem dX8_weather_2 : decode cX8_weather 2 = .ok (.invokestatic 112, 3) := by decide +kernel
theorem dX8_weather_5 : decode cX8_weather 5 = .ok (.ifCond .ne 10, 3) := by decide +kernel
theorem dX8_weather_8 : decode cX8_weather 8 = .ok (.aload_n 0, 1) := by decide +kernel
theorem dX8_weather_9 : decode cX8_weather 9 = .ok (.bipush (-2), 2) := by decide +kernel
theorem dX8_weather_11 : decode cX8_weather 11 = .ok (.invokevirtual 100, 3) := by decide +kernel
theorem dX8_weather_14 : decode cX8_weather 14 = .ok (.ireturn, 1) := by decide +kernel
theorem dX8_weather_15 : decode cX8_weather 15 = .ok (.iload_n 1, 1) := by decide +kernel
theorem dX8_weather_16 : decode cX8_weather 16 = .ok (.ifCond .ge 10, 3) := by decide +kernel
theorem dX8_weather_19 : decode cX8_weather 19 = .ok (.aload_n 0, 1) := by decide +kernel
theorem dX8_weather_20 : decode cX8_weather 20 = .ok (.bipush (-4), 2) := by decide +kernel
theorem dX8_weather_22 : decode cX8_weather 22 = .ok (.invokevirtual 100, 3) := by decide +kernel
theorem dX8_weather_25 : decode cX8_weather 25 = .ok (.ireturn, 1) := by decide +kernel
theorem dX8_weather_26 : decode cX8_weather 26 = .ok (.iload_n 1, 1) := by decide +kernel
theorem dX8_weather_27 : decode cX8_weather 27 = .ok (.sipush 720, 3) := by decide +kernel
theorem dX8_weather_30 : decode cX8_weather 30 = .ok (.if_icmp .le 10, 3) := by decide +kernel
theorem dX8_weather_33 : decode cX8_weather 33 = .ok (.aload_n 0, 1) := by decide +kernel
theorem dX8_weather_34 : decode cX8_weather 34 = .ok (.bipush (-6), 2) := by decide +kernel
theorem dX8_weather_36 : decode cX8_weather 36 = .ok (.invokevirtual 100, 3) := by decide +kernel
theorem dX8_weather_39 : decode cX8_weather 39 = .ok (.ireturn, 1) := by decide +kernel
theorem dX8_weather_40 : decode cX8_weather 40 = .ok (.aload_n 0, 1) := by decide +kernel
theorem dX8_weather_41 : decode cX8_weather 41 = .ok (.getfield 47, 3) := by decide +kernel
theorem dX8_weather_44 : decode cX8_weather 44 = .ok (.iload_n 1, 1) := by decide +kernel
theorem dX8_weather_45 : decode cX8_weather 45 = .ok (.iload_n 2, 1) := by decide +kernel
theorem dX8_weather_46 : decode cX8_weather 46 = .ok (.iload_n 3, 1) := by decide +kernel
theorem dX8_weather_47 : decode cX8_weather 47 = .ok (.invokevirtual 120, 3) := by decide +kernel
theorem dX8_weather_50 : decode cX8_weather 50 = .ok (.iconst 1, 1) := by decide +kernel
theorem dX8_weather_51 : decode cX8_weather 51 = .ok (.ireturn, 1) := by decide +kernel
theorem dX8_right_0 : decode cX8_right 0 = .ok (.iload_n 1, 1) := by decide +kernel
theorem dX8_right_1 : decode cX8_right 1 = .ok (.ifCond .lt 8, 3) := by decide +kernel
theorem dX8_right_4 : decode cX8_right 4 = .ok (.iload_n 1, 1) := by decide +kernel
theorem dX8_right_5 : decode cX8_right 5 = .ok (.iconst 3, 1) := by decide +kernel
theorem dX8_right_6 : decode cX8_right 6 = .ok (.if_icmp .le 10, 3) := by decide +kernel
theorem dX8_right_9 : decode cX8_right 9 = .ok (.aload_n 0, 1) := by decide +kernel
theorem dX8_right_10 : decode cX8_right 10 = .ok (.bipush (-2), 2) := by decide +kernel
theorem dX8_right_12 : decode cX8_right 12 = .ok (.invokevirtual 100, 3) := by decide +kernel
theorem dX8_right_15 : decode cX8_right 15 = .ok (.ireturn, 1) := by decide +kernel
theorem dX8_right_16 : decode cX8_right 16 = .ok (.iload_n 1, 1) := by decide +kernel
theorem dX8_right_17 : decode cX8_right 17 = .ok (.iconst 1, 1) := by decide +kernel
theorem dX8_right_18 : decode cX8_right 18 = .ok (.if_icmp .ne 14, 3) := by decide +kernel
theorem dX8_right_21 : decode cX8_right 21 = .ok (.aload_n 0, 1) := by decide +kernel
theorem dX8_right_22 : decode cX8_right 22 = .ok (.iload_n 2, 1) := by decide +kernel
theorem dX8_right_23 : decode cX8_right 23 = .ok (.invokevirtual 124, 3) := by decide +kernel
theorem dX8_right_26 : decode cX8_right 26 = .ok (.ifCond .ne 20, 3) := by decide +kernel
theorem dX8_right_29 : decode cX8_right 29 = .ok (.goto 11, 3) := by decide +kernel
theorem dX8_right_32 : decode cX8_right 32 = .ok (.aload_n 0, 1) := by decide +kernel
theorem dX8_right_33 : decode cX8_right 33 = .ok (.iload_n 2, 1) := by decide +kernel
theorem dX8_right_34 : decode cX8_right 34 = .ok (.invokevirtual 108, 3) := by decide +kernel
theorem dX8_right_37 : decode cX8_right 37 = .ok (.ifCond .ne 9, 3) := by decide +kernel
theorem dX8_right_40 : decode cX8_right 40 = .ok (.aload_n 0, 1) := by decide +kernel
theorem dX8_right_41 : decode cX8_right 41 = .ok (.iconst (-1), 1) := by decide +kernel
theorem dX8_right_42 : decode cX8_right 42 = .ok (.invokevirtual 100, 3) := by decide +kernel
theorem dX8_right_45 : decode cX8_right 45 = .ok (.ireturn, 1) := by decide +kernel
theorem dX8_right_46 : decode cX8_right 46 = .ok (.iload_n 1, 1) := by decide +kernel
theorem dX8_right_47 : decode cX8_right 47 = .ok (.iconst 3, 1) := by decide +kernel
theorem dX8_right_48 : decode cX8_right 48 = .ok (.if_icmp .ne 18, 3) := by decide +kernel
theorem dX8_right_51 : decode cX8_right 51 = .ok (.aload_n 0, 1) := by decide +kernel
theorem dX8_right_52 : decode cX8_right 52 = .ok (.iload 5, 2) := by decide +kernel
theorem dX8_right_54 : decode cX8_right 54 = .ok (.invokevirtual 127, 3) := by decide +kernel
theorem dX8_right_57 : decode cX8_right 57 = .ok (.ifCond .ne 9, 3) := by decide +kernel
theorem dX8_right_60 : decode cX8_right 60 = .ok (.aload_n 0, 1) := by decide +kernel
theorem dX8_right_61 : decode cX8_right 61 = .ok (.iconst (-1), 1) := by decide +kernel
theorem dX8_right_62 : decode cX8_right 62 = .ok (.invokevirtual 100, 3) := by decide +kernel
theorem dX8_right_65 : decode cX8_right 65 = .ok (.ireturn, 1) := by decide +kernel
theorem dX8_right_66 : decode cX8_right 66 = .ok (.iload_n 3, 1) := by decide +kernel
theorem dX8_right_67 : decode cX8_right 67 = .ok (.iconst 1, 1) := by decide +kernel
theorem dX8_right_68 : decode cX8_right 68 = .ok (.if_icmp .lt 12, 3) := by decide +kernel
theorem dX8_right_71 : decode cX8_right 71 = .ok (.iload 4, 2) := by decide +kernel
theorem dX8_right_73 : decode cX8_right 73 = .ok (.aload_n 0, 1) := by decide +kernel
theorem dX8_right_74 : decode cX8_right 74 = .ok (.getfield 91, 3) := by decide +kernel
theorem dX8_right_77 : decode cX8_right 77 = .ok (.if_icmp .ge 10, 3) := by decide +kernel
theorem dX8_right_80 : decode cX8_right 80 = .ok (.aload_n 0, 1) := by decide +kernel
theorem dX8_right_81 : decode cX8_right 81 = .ok (.bipush (-4), 2) := by decide +kernel
theorem dX8_right_83 : decode cX8_right 83 = .ok (.invokevirtual 100, 3) := by decide +kernel
theorem dX8_right_86 : decode cX8_right 86 = .ok (.ireturn, 1) := by decide +kernel
theorem dX8_right_87 : decode cX8_right 87 = .ok (.iload_n 3, 1) := by decide +kernel
theorem dX8_right_88 : decode cX8_right 88 = .ok (.sipush 10000, 3) := by decide +kernel
theorem dX8_right_91 : decode cX8_right 91 = .ok (.if_icmp .gt 20, 3) := by decide +kernel
theorem dX8_right_94 : decode cX8_right 94 = .ok (.iload 4, 2) := by decide +kernel
theorem dX8_right_96 : decode cX8_right 96 = .ok (.sipush 720, 3) := by decide +kernel
theorem dX8_right_99 : decode cX8_right 99 = .ok (.if_icmp .gt 12, 3) := by decide +kernel
theorem dX8_right_102 : decode cX8_right 102 = .ok (.aload_n 0, 1) := by decide +kernel
theorem dX8_right_103 : decode cX8_right 103 = .ok (.getfield 85, 3) := by decide +kernel
theorem dX8_right_106 : decode cX8_right 106 = .ok (.bipush 60, 2) := by decide +kernel
theorem dX8_right_108 : decode cX8_right 108 = .ok (.if_icmp .lt 10, 3) := by decide +kernel
theorem dX8_right_111 : decode cX8_right 111 = .ok (.aload_n 0, 1) := by decide +kernel
theorem dX8_right_112 : decode cX8_right 112 = .ok (.bipush (-6), 2) := by decide +kernel
theorem dX8_right_114 : decode cX8_right 114 = .ok (.invokevirtual 100, 3) := by decide +kernel
theorem dX8_right_117 : decode cX8_right 117 = .ok (.ireturn, 1) := by decide +kernel
theorem dX8_right_118 : decode cX8_right 118 = .ok (.aload_n 0, 1) := by decide +kernel
theorem dX8_right_119 : decode cX8_right 119 = .ok (.new 32, 3) := by decide +kernel
theorem dX8_right_122 : decode cX8_right 122 = .ok (.dup, 1) := by decide +kernel
theorem dX8_right_123 : decode cX8_right 123 = .ok (.iload_n 1, 1) := by decide +kernel
theorem dX8_right_124 : decode cX8_right 124 = .ok (.iload_n 2, 1) := by decide +kernel
theorem dX8_right_125 : decode cX8_right 125 = .ok (.iload_n 3, 1) := by decide +kernel
theorem dX8_right_126 : decode cX8_right 126 = .ok (.aload_n 0, 1) := by decide +kernel
theorem dX8_right_127 : decode cX8_right 127 = .ok (.getfield 91, 3) := by decide +kernel
theorem dX8_right_130 : decode cX8_right 130 = .ok (.iload 4, 2) := by decide +kernel
theorem dX8_right_132 : decode cX8_right 132 = .ok (.iload_n 1, 1) := by decide +kernel
theorem dX8_right_133 : decode cX8_right 133 = .ok (.iconst 3, 1) := by decide +kernel
theorem dX8_right_134 : decode cX8_right 134 = .ok (.if_icmp .ne 8, 3) := by decide +kernel
theorem dX8_right_137 : decode cX8_right 137 = .ok (.iload 5, 2) := by decide +kernel
theorem dX8_right_139 : decode cX8_right 139 = .ok (.goto 5, 3) := by decide +kernel
theorem dX8_right_142 : decode cX8_right 142 = .ok (.bipush (-9), 2) := by decide +kernel
theorem dX8_right_144 : decode cX8_right 144 = .ok (.bipush (-9), 2) := by decide +kernel
theorem dX8_right_146 : decode cX8_right 146 = .ok (.invokespecial 130, 3) := by decide +kernel
theorem dX8_right_149 : decode cX8_right 149 = .ok (.invokevirtual 133, 3) := by decide +kernel
theorem dX8_right_152 : decode cX8_right 152 = .ok (.ireturn, 1) := by decide +kernel
theorem dX8_lend_0 : decode cX8_lend 0 = .ok (.aload_n 0, 1) := by decide +kernel
theorem dX8_lend_1 : decode cX8_lend 1 = .ok (.iload_n 1, 1) := by decide +kernel
theorem dX8_lend_2 : decode cX8_lend 2 = .ok (.iload_n 2, 1) := by decide +kernel
theorem dX8_lend_3 : decode cX8_lend 3 = .ok (.invokevirtual 137, 3) := by decide +kernel
theorem dX8_lend_6 : decode cX8_lend 6 = .ok (.ifCond .ne 9, 3) := by decide +kernel
theorem dX8_lend_9 : decode cX8_lend 9 = .ok (.aload_n 0, 1) := by decide +kernel
theorem dX8_lend_10 : decode cX8_lend 10 = .ok (.iconst (-1), 1) := by decide +kernel
theorem dX8_lend_11 : decode cX8_lend 11 = .ok (.invokevirtual 100, 3) := by decide +kernel
theorem dX8_lend_14 : decode cX8_lend 14 = .ok (.ireturn, 1) := by decide +kernel
theorem dX8_lend_15 : decode cX8_lend 15 = .ok (.aload_n 0, 1) := by decide +kernel
theorem dX8_lend_16 : decode cX8_lend 16 = .ok (.getfield 34, 3) := by decide +kernel
theorem dX8_lend_19 : decode cX8_lend 19 = .ok (.iload_n 1, 1) := by decide +kernel
theorem dX8_lend_20 : decode cX8_lend 20 = .ok (.aaload, 1) := by decide +kernel
theorem dX8_lend_21 : decode cX8_lend 21 = .ok (.getfield 140, 3) := by decide +kernel
theorem dX8_lend_24 : decode cX8_lend 24 = .ok (.ifCond .eq 10, 3) := by decide +kernel
theorem dX8_lend_27 : decode cX8_lend 27 = .ok (.aload_n 0, 1) := by decide +kernel
theorem dX8_lend_28 : decode cX8_lend 28 = .ok (.bipush (-2), 2) := by decide +kernel
theorem dX8_lend_30 : decode cX8_lend 30 = .ok (.invokevirtual 100, 3) := by decide +kernel
theorem dX8_lend_33 : decode cX8_lend 33 = .ok (.ireturn, 1) := by decide +kernel
theorem dX8_lend_34 : decode cX8_lend 34 = .ok (.aload_n 0, 1) := by decide +kernel
theorem dX8_lend_35 : decode cX8_lend 35 = .ok (.getfield 34, 3) := by decide +kernel
theorem dX8_lend_38 : decode cX8_lend 38 = .ok (.iload_n 1, 1) := by decide +kernel
theorem dX8_lend_39 : decode cX8_lend 39 = .ok (.aaload, 1) := by decide +kernel
theorem dX8_lend_40 : decode cX8_lend 40 = .ok (.aload_n 0, 1) := by decide +kernel
theorem dX8_lend_41 : decode cX8_lend 41 = .ok (.getfield 91, 3) := by decide +kernel
theorem dX8_lend_44 : decode cX8_lend 44 = .ok (.invokevirtual 143, 3) := by decide +kernel
theorem dX8_lend_47 : decode cX8_lend 47 = .ok (.ifCond .ne 10, 3) := by decide +kernel
theorem dX8_lend_50 : decode cX8_lend 50 = .ok (.aload_n 0, 1) := by decide +kernel
theorem dX8_lend_51 : decode cX8_lend 51 = .ok (.bipush (-3), 2) := by decide +kernel
theorem dX8_lend_53 : decode cX8_lend 53 = .ok (.invokevirtual 100, 3) := by decide +kernel
theorem dX8_lend_56 : decode cX8_lend 56 = .ok (.ireturn, 1) := by decide +kernel
theorem dX8_lend_57 : decode cX8_lend 57 = .ok (.iload_n 3, 1) := by decide +kernel
theorem dX8_lend_58 : decode cX8_lend 58 = .ok (.iconst 1, 1) := by decide +kernel
theorem dX8_lend_59 : decode cX8_lend 59 = .ok (.if_icmp .lt 12, 3) := by decide +kernel
theorem dX8_lend_62 : decode cX8_lend 62 = .ok (.iload 4, 2) := by decide +kernel
theorem dX8_lend_64 : decode cX8_lend 64 = .ok (.aload_n 0, 1) := by decide +kernel
theorem dX8_lend_65 : decode cX8_lend 65 = .ok (.getfield 91, 3) := by decide +kernel
theorem dX8_lend_68 : decode cX8_lend 68 = .ok (.if_icmp .ge 10, 3) := by decide +kernel
theorem dX8_lend_71 : decode cX8_lend 71 = .ok (.aload_n 0, 1) := by decide +kernel
theorem dX8_lend_72 : decode cX8_lend 72 = .ok (.bipush (-4), 2) := by decide +kernel
theorem dX8_lend_74 : decode cX8_lend 74 = .ok (.invokevirtual 100, 3) := by decide +kernel
theorem dX8_lend_77 : decode cX8_lend 77 = .ok (.ireturn, 1) := by decide +kernel
theorem dX8_lend_78 : decode cX8_lend 78 = .ok (.iload_n 3, 1) := by decide +kernel
theorem dX8_lend_79 : decode cX8_lend 79 = .ok (.aload_n 0, 1) := by decide +kernel
theorem dX8_lend_80 : decode cX8_lend 80 = .ok (.iload_n 1, 1) := by decide +kernel
theorem dX8_lend_81 : decode cX8_lend 81 = .ok (.invokevirtual 146, 3) := by decide +kernel
theorem dX8_lend_84 : decode cX8_lend 84 = .ok (.if_icmp .le 10, 3) := by decide +kernel
theorem dX8_lend_87 : decode cX8_lend 87 = .ok (.aload_n 0, 1) := by decide +kernel
theorem dX8_lend_88 : decode cX8_lend 88 = .ok (.bipush (-5), 2) := by decide +kernel
theorem dX8_lend_90 : decode cX8_lend 90 = .ok (.invokevirtual 100, 3) := by decide +kernel
theorem dX8_lend_93 : decode cX8_lend 93 = .ok (.ireturn, 1) := by decide +kernel
theorem dX8_lend_94 : decode cX8_lend 94 = .ok (.iload 4, 2) := by decide +kernel
theorem dX8_lend_96 : decode cX8_lend 96 = .ok (.aload_n 0, 1) := by decide +kernel
theorem dX8_lend_97 : decode cX8_lend 97 = .ok (.getfield 34, 3) := by decide +kernel
theorem dX8_lend_100 : decode cX8_lend 100 = .ok (.iload_n 1, 1) := by decide +kernel
theorem dX8_lend_101 : decode cX8_lend 101 = .ok (.aaload, 1) := by decide +kernel
theorem dX8_lend_102 : decode cX8_lend 102 = .ok (.getfield 149, 3) := by decide +kernel
theorem dX8_lend_105 : decode cX8_lend 105 = .ok (.if_icmp .gt 12, 3) := by decide +kernel
theorem dX8_lend_108 : decode cX8_lend 108 = .ok (.aload_n 0, 1) := by decide +kernel
theorem dX8_lend_109 : decode cX8_lend 109 = .ok (.getfield 85, 3) := by decide +kernel
theorem dX8_lend_112 : decode cX8_lend 112 = .ok (.bipush 60, 2) := by decide +kernel
theorem dX8_lend_114 : decode cX8_lend 114 = .ok (.if_icmp .lt 10, 3) := by decide +kernel
