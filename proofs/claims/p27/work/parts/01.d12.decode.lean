theorem dX9_piece_4 : decode cX9_piece 4 = .ok (.iload_n 3, 1) := by decide +kernel
theorem dX9_piece_5 : decode cX9_piece 5 = .ok (.ifCond .lt 8, 3) := by decide +kernel
theorem dX9_piece_8 : decode cX9_piece 8 = .ok (.iload_n 2, 1) := by decide +kernel
theorem dX9_piece_9 : decode cX9_piece 9 = .ok (.iconst 1, 1) := by decide +kernel
theorem dX9_piece_10 : decode cX9_piece 10 = .ok (.if_icmp .ge 10, 3) := by decide +kernel
theorem dX9_piece_13 : decode cX9_piece 13 = .ok (.aload_n 0, 1) := by decide +kernel
theorem dX9_piece_14 : decode cX9_piece 14 = .ok (.bipush (-4), 2) := by decide +kernel
theorem dX9_piece_16 : decode cX9_piece 16 = .ok (.invokevirtual 122, 3) := by decide +kernel
theorem dX9_piece_19 : decode cX9_piece 19 = .ok (.ireturn, 1) := by decide +kernel
theorem dX9_piece_20 : decode cX9_piece 20 = .ok (.iload_n 2, 1) := by decide +kernel
theorem dX9_piece_21 : decode cX9_piece 21 = .ok (.ldc 126, 2) := by decide +kernel
theorem dX9_piece_23 : decode cX9_piece 23 = .ok (.if_icmp .gt 24, 3) := by decide +kernel
theorem dX9_piece_26 : decode cX9_piece 26 = .ok (.iload_n 1, 1) := by decide +kernel
theorem dX9_piece_27 : decode cX9_piece 27 = .ok (.iload_n 2, 1) := by decide +kernel
theorem dX9_piece_28 : decode cX9_piece 28 = .ok (.if_icmp .gt 19, 3) := by decide +kernel
theorem dX9_piece_31 : decode cX9_piece 31 = .ok (.iload_n 3, 1) := by decide +kernel
theorem dX9_piece_32 : decode cX9_piece 32 = .ok (.sipush 10000, 3) := by decide +kernel
theorem dX9_piece_35 : decode cX9_piece 35 = .ok (.if_icmp .gt 12, 3) := by decide +kernel
theorem dX9_piece_38 : decode cX9_piece 38 = .ok (.aload_n 0, 1) := by decide +kernel
theorem dX9_piece_39 : decode cX9_piece 39 = .ok (.getfield 127, 3) := by decide +kernel
theorem dX9_piece_42 : decode cX9_piece 42 = .ok (.bipush 6, 2) := by decide +kernel
theorem dX9_piece_44 : decode cX9_piece 44 = .ok (.if_icmp .ne 10, 3) := by decide +kernel
theorem dX9_piece_47 : decode cX9_piece 47 = .ok (.aload_n 0, 1) := by decide +kernel
theorem dX9_piece_48 : decode cX9_piece 48 = .ok (.bipush (-6), 2) := by decide +kernel
theorem dX9_piece_50 : decode cX9_piece 50 = .ok (.invokevirtual 122, 3) := by decide +kernel
theorem dX9_piece_53 : decode cX9_piece 53 = .ok (.ireturn, 1) := by decide +kernel
theorem dX9_piece_54 : decode cX9_piece 54 = .ok (.aload_n 0, 1) := by decide +kernel
theorem dX9_piece_55 : decode cX9_piece 55 = .ok (.getfield 13, 3) := by decide +kernel
theorem dX9_piece_58 : decode cX9_piece 58 = .ok (.aload_n 0, 1) := by decide +kernel
theorem dX9_piece_59 : decode cX9_piece 59 = .ok (.getfield 127, 3) := by decide +kernel
theorem dX9_piece_62 : decode cX9_piece 62 = .ok (.iload_n 1, 1) := by decide +kernel
theorem dX9_piece_63 : decode cX9_piece 63 = .ok (.iastore, 1) := by decide +kernel
theorem dX9_piece_64 : decode cX9_piece 64 = .ok (.aload_n 0, 1) := by decide +kernel
theorem dX9_piece_65 : decode cX9_piece 65 = .ok (.getfield 16, 3) := by decide +kernel
theorem dX9_piece_68 : decode cX9_piece 68 = .ok (.aload_n 0, 1) := by decide +kernel
theorem dX9_piece_69 : decode cX9_piece 69 = .ok (.getfield 127, 3) := by decide +kernel
theorem dX9_piece_72 : decode cX9_piece 72 = .ok (.iload_n 2, 1) := by decide +kernel
theorem dX9_piece_73 : decode cX9_piece 73 = .ok (.iastore, 1) := by decide +kernel
theorem dX9_piece_74 : decode cX9_piece 74 = .ok (.aload_n 0, 1) := by decide +kernel
theorem dX9_piece_75 : decode cX9_piece 75 = .ok (.getfield 19, 3) := by decide +kernel
theorem dX9_piece_78 : decode cX9_piece 78 = .ok (.aload_n 0, 1) := by decide +kernel
theorem dX9_piece_79 : decode cX9_piece 79 = .ok (.getfield 127, 3) := by decide +kernel
theorem dX9_piece_82 : decode cX9_piece 82 = .ok (.iload_n 3, 1) := by decide +kernel
theorem dX9_piece_83 : decode cX9_piece 83 = .ok (.iastore, 1) := by decide +kernel
theorem dX9_piece_84 : decode cX9_piece 84 = .ok (.aload_n 0, 1) := by decide +kernel
theorem dX9_piece_85 : decode cX9_piece 85 = .ok (.getfield 28, 3) := by decide +kernel
theorem dX9_piece_88 : decode cX9_piece 88 = .ok (.aload_n 0, 1) := by decide +kernel
theorem dX9_piece_89 : decode cX9_piece 89 = .ok (.getfield 127, 3) := by decide +kernel
theorem dX9_piece_92 : decode cX9_piece 92 = .ok (.iload 4, 2) := by decide +kernel
theorem dX9_piece_94 : decode cX9_piece 94 = .ok (.bastore, 1) := by decide +kernel
theorem dX9_piece_95 : decode cX9_piece 95 = .ok (.aload_n 0, 1) := by decide +kernel
theorem dX9_piece_96 : decode cX9_piece 96 = .ok (.getfield 22, 3) := by decide +kernel
theorem dX9_piece_99 : decode cX9_piece 99 = .ok (.aload_n 0, 1) := by decide +kernel
theorem dX9_piece_100 : decode cX9_piece 100 = .ok (.getfield 127, 3) := by decide +kernel
theorem dX9_piece_103 : decode cX9_piece 103 = .ok (.iconst (-1), 1) := by decide +kernel
theorem dX9_piece_104 : decode cX9_piece 104 = .ok (.iastore, 1) := by decide +kernel
theorem dX9_piece_105 : decode cX9_piece 105 = .ok (.aload_n 0, 1) := by decide +kernel
theorem dX9_piece_106 : decode cX9_piece 106 = .ok (.dup, 1) := by decide +kernel
theorem dX9_piece_107 : decode cX9_piece 107 = .ok (.getfield 127, 3) := by decide +kernel
theorem dX9_piece_110 : decode cX9_piece 110 = .ok (.iconst 1, 1) := by decide +kernel
theorem dX9_piece_111 : decode cX9_piece 111 = .ok (.iadd, 1) := by decide +kernel
theorem dX9_piece_112 : decode cX9_piece 112 = .ok (.putfield 127, 3) := by decide +kernel
theorem dX9_piece_115 : decode cX9_piece 115 = .ok (.aload_n 0, 1) := by decide +kernel
theorem dX9_piece_116 : decode cX9_piece 116 = .ok (.getfield 127, 3) := by decide +kernel
theorem dX9_piece_119 : decode cX9_piece 119 = .ok (.iconst 1, 1) := by decide +kernel
theorem dX9_piece_120 : decode cX9_piece 120 = .ok (.isub, 1) := by decide +kernel
theorem dX9_piece_121 : decode cX9_piece 121 = .ok (.ireturn, 1) := by decide +kernel
theorem dX9_owner_0 : decode cX9_owner 0 = .ok (.iload_n 1, 1) := by decide +kernel
theorem dX9_owner_1 : decode cX9_owner 1 = .ok (.ifCond .ge 10, 3) := by decide +kernel
theorem dX9_owner_4 : decode cX9_owner 4 = .ok (.aload_n 0, 1) := by decide +kernel
theorem dX9_owner_5 : decode cX9_owner 5 = .ok (.bipush (-4), 2) := by decide +kernel
theorem dX9_owner_7 : decode cX9_owner 7 = .ok (.invokevirtual 122, 3) := by decide +kernel
theorem dX9_owner_10 : decode cX9_owner 10 = .ok (.ireturn, 1) := by decide +kernel
theorem dX9_owner_11 : decode cX9_owner 11 = .ok (.iload_n 1, 1) := by decide +kernel
theorem dX9_owner_12 : decode cX9_owner 12 = .ok (.ldc 126, 2) := by decide +kernel
theorem dX9_owner_14 : decode cX9_owner 14 = .ok (.if_icmp .gt 12, 3) := by decide +kernel
theorem dX9_owner_17 : decode cX9_owner 17 = .ok (.aload_n 0, 1) := by decide +kernel
theorem dX9_owner_18 : decode cX9_owner 18 = .ok (.getfield 131, 3) := by decide +kernel
theorem dX9_owner_21 : decode cX9_owner 21 = .ok (.bipush 10, 2) := by decide +kernel
theorem dX9_owner_23 : decode cX9_owner 23 = .ok (.if_icmp .ne 10, 3) := by decide +kernel
theorem dX9_owner_26 : decode cX9_owner 26 = .ok (.aload_n 0, 1) := by decide +kernel
theorem dX9_owner_27 : decode cX9_owner 27 = .ok (.bipush (-6), 2) := by decide +kernel
theorem dX9_owner_29 : decode cX9_owner 29 = .ok (.invokevirtual 122, 3) := by decide +kernel
theorem dX9_owner_32 : decode cX9_owner 32 = .ok (.ireturn, 1) := by decide +kernel
theorem dX9_owner_33 : decode cX9_owner 33 = .ok (.aload_n 0, 1) := by decide +kernel
theorem dX9_owner_34 : decode cX9_owner 34 = .ok (.getfield 32, 3) := by decide +kernel
theorem dX9_owner_37 : decode cX9_owner 37 = .ok (.aload_n 0, 1) := by decide +kernel
theorem dX9_owner_38 : decode cX9_owner 38 = .ok (.getfield 131, 3) := by decide +kernel
theorem dX9_owner_41 : decode cX9_owner 41 = .ok (.iload_n 1, 1) := by decide +kernel
theorem dX9_owner_42 : decode cX9_owner 42 = .ok (.iastore, 1) := by decide +kernel
theorem dX9_owner_43 : decode cX9_owner 43 = .ok (.aload_n 0, 1) := by decide +kernel
theorem dX9_owner_44 : decode cX9_owner 44 = .ok (.dup, 1) := by decide +kernel
theorem dX9_owner_45 : decode cX9_owner 45 = .ok (.getfield 131, 3) := by decide +kernel
theorem dX9_owner_48 : decode cX9_owner 48 = .ok (.iconst 1, 1) := by decide +kernel
theorem dX9_owner_49 : decode cX9_owner 49 = .ok (.iadd, 1) := by decide +kernel
theorem dX9_owner_50 : decode cX9_owner 50 = .ok (.putfield 131, 3) := by decide +kernel
theorem dX9_owner_53 : decode cX9_owner 53 = .ok (.aload_n 0, 1) := by decide +kernel
theorem dX9_owner_54 : decode cX9_owner 54 = .ok (.getfield 131, 3) := by decide +kernel
theorem dX9_owner_57 : decode cX9_owner 57 = .ok (.iconst 1, 1) := by decide +kernel
theorem dX9_owner_58 : decode cX9_owner 58 = .ok (.isub, 1) := by decide +kernel
theorem dX9_owner_59 : decode cX9_owner 59 = .ok (.ireturn, 1) := by decide +kernel
theorem dX9_house_0 : decode cX9_house 0 = .ok (.iload_n 1, 1) := by decide +kernel
theorem dX9_house_1 : decode cX9_house 1 = .ok (.aload_n 0, 1) := by decide +kernel
theorem dX9_house_2 : decode cX9_house 2 = .ok (.getfield 131, 3) := by decide +kernel
theorem dX9_house_5 : decode cX9_house 5 = .ok (.invokestatic 134, 3) := by decide +kernel
theorem dX9_house_8 : decode cX9_house 8 = .ok (.ifCond .ne 9, 3) := by decide +kernel
theorem dX9_house_11 : decode cX9_house 11 = .ok (.aload_n 0, 1) := by decide +kernel
theorem dX9_house_12 : decode cX9_house 12 = .ok (.iconst (-1), 1) := by decide +kernel
theorem dX9_house_13 : decode cX9_house 13 = .ok (.invokevirtual 122, 3) := by decide +kernel
theorem dX9_house_16 : decode cX9_house 16 = .ok (.ireturn, 1) := by decide +kernel
theorem dX9_house_17 : decode cX9_house 17 = .ok (.aload_n 0, 1) := by decide +kernel
theorem dX9_house_18 : decode cX9_house 18 = .ok (.getfield 138, 3) := by decide +kernel
theorem dX9_house_21 : decode cX9_house 21 = .ok (.bipush 10, 2) := by decide +kernel
theorem dX9_house_23 : decode cX9_house 23 = .ok (.if_icmp .ne 10, 3) := by decide +kernel
theorem dX9_house_26 : decode cX9_house 26 = .ok (.aload_n 0, 1) := by decide +kernel
theorem dX9_house_27 : decode cX9_house 27 = .ok (.bipush (-6), 2) := by decide +kernel
theorem dX9_house_29 : decode cX9_house 29 = .ok (.invokevirtual 122, 3) := by decide +kernel
theorem dX9_house_32 : decode cX9_house 32 = .ok (.ireturn, 1) := by decide +kernel
theorem dX9_house_33 : decode cX9_house 33 = .ok (.aload_n 0, 1) := by decide +kernel
theorem dX9_house_34 : decode cX9_house 34 = .ok (.getfield 38, 3) := by decide +kernel
theorem dX9_house_37 : decode cX9_house 37 = .ok (.aload_n 0, 1) := by decide +kernel
theorem dX9_house_38 : decode cX9_house 38 = .ok (.getfield 138, 3) := by decide +kernel
theorem dX9_house_41 : decode cX9_house 41 = .ok (.iload_n 1, 1) := by decide +kernel
theorem dX9_house_42 : decode cX9_house 42 = .ok (.iastore, 1) := by decide +kernel
theorem dX9_house_43 : decode cX9_house 43 = .ok (.aload_n 0, 1) := by decide +kernel
theorem dX9_house_44 : decode cX9_house 44 = .ok (.dup, 1) := by decide +kernel
theorem dX9_house_45 : decode cX9_house 45 = .ok (.getfield 138, 3) := by decide +kernel
theorem dX9_house_48 : decode cX9_house 48 = .ok (.iconst 1, 1) := by decide +kernel
theorem dX9_house_49 : decode cX9_house 49 = .ok (.iadd, 1) := by decide +kernel
theorem dX9_house_50 : decode cX9_house 50 = .ok (.putfield 138, 3) := by decide +kernel
theorem dX9_house_53 : decode cX9_house 53 = .ok (.aload_n 0, 1) := by decide +kernel
theorem dX9_house_54 : decode cX9_house 54 = .ok (.getfield 138, 3) := by decide +kernel
theorem dX9_house_57 : decode cX9_house 57 = .ok (.iconst 1, 1) := by decide +kernel
theorem dX9_house_58 : decode cX9_house 58 = .ok (.isub, 1) := by decide +kernel
theorem dX9_house_59 : decode cX9_house 59 = .ok (.ireturn, 1) := by decide +kernel
theorem dX9_rate_0 : decode cX9_rate 0 = .ok (.iload_n 1, 1) := by decide +kernel
theorem dX9_rate_1 : decode cX9_rate 1 = .ok (.bipush 10, 2) := by decide +kernel
theorem dX9_rate_3 : decode cX9_rate 3 = .ok (.invokestatic 134, 3) := by decide +kernel
theorem dX9_rate_6 : decode cX9_rate 6 = .ok (.ifCond .eq 12, 3) := by decide +kernel
theorem dX9_rate_9 : decode cX9_rate 9 = .ok (.iload_n 2, 1) := by decide +kernel
theorem dX9_rate_10 : decode cX9_rate 10 = .ok (.bipush 10, 2) := by decide +kernel
theorem dX9_rate_12 : decode cX9_rate 12 = .ok (.invokestatic 134, 3) := by decide +kernel
theorem dX9_rate_15 : decode cX9_rate 15 = .ok (.ifCond .ne 10, 3) := by decide +kernel
theorem dX9_rate_18 : decode cX9_rate 18 = .ok (.aload_n 0, 1) := by decide +kernel
theorem dX9_rate_19 : decode cX9_rate 19 = .ok (.bipush (-2), 2) := by decide +kernel
theorem dX9_rate_21 : decode cX9_rate 21 = .ok (.invokevirtual 122, 3) := by decide +kernel
theorem dX9_rate_24 : decode cX9_rate 24 = .ok (.ireturn, 1) := by decide +kernel
theorem dX9_rate_25 : decode cX9_rate 25 = .ok (.iload_n 3, 1) := by decide +kernel
theorem dX9_rate_26 : decode cX9_rate 26 = .ok (.ifCond .ge 10, 3) := by decide +kernel
theorem dX9_rate_29 : decode cX9_rate 29 = .ok (.aload_n 0, 1) := by decide +kernel
theorem dX9_rate_30 : decode cX9_rate 30 = .ok (.bipush (-4), 2) := by decide +kernel
theorem dX9_rate_32 : decode cX9_rate 32 = .ok (.invokevirtual 122, 3) := by decide +kernel
theorem dX9_rate_35 : decode cX9_rate 35 = .ok (.ireturn, 1) := by decide +kernel
theorem dX9_rate_36 : decode cX9_rate 36 = .ok (.iload_n 3, 1) := by decide +kernel
theorem dX9_rate_37 : decode cX9_rate 37 = .ok (.sipush 1000, 3) := by decide +kernel
theorem dX9_rate_40 : decode cX9_rate 40 = .ok (.if_icmp .le 10, 3) := by decide +kernel
theorem dX9_rate_43 : decode cX9_rate 43 = .ok (.aload_n 0, 1) := by decide +kernel
theorem dX9_rate_44 : decode cX9_rate 44 = .ok (.bipush (-6), 2) := by decide +kernel
theorem dX9_rate_46 : decode cX9_rate 46 = .ok (.invokevirtual 122, 3) := by decide +kernel
theorem dX9_rate_49 : decode cX9_rate 49 = .ok (.ireturn, 1) := by decide +kernel
theorem dX9_rate_50 : decode cX9_rate 50 = .ok (.aload_n 0, 1) := by decide +kernel
theorem dX9_rate_51 : decode cX9_rate 51 = .ok (.getfield 41, 3) := by decide +kernel
theorem dX9_rate_54 : decode cX9_rate 54 = .ok (.bipush 10, 2) := by decide +kernel
theorem dX9_rate_56 : decode cX9_rate 56 = .ok (.iload_n 1, 1) := by decide +kernel
theorem dX9_rate_57 : decode cX9_rate 57 = .ok (.imul, 1) := by decide +kernel
theorem dX9_rate_58 : decode cX9_rate 58 = .ok (.iload_n 2, 1) := by decide +kernel
theorem dX9_rate_59 : decode cX9_rate 59 = .ok (.iadd, 1) := by decide +kernel
theorem dX9_rate_60 : decode cX9_rate 60 = .ok (.iaload, 1) := by decide +kernel
theorem dX9_rate_61 : decode cX9_rate 61 = .ok (.istore 4, 2) := by decide +kernel
theorem dX9_rate_63 : decode cX9_rate 63 = .ok (.aload_n 0, 1) := by decide +kernel
theorem dX9_rate_64 : decode cX9_rate 64 = .ok (.getfield 41, 3) := by decide +kernel
theorem dX9_rate_67 : decode cX9_rate 67 = .ok (.bipush 10, 2) := by decide +kernel
theorem dX9_rate_69 : decode cX9_rate 69 = .ok (.iload_n 1, 1) := by decide +kernel
theorem dX9_rate_70 : decode cX9_rate 70 = .ok (.imul, 1) := by decide +kernel
theorem dX9_rate_71 : decode cX9_rate 71 = .ok (.iload_n 2, 1) := by decide +kernel
theorem dX9_rate_72 : decode cX9_rate 72 = .ok (.iadd, 1) := by decide +kernel
theorem dX9_rate_73 : decode cX9_rate 73 = .ok (.iload_n 3, 1) := by decide +kernel
theorem dX9_rate_74 : decode cX9_rate 74 = .ok (.iastore, 1) := by decide +kernel
theorem dX9_rate_75 : decode cX9_rate 75 = .ok (.iload 4, 2) := by decide +kernel
theorem dX9_rate_77 : decode cX9_rate 77 = .ok (.ireturn, 1) := by decide +kernel
theorem dX9_weather_0 : decode cX9_weather 0 = .ok (.iload_n 2, 1) := by decide +kernel
theorem dX9_weather_1 : decode cX9_weather 1 = .ok (.bipush 10, 2) := by decide +kernel
theorem dX9_weather_3 : decode cX9_weather 3 = .ok (.invokestatic 134, 3) := by decide +kernel
theorem dX9_weather_6 : decode cX9_weather 6 = .ok (.ifCond .eq 12, 3) := by decide +kernel
theorem dX9_weather_9 : decode cX9_weather 9 = .ok (.iload_n 3, 1) := by decide +kernel
theorem dX9_weather_10 : decode cX9_weather 10 = .ok (.bipush 10, 2) := by decide +kernel
theorem dX9_weather_12 : decode cX9_weather 12 = .ok (.invokestatic 134, 3) := by decide +kernel
theorem dX9_weather_15 : decode cX9_weather 15 = .ok (.ifCond .ne 10, 3) := by decide +kernel
theorem dX9_weather_18 : decode cX9_weather 18 = .ok (.aload_n 0, 1) := by decide +kernel
theorem dX9_weather_19 : decode cX9_weather 19 = .ok (.bipush (-2), 2) := by decide +kernel
theorem dX9_weather_21 : decode cX9_weather 21 = .ok (.invokevirtual 122, 3) := by decide +kernel
theorem dX9_weather_24 : decode cX9_weather 24 = .ok (.ireturn, 1) := by decide +kernel
theorem dX9_weather_25 : decode cX9_weather 25 = .ok (.iload_n 1, 1) := by decide +kernel
theorem dX9_weather_26 : decode cX9_weather 26 = .ok (.ifCond .ge 10, 3) := by decide +kernel
theorem dX9_weather_29 : decode cX9_weather 29 = .ok (.aload_n 0, 1) := by decide +kernel
theorem dX9_weather_30 : decode cX9_weather 30 = .ok (.bipush (-4), 2) := by decide +kernel
theorem dX9_weather_32 : decode cX9_weather 32 = .ok (.invokevirtual 122, 3) := by decide +kernel
theorem dX9_weather_35 : decode cX9_weather 35 = .ok (.ireturn, 1) := by decide +kernel
theorem dX9_weather_36 : decode cX9_weather 36 = .ok (.iload_n 1, 1) := by decide +kernel
theorem dX9_weather_37 : decode cX9_weather 37 = .ok (.sipush 720, 3) := by decide +kernel
theorem dX9_weather_40 : decode cX9_weather 40 = .ok (.if_icmp .le 10, 3) := by decide +kernel
theorem dX9_weather_43 : decode cX9_weather 43 = .ok (.aload_n 0, 1) := by decide +kernel
theorem dX9_weather_44 : decode cX9_weather 44 = .ok (.bipush (-6), 2) := by decide +kernel
theorem dX9_weather_46 : decode cX9_weather 46 = .ok (.invokevirtual 122, 3) := by decide +kernel
theorem dX9_weather_49 : decode cX9_weather 49 = .ok (.ireturn, 1) := by decide +kernel
theorem dX9_weather_50 : decode cX9_weather 50 = .ok (.aload_n 0, 1) := by decide +kernel
theorem dX9_weather_51 : decode cX9_weather 51 = .ok (.getfield 44, 3) := by decide +kernel
theorem dX9_weather_54 : decode cX9_weather 54 = .ok (.iload_n 1, 1) := by decide +kernel
theorem dX9_weather_55 : decode cX9_weather 55 = .ok (.iload_n 2, 1) := by decide +kernel
theorem dX9_weather_56 : decode cX9_weather 56 = .ok (.iastore, 1) := by decide +kernel
theorem dX9_weather_57 : decode cX9_weather 57 = .ok (.aload_n 0, 1) := by decide +kernel
theorem dX9_weather_58 : decode cX9_weather 58 = .ok (.getfield 47, 3) := by decide +kernel
theorem dX9_weather_61 : decode cX9_weather 61 = .ok (.iload_n 1, 1) := by decide +kernel
theorem dX9_weather_62 : decode cX9_weather 62 = .ok (.iload_n 3, 1) := by decide +kernel
theorem dX9_weather_63 : decode cX9_weather 63 = .ok (.iastore, 1) := by decide +kernel
theorem dX9_weather_64 : decode cX9_weather 64 = .ok (.iconst 1, 1) := by decide +kernel
theorem dX9_weather_65 : decode cX9_weather 65 = .ok (.ireturn, 1) := by decide +kernel
theorem dX9_ownerOfRight_0 : decode cX9_ownerOfRight 0 = .ok (.aload_n 0, 1) := by decide +kernel
theorem dX9_ownerOfRight_1 : decode cX9_ownerOfRight 1 = .ok (.getfield 50, 3) := by decide +kernel
theorem dX9_ownerOfRight_4 : decode cX9_ownerOfRight 4 = .ok (.iload_n 1, 1) := by decide +kernel
theorem dX9_ownerOfRight_5 : decode cX9_ownerOfRight 5 = .ok (.iaload, 1) := by decide +kernel
theorem dX9_ownerOfRight_6 : decode cX9_ownerOfRight 6 = .ok (.iconst 1, 1) := by decide +kernel
theorem dX9_ownerOfRight_7 : decode cX9_ownerOfRight 7 = .ok (.if_icmp .ne 17, 3) := by decide +kernel
theorem dX9_ownerOfRight_10 : decode cX9_ownerOfRight 10 = .ok (.aload_n 0, 1) := by decide +kernel
theorem dX9_ownerOfRight_11 : decode cX9_ownerOfRight 11 = .ok (.getfield 38, 3) := by decide +kernel
theorem dX9_ownerOfRight_14 : decode cX9_ownerOfRight 14 = .ok (.aload_n 0, 1) := by decide +kernel
theorem dX9_ownerOfRight_15 : decode cX9_ownerOfRight 15 = .ok (.getfield 53, 3) := by decide +kernel
theorem dX9_ownerOfRight_18 : decode cX9_ownerOfRight 18 = .ok (.iload_n 1, 1) := by decide +kernel
theorem dX9_ownerOfRight_19 : decode cX9_ownerOfRight 19 = .ok (.iaload, 1) := by decide +kernel
theorem dX9_ownerOfRight_20 : decode cX9_ownerOfRight 20 = .ok (.iaload, 1) := by decide +kernel
theorem dX9_ownerOfRight_21 : decode cX9_ownerOfRight 21 = .ok (.goto 9, 3) := by decide +kernel
theorem dX9_ownerOfRight_24 : decode cX9_ownerOfRight 24 = .ok (.aload_n 0, 1) := by decide +kernel
theorem dX9_ownerOfRight_25 : decode cX9_ownerOfRight 25 = .ok (.getfield 53, 3) := by decide +kernel
theorem dX9_ownerOfRight_28 : decode cX9_ownerOfRight 28 = .ok (.iload_n 1, 1) := by decide +kernel
theorem dX9_ownerOfRight_29 : decode cX9_ownerOfRight 29 = .ok (.iaload, 1) := by decide +kernel
theorem dX9_ownerOfRight_30 : decode cX9_ownerOfRight 30 = .ok (.ireturn, 1) := by decide +kernel
theorem dX9_isInForce_0 : decode cX9_isInForce 0 = .ok (.aload_n 0, 1) := by decide +kernel
theorem dX9_isInForce_1 : decode cX9_isInForce 1 = .ok (.getfield 74, 3) := by decide +kernel
theorem dX9_isInForce_4 : decode cX9_isInForce 4 = .ok (.iload_n 1, 1) := by decide +kernel
theorem dX9_isInForce_5 : decode cX9_isInForce 5 = .ok (.baload, 1) := by decide +kernel
theorem dX9_isInForce_6 : decode cX9_isInForce 6 = .ok (.ifCond .ne 33, 3) := by decide +kernel
theorem dX9_isInForce_9 : decode cX9_isInForce 9 = .ok (.aload_n 0, 1) := by decide +kernel
theorem dX9_isInForce_10 : decode cX9_isInForce 10 = .ok (.getfield 59, 3) := by decide +kernel
theorem dX9_isInForce_13 : decode cX9_isInForce 13 = .ok (.iload_n 1, 1) := by decide +kernel
theorem dX9_isInForce_14 : decode cX9_isInForce 14 = .ok (.iaload, 1) := by decide +kernel
theorem dX9_isInForce_15 : decode cX9_isInForce 15 = .ok (.aload_n 0, 1) := by decide +kernel
theorem dX9_isInForce_16 : decode cX9_isInForce 16 = .ok (.getfield 141, 3) := by decide +kernel
theorem dX9_isInForce_19 : decode cX9_isInForce 19 = .ok (.if_icmp .gt 20, 3) := by decide +kernel
theorem dX9_isInForce_22 : decode cX9_isInForce 22 = .ok (.aload_n 0, 1) := by decide +kernel
theorem dX9_isInForce_23 : decode cX9_isInForce 23 = .ok (.getfield 141, 3) := by decide +kernel
theorem dX9_isInForce_26 : decode cX9_isInForce 26 = .ok (.aload_n 0, 1) := by decide +kernel
theorem dX9_isInForce_27 : decode cX9_isInForce 27 = .ok (.getfield 62, 3) := by decide +kernel
theorem dX9_isInForce_30 : decode cX9_isInForce 30 = .ok (.iload_n 1, 1) := by decide +kernel
theorem dX9_isInForce_31 : decode cX9_isInForce 31 = .ok (.iaload, 1) := by decide +kernel
theorem dX9_isInForce_32 : decode cX9_isInForce 32 = .ok (.if_icmp .gt 7, 3) := by decide +kernel
theorem dX9_isInForce_35 : decode cX9_isInForce 35 = .ok (.iconst 1, 1) := by decide +kernel
theorem dX9_isInForce_36 : decode cX9_isInForce 36 = .ok (.goto 4, 3) := by decide +kernel
theorem dX9_isInForce_39 : decode cX9_isInForce 39 = .ok (.iconst 0, 1) := by decide +kernel
theorem dX9_isInForce_40 : decode cX9_isInForce 40 = .ok (.ireturn, 1) := by decide +kernel
theorem dX9_partsOf_0 : decode cX9_partsOf 0 = .ok (.aload_n 0, 1) := by decide +kernel
theorem dX9_partsOf_1 : decode cX9_partsOf 1 = .ok (.iload_n 1, 1) := by decide +kernel
theorem dX9_partsOf_2 : decode cX9_partsOf 2 = .ok (.invokevirtual 144, 3) := by decide +kernel
theorem dX9_partsOf_5 : decode cX9_partsOf 5 = .ok (.ifCond .ne 5, 3) := by decide +kernel
theorem dX9_partsOf_8 : decode cX9_partsOf 8 = .ok (.iconst 0, 1) := by decide +kernel
theorem dX9_partsOf_9 : decode cX9_partsOf 9 = .ok (.ireturn, 1) := by decide +kernel
theorem dX9_partsOf_10 : decode cX9_partsOf 10 = .ok (.aload_n 0, 1) := by decide +kernel
theorem dX9_partsOf_11 : decode cX9_partsOf 11 = .ok (.getfield 56, 3) := by decide +kernel
theorem dX9_partsOf_14 : decode cX9_partsOf 14 = .ok (.iload_n 1, 1) := by decide +kernel
theorem dX9_partsOf_15 : decode cX9_partsOf 15 = .ok (.iaload, 1) := by decide +kernel
theorem dX9_partsOf_16 : decode cX9_partsOf 16 = .ok (.istore_n 2, 1) := by decide +kernel
theorem dX9_partsOf_17 : decode cX9_partsOf 17 = .ok (.iconst 0, 1) := by decide +kernel
theorem dX9_partsOf_18 : decode cX9_partsOf 18 = .ok (.istore_n 3, 1) := by decide +kernel
theorem dX9_partsOf_19 : decode cX9_partsOf 19 = .ok (.iload_n 3, 1) := by decide +kernel
theorem dX9_partsOf_20 : decode cX9_partsOf 20 = .ok (.aload_n 0, 1) := by decide +kernel
theorem dX9_partsOf_21 : decode cX9_partsOf 21 = .ok (.getfield 148, 3) := by decide +kernel
theorem dX9_partsOf_24 : decode cX9_partsOf 24 = .ok (.if_icmp .ge 40, 3) := by decide +kernel
theorem dX9_partsOf_27 : decode cX9_partsOf 27 = .ok (.iload_n 2, 1) := by decide +kernel
theorem dX9_partsOf_28 : decode cX9_partsOf 28 = .ok (.aload_n 0, 1) := by decide +kernel
theorem dX9_partsOf_29 : decode cX9_partsOf 29 = .ok (.getfield 68, 3) := by decide +kernel
theorem dX9_partsOf_32 : decode cX9_partsOf 32 = .ok (.iload_n 3, 1) := by decide +kernel
theorem dX9_partsOf_33 : decode cX9_partsOf 33 = .ok (.iaload, 1) := by decide +kernel
theorem dX9_partsOf_34 : decode cX9_partsOf 34 = .ok (.iload_n 1, 1) := by decide +kernel
theorem dX9_partsOf_35 : decode cX9_partsOf 35 = .ok (.if_icmp .ne 20, 3) := by decide +kernel
theorem dX9_partsOf_38 : decode cX9_partsOf 38 = .ok (.aload_n 0, 1) := by decide +kernel
theorem dX9_partsOf_39 : decode cX9_partsOf 39 = .ok (.iload_n 3, 1) := by decide +kernel
theorem dX9_partsOf_40 : decode cX9_partsOf 40 = .ok (.invokevirtual 144, 3) := by decide +kernel
theorem dX9_partsOf_43 : decode cX9_partsOf 43 = .ok (.ifCond .eq 12, 3) := by decide +kernel
theorem dX9_partsOf_46 : decode cX9_partsOf 46 = .ok (.aload_n 0, 1) := by decide +kernel
theorem dX9_partsOf_47 : decode cX9_partsOf 47 = .ok (.getfield 56, 3) := by decide +kernel
theorem dX9_partsOf_50 : decode cX9_partsOf 50 = .ok (.iload_n 3, 1) := by decide +kernel
theorem dX9_partsOf_51 : decode cX9_partsOf 51 = .ok (.iaload, 1) := by decide +kernel
theorem dX9_partsOf_52 : decode cX9_partsOf 52 = .ok (.goto 4, 3) := by decide +kernel
theorem dX9_partsOf_55 : decode cX9_partsOf 55 = .ok (.iconst 0, 1) := by decide +kernel
theorem dX9_partsOf_56 : decode cX9_partsOf 56 = .ok (.isub, 1) := by decide +kernel
theorem dX9_partsOf_57 : decode cX9_partsOf 57 = .ok (.istore_n 2, 1) := by decide +kernel
theorem dX9_partsOf_58 : decode cX9_partsOf 58 = .ok (.iinc 3 1, 3) := by decide +kernel
theorem dX9_partsOf_61 : decode cX9_partsOf 61 = .ok (.goto (-42), 3) := by decide +kernel
theorem dX9_partsOf_64 : decode cX9_partsOf 64 = .ok (.iload_n 2, 1) := by decide +kernel
theorem dX9_partsOf_65 : decode cX9_partsOf 65 = .ok (.ireturn, 1) := by decide +kernel
theorem dX9_adds_0 : decode cX9_adds 0 = .ok (.aload_n 0, 1) := by decide +kernel
