theorem dX7_changeWeather_1 : decode cX7_changeWeather 1 = .ok (.iload_n 3, 1) := by decide +kernel
theorem dX7_changeWeather_2 : decode cX7_changeWeather 2 = .ok (.invokestatic 18, 3) := by decide +kernel
theorem dX7_changeWeather_5 : decode cX7_changeWeather 5 = .ok (.ifCond .eq 26, 3) := by decide +kernel
theorem dX7_changeWeather_8 : decode cX7_changeWeather 8 = .ok (.iload_n 1, 1) := by decide +kernel
theorem dX7_changeWeather_9 : decode cX7_changeWeather 9 = .ok (.ifCond .lt 22, 3) := by decide +kernel
theorem dX7_changeWeather_12 : decode cX7_changeWeather 12 = .ok (.iload_n 1, 1) := by decide +kernel
theorem dX7_changeWeather_13 : decode cX7_changeWeather 13 = .ok (.sipush 720, 3) := by decide +kernel
theorem dX7_changeWeather_16 : decode cX7_changeWeather 16 = .ok (.if_icmp .gt 15, 3) := by decide +kernel
theorem dX7_changeWeather_19 : decode cX7_changeWeather 19 = .ok (.aload_n 0, 1) := by decide +kernel
theorem dX7_changeWeather_20 : decode cX7_changeWeather 20 = .ok (.getfield 15, 3) := by decide +kernel
theorem dX7_changeWeather_23 : decode cX7_changeWeather 23 = .ok (.iload_n 1, 1) := by decide +kernel
theorem dX7_changeWeather_24 : decode cX7_changeWeather 24 = .ok (.iload_n 2, 1) := by decide +kernel
theorem dX7_changeWeather_25 : decode cX7_changeWeather 25 = .ok (.bipush 10, 2) := by decide +kernel
theorem dX7_changeWeather_27 : decode cX7_changeWeather 27 = .ok (.imul, 1) := by decide +kernel
theorem dX7_changeWeather_28 : decode cX7_changeWeather 28 = .ok (.iload_n 3, 1) := by decide +kernel
theorem dX7_changeWeather_29 : decode cX7_changeWeather 29 = .ok (.iadd, 1) := by decide +kernel
theorem dX7_changeWeather_30 : decode cX7_changeWeather 30 = .ok (.iastore, 1) := by decide +kernel
theorem dX7_changeWeather_31 : decode cX7_changeWeather 31 = .ok (.return_, 1) := by decide +kernel
theorem dX8_init_0 : decode cX8_init 0 = .ok (.aload_n 0, 1) := by decide +kernel
theorem dX8_init_1 : decode cX8_init 1 = .ok (.invokespecial 1, 3) := by decide +kernel
theorem dX8_init_4 : decode cX8_init 4 = .ok (.aload_n 0, 1) := by decide +kernel
theorem dX8_init_5 : decode cX8_init 5 = .ok (.bipush 6, 2) := by decide +kernel
theorem dX8_init_7 : decode cX8_init 7 = .ok (.anewarray 9, 3) := by decide +kernel
theorem dX8_init_10 : decode cX8_init 10 = .ok (.putfield 11, 3) := by decide +kernel
theorem dX8_init_13 : decode cX8_init 13 = .ok (.aload_n 0, 1) := by decide +kernel
theorem dX8_init_14 : decode cX8_init 14 = .ok (.bipush 10, 2) := by decide +kernel
theorem dX8_init_16 : decode cX8_init 16 = .ok (.anewarray 15, 3) := by decide +kernel
theorem dX8_init_19 : decode cX8_init 19 = .ok (.putfield 17, 3) := by decide +kernel
theorem dX8_init_22 : decode cX8_init 22 = .ok (.aload_n 0, 1) := by decide +kernel
theorem dX8_init_23 : decode cX8_init 23 = .ok (.new 15, 3) := by decide +kernel
theorem dX8_init_26 : decode cX8_init 26 = .ok (.dup, 1) := by decide +kernel
theorem dX8_init_27 : decode cX8_init 27 = .ok (.iconst 0, 1) := by decide +kernel
theorem dX8_init_28 : decode cX8_init 28 = .ok (.invokespecial 21, 3) := by decide +kernel
theorem dX8_init_31 : decode cX8_init 31 = .ok (.putfield 24, 3) := by decide +kernel
theorem dX8_init_34 : decode cX8_init 34 = .ok (.aload_n 0, 1) := by decide +kernel
theorem dX8_init_35 : decode cX8_init 35 = .ok (.bipush 10, 2) := by decide +kernel
theorem dX8_init_37 : decode cX8_init 37 = .ok (.newarray .int, 2) := by decide +kernel
theorem dX8_init_39 : decode cX8_init 39 = .ok (.putfield 28, 3) := by decide +kernel
theorem dX8_init_42 : decode cX8_init 42 = .ok (.aload_n 0, 1) := by decide +kernel
theorem dX8_init_43 : decode cX8_init 43 = .ok (.bipush 60, 2) := by decide +kernel
theorem dX8_init_45 : decode cX8_init 45 = .ok (.anewarray 32, 3) := by decide +kernel
theorem dX8_init_48 : decode cX8_init 48 = .ok (.putfield 34, 3) := by decide +kernel
theorem dX8_init_51 : decode cX8_init 51 = .ok (.aload_n 0, 1) := by decide +kernel
theorem dX8_init_52 : decode cX8_init 52 = .ok (.bipush 20, 2) := by decide +kernel
theorem dX8_init_54 : decode cX8_init 54 = .ok (.anewarray 38, 3) := by decide +kernel
theorem dX8_init_57 : decode cX8_init 57 = .ok (.putfield 40, 3) := by decide +kernel
theorem dX8_init_60 : decode cX8_init 60 = .ok (.aload_n 0, 1) := by decide +kernel
theorem dX8_init_61 : decode cX8_init 61 = .ok (.new 44, 3) := by decide +kernel
theorem dX8_init_64 : decode cX8_init 64 = .ok (.dup, 1) := by decide +kernel
theorem dX8_init_65 : decode cX8_init 65 = .ok (.invokespecial 46, 3) := by decide +kernel
theorem dX8_init_68 : decode cX8_init 68 = .ok (.putfield 47, 3) := by decide +kernel
theorem dX8_init_71 : decode cX8_init 71 = .ok (.aload_n 0, 1) := by decide +kernel
theorem dX8_init_72 : decode cX8_init 72 = .ok (.new 51, 3) := by decide +kernel
theorem dX8_init_75 : decode cX8_init 75 = .ok (.dup, 1) := by decide +kernel
theorem dX8_init_76 : decode cX8_init 76 = .ok (.invokespecial 53, 3) := by decide +kernel
theorem dX8_init_79 : decode cX8_init 79 = .ok (.putfield 54, 3) := by decide +kernel
theorem dX8_init_82 : decode cX8_init 82 = .ok (.aload_n 0, 1) := by decide +kernel
theorem dX8_init_83 : decode cX8_init 83 = .ok (.new 58, 3) := by decide +kernel
theorem dX8_init_86 : decode cX8_init 86 = .ok (.dup, 1) := by decide +kernel
theorem dX8_init_87 : decode cX8_init 87 = .ok (.invokespecial 60, 3) := by decide +kernel
theorem dX8_init_90 : decode cX8_init 90 = .ok (.putfield 61, 3) := by decide +kernel
theorem dX8_init_93 : decode cX8_init 93 = .ok (.aload_n 0, 1) := by decide +kernel
theorem dX8_init_94 : decode cX8_init 94 = .ok (.new 65, 3) := by decide +kernel
theorem dX8_init_97 : decode cX8_init 97 = .ok (.dup, 1) := by decide +kernel
theorem dX8_init_98 : decode cX8_init 98 = .ok (.invokespecial 67, 3) := by decide +kernel
theorem dX8_init_101 : decode cX8_init 101 = .ok (.putfield 68, 3) := by decide +kernel
theorem dX8_init_104 : decode cX8_init 104 = .ok (.aload_n 0, 1) := by decide +kernel
theorem dX8_init_105 : decode cX8_init 105 = .ok (.bipush 7, 2) := by decide +kernel
theorem dX8_init_107 : decode cX8_init 107 = .ok (.newarray .int, 2) := by decide +kernel
theorem dX8_init_109 : decode cX8_init 109 = .ok (.putfield 72, 3) := by decide +kernel
theorem dX8_init_112 : decode cX8_init 112 = .ok (.aload_n 0, 1) := by decide +kernel
theorem dX8_init_113 : decode cX8_init 113 = .ok (.iconst 0, 1) := by decide +kernel
theorem dX8_init_114 : decode cX8_init 114 = .ok (.putfield 75, 3) := by decide +kernel
theorem dX8_init_117 : decode cX8_init 117 = .ok (.aload_n 0, 1) := by decide +kernel
theorem dX8_init_118 : decode cX8_init 118 = .ok (.iconst 0, 1) := by decide +kernel
theorem dX8_init_119 : decode cX8_init 119 = .ok (.putfield 79, 3) := by decide +kernel
theorem dX8_init_122 : decode cX8_init 122 = .ok (.aload_n 0, 1) := by decide +kernel
theorem dX8_init_123 : decode cX8_init 123 = .ok (.iconst 0, 1) := by decide +kernel
theorem dX8_init_124 : decode cX8_init 124 = .ok (.putfield 82, 3) := by decide +kernel
theorem dX8_init_127 : decode cX8_init 127 = .ok (.aload_n 0, 1) := by decide +kernel
theorem dX8_init_128 : decode cX8_init 128 = .ok (.iconst 0, 1) := by decide +kernel
theorem dX8_init_129 : decode cX8_init 129 = .ok (.putfield 85, 3) := by decide +kernel
theorem dX8_init_132 : decode cX8_init 132 = .ok (.aload_n 0, 1) := by decide +kernel
theorem dX8_init_133 : decode cX8_init 133 = .ok (.iconst 0, 1) := by decide +kernel
theorem dX8_init_134 : decode cX8_init 134 = .ok (.putfield 88, 3) := by decide +kernel
theorem dX8_init_137 : decode cX8_init 137 = .ok (.aload_n 0, 1) := by decide +kernel
theorem dX8_init_138 : decode cX8_init 138 = .ok (.iconst 0, 1) := by decide +kernel
theorem dX8_init_139 : decode cX8_init 139 = .ok (.putfield 91, 3) := by decide +kernel
theorem dX8_init_142 : decode cX8_init 142 = .ok (.aload_n 0, 1) := by decide +kernel
theorem dX8_init_143 : decode cX8_init 143 = .ok (.iconst 0, 1) := by decide +kernel
theorem dX8_init_144 : decode cX8_init 144 = .ok (.putfield 94, 3) := by decide +kernel
theorem dX8_init_147 : decode cX8_init 147 = .ok (.aload_n 0, 1) := by decide +kernel
theorem dX8_init_148 : decode cX8_init 148 = .ok (.iconst 0, 1) := by decide +kernel
theorem dX8_init_149 : decode cX8_init 149 = .ok (.putfield 97, 3) := by decide +kernel
theorem dX8_init_152 : decode cX8_init 152 = .ok (.return_, 1) := by decide +kernel
theorem dX8_piece_0 : decode cX8_piece 0 = .ok (.iload_n 1, 1) := by decide +kernel
theorem dX8_piece_1 : decode cX8_piece 1 = .ok (.ifCond .lt 12, 3) := by decide +kernel
theorem dX8_piece_4 : decode cX8_piece 4 = .ok (.iload_n 3, 1) := by decide +kernel
theorem dX8_piece_5 : decode cX8_piece 5 = .ok (.ifCond .lt 8, 3) := by decide +kernel
theorem dX8_piece_8 : decode cX8_piece 8 = .ok (.iload_n 2, 1) := by decide +kernel
theorem dX8_piece_9 : decode cX8_piece 9 = .ok (.iconst 1, 1) := by decide +kernel
theorem dX8_piece_10 : decode cX8_piece 10 = .ok (.if_icmp .ge 10, 3) := by decide +kernel
theorem dX8_piece_13 : decode cX8_piece 13 = .ok (.aload_n 0, 1) := by decide +kernel
theorem dX8_piece_14 : decode cX8_piece 14 = .ok (.bipush (-4), 2) := by decide +kernel
theorem dX8_piece_16 : decode cX8_piece 16 = .ok (.invokevirtual 100, 3) := by decide +kernel
theorem dX8_piece_19 : decode cX8_piece 19 = .ok (.ireturn, 1) := by decide +kernel
theorem dX8_piece_20 : decode cX8_piece 20 = .ok (.iload_n 2, 1) := by decide +kernel
theorem dX8_piece_21 : decode cX8_piece 21 = .ok (.ldc 104, 2) := by decide +kernel
theorem dX8_piece_23 : decode cX8_piece 23 = .ok (.if_icmp .gt 24, 3) := by decide +kernel
theorem dX8_piece_26 : decode cX8_piece 26 = .ok (.iload_n 1, 1) := by decide +kernel
theorem dX8_piece_27 : decode cX8_piece 27 = .ok (.iload_n 2, 1) := by decide +kernel
theorem dX8_piece_28 : decode cX8_piece 28 = .ok (.if_icmp .gt 19, 3) := by decide +kernel
theorem dX8_piece_31 : decode cX8_piece 31 = .ok (.iload_n 3, 1) := by decide +kernel
theorem dX8_piece_32 : decode cX8_piece 32 = .ok (.sipush 10000, 3) := by decide +kernel
theorem dX8_piece_35 : decode cX8_piece 35 = .ok (.if_icmp .gt 12, 3) := by decide +kernel
theorem dX8_piece_38 : decode cX8_piece 38 = .ok (.aload_n 0, 1) := by decide +kernel
theorem dX8_piece_39 : decode cX8_piece 39 = .ok (.getfield 75, 3) := by decide +kernel
theorem dX8_piece_42 : decode cX8_piece 42 = .ok (.bipush 6, 2) := by decide +kernel
theorem dX8_piece_44 : decode cX8_piece 44 = .ok (.if_icmp .lt 10, 3) := by decide +kernel
theorem dX8_piece_47 : decode cX8_piece 47 = .ok (.aload_n 0, 1) := by decide +kernel
theorem dX8_piece_48 : decode cX8_piece 48 = .ok (.bipush (-6), 2) := by decide +kernel
theorem dX8_piece_50 : decode cX8_piece 50 = .ok (.invokevirtual 100, 3) := by decide +kernel
theorem dX8_piece_53 : decode cX8_piece 53 = .ok (.ireturn, 1) := by decide +kernel
theorem dX8_piece_54 : decode cX8_piece 54 = .ok (.aload_n 0, 1) := by decide +kernel
theorem dX8_piece_55 : decode cX8_piece 55 = .ok (.getfield 11, 3) := by decide +kernel
theorem dX8_piece_58 : decode cX8_piece 58 = .ok (.aload_n 0, 1) := by decide +kernel
theorem dX8_piece_59 : decode cX8_piece 59 = .ok (.getfield 75, 3) := by decide +kernel
theorem dX8_piece_62 : decode cX8_piece 62 = .ok (.new 9, 3) := by decide +kernel
theorem dX8_piece_65 : decode cX8_piece 65 = .ok (.dup, 1) := by decide +kernel
theorem dX8_piece_66 : decode cX8_piece 66 = .ok (.iload_n 1, 1) := by decide +kernel
theorem dX8_piece_67 : decode cX8_piece 67 = .ok (.iload_n 2, 1) := by decide +kernel
theorem dX8_piece_68 : decode cX8_piece 68 = .ok (.iload_n 3, 1) := by decide +kernel
theorem dX8_piece_69 : decode cX8_piece 69 = .ok (.iload 4, 2) := by decide +kernel
theorem dX8_piece_71 : decode cX8_piece 71 = .ok (.invokespecial 105, 3) := by decide +kernel
theorem dX8_piece_74 : decode cX8_piece 74 = .ok (.aastore, 1) := by decide +kernel
theorem dX8_piece_75 : decode cX8_piece 75 = .ok (.aload_n 0, 1) := by decide +kernel
theorem dX8_piece_76 : decode cX8_piece 76 = .ok (.dup, 1) := by decide +kernel
theorem dX8_piece_77 : decode cX8_piece 77 = .ok (.getfield 75, 3) := by decide +kernel
theorem dX8_piece_80 : decode cX8_piece 80 = .ok (.iconst 1, 1) := by decide +kernel
theorem dX8_piece_81 : decode cX8_piece 81 = .ok (.iadd, 1) := by decide +kernel
theorem dX8_piece_82 : decode cX8_piece 82 = .ok (.putfield 75, 3) := by decide +kernel
theorem dX8_piece_85 : decode cX8_piece 85 = .ok (.aload_n 0, 1) := by decide +kernel
theorem dX8_piece_86 : decode cX8_piece 86 = .ok (.getfield 75, 3) := by decide +kernel
theorem dX8_piece_89 : decode cX8_piece 89 = .ok (.iconst 1, 1) := by decide +kernel
theorem dX8_piece_90 : decode cX8_piece 90 = .ok (.isub, 1) := by decide +kernel
theorem dX8_piece_91 : decode cX8_piece 91 = .ok (.ireturn, 1) := by decide +kernel
theorem dX8_owner_0 : decode cX8_owner 0 = .ok (.iload_n 1, 1) := by decide +kernel
theorem dX8_owner_1 : decode cX8_owner 1 = .ok (.ifCond .ge 10, 3) := by decide +kernel
theorem dX8_owner_4 : decode cX8_owner 4 = .ok (.aload_n 0, 1) := by decide +kernel
theorem dX8_owner_5 : decode cX8_owner 5 = .ok (.bipush (-4), 2) := by decide +kernel
theorem dX8_owner_7 : decode cX8_owner 7 = .ok (.invokevirtual 100, 3) := by decide +kernel
theorem dX8_owner_10 : decode cX8_owner 10 = .ok (.ireturn, 1) := by decide +kernel
theorem dX8_owner_11 : decode cX8_owner 11 = .ok (.iload_n 1, 1) := by decide +kernel
theorem dX8_owner_12 : decode cX8_owner 12 = .ok (.ldc 104, 2) := by decide +kernel
theorem dX8_owner_14 : decode cX8_owner 14 = .ok (.if_icmp .gt 12, 3) := by decide +kernel
theorem dX8_owner_17 : decode cX8_owner 17 = .ok (.aload_n 0, 1) := by decide +kernel
theorem dX8_owner_18 : decode cX8_owner 18 = .ok (.getfield 79, 3) := by decide +kernel
theorem dX8_owner_21 : decode cX8_owner 21 = .ok (.bipush 10, 2) := by decide +kernel
theorem dX8_owner_23 : decode cX8_owner 23 = .ok (.if_icmp .lt 10, 3) := by decide +kernel
theorem dX8_owner_26 : decode cX8_owner 26 = .ok (.aload_n 0, 1) := by decide +kernel
theorem dX8_owner_27 : decode cX8_owner 27 = .ok (.bipush (-6), 2) := by decide +kernel
theorem dX8_owner_29 : decode cX8_owner 29 = .ok (.invokevirtual 100, 3) := by decide +kernel
theorem dX8_owner_32 : decode cX8_owner 32 = .ok (.ireturn, 1) := by decide +kernel
theorem dX8_owner_33 : decode cX8_owner 33 = .ok (.aload_n 0, 1) := by decide +kernel
theorem dX8_owner_34 : decode cX8_owner 34 = .ok (.getfield 17, 3) := by decide +kernel
theorem dX8_owner_37 : decode cX8_owner 37 = .ok (.aload_n 0, 1) := by decide +kernel
theorem dX8_owner_38 : decode cX8_owner 38 = .ok (.getfield 79, 3) := by decide +kernel
theorem dX8_owner_41 : decode cX8_owner 41 = .ok (.new 15, 3) := by decide +kernel
theorem dX8_owner_44 : decode cX8_owner 44 = .ok (.dup, 1) := by decide +kernel
theorem dX8_owner_45 : decode cX8_owner 45 = .ok (.iload_n 1, 1) := by decide +kernel
theorem dX8_owner_46 : decode cX8_owner 46 = .ok (.invokespecial 21, 3) := by decide +kernel
theorem dX8_owner_49 : decode cX8_owner 49 = .ok (.aastore, 1) := by decide +kernel
theorem dX8_owner_50 : decode cX8_owner 50 = .ok (.aload_n 0, 1) := by decide +kernel
theorem dX8_owner_51 : decode cX8_owner 51 = .ok (.dup, 1) := by decide +kernel
theorem dX8_owner_52 : decode cX8_owner 52 = .ok (.getfield 79, 3) := by decide +kernel
theorem dX8_owner_55 : decode cX8_owner 55 = .ok (.iconst 1, 1) := by decide +kernel
theorem dX8_owner_56 : decode cX8_owner 56 = .ok (.iadd, 1) := by decide +kernel
theorem dX8_owner_57 : decode cX8_owner 57 = .ok (.putfield 79, 3) := by decide +kernel
theorem dX8_owner_60 : decode cX8_owner 60 = .ok (.aload_n 0, 1) := by decide +kernel
theorem dX8_owner_61 : decode cX8_owner 61 = .ok (.getfield 79, 3) := by decide +kernel
theorem dX8_owner_64 : decode cX8_owner 64 = .ok (.iconst 1, 1) := by decide +kernel
theorem dX8_owner_65 : decode cX8_owner 65 = .ok (.isub, 1) := by decide +kernel
theorem dX8_owner_66 : decode cX8_owner 66 = .ok (.ireturn, 1) := by decide +kernel
theorem dX8_house_0 : decode cX8_house 0 = .ok (.aload_n 0, 1) := by decide +kernel
theorem dX8_house_1 : decode cX8_house 1 = .ok (.iload_n 1, 1) := by decide +kernel
theorem dX8_house_2 : decode cX8_house 2 = .ok (.invokevirtual 108, 3) := by decide +kernel
theorem dX8_house_5 : decode cX8_house 5 = .ok (.ifCond .ne 9, 3) := by decide +kernel
theorem dX8_house_8 : decode cX8_house 8 = .ok (.aload_n 0, 1) := by decide +kernel
theorem dX8_house_9 : decode cX8_house 9 = .ok (.iconst (-1), 1) := by decide +kernel
theorem dX8_house_10 : decode cX8_house 10 = .ok (.invokevirtual 100, 3) := by decide +kernel
theorem dX8_house_13 : decode cX8_house 13 = .ok (.ireturn, 1) := by decide +kernel
theorem dX8_rate_0 : decode cX8_rate 0 = .ok (.iload_n 1, 1) := by decide +kernel
theorem dX8_rate_1 : decode cX8_rate 1 = .ok (.iload_n 2, 1) := by decide +kernel
theorem dX8_rate_2 : decode cX8_rate 2 = .ok (.invokestatic 112, 3) := by decide +kernel
theorem dX8_rate_5 : decode cX8_rate 5 = .ok (.ifCond .ne 10, 3) := by decide +kernel
theorem dX8_rate_8 : decode cX8_rate 8 = .ok (.aload_n 0, 1) := by decide +kernel
theorem dX8_rate_9 : decode cX8_rate 9 = .ok (.bipush (-2), 2) := by decide +kernel
theorem dX8_rate_11 : decode cX8_rate 11 = .ok (.invokevirtual 100, 3) := by decide +kernel
theorem dX8_rate_14 : decode cX8_rate 14 = .ok (.ireturn, 1) := by decide +kernel
theorem dX8_rate_15 : decode cX8_rate 15 = .ok (.iload_n 3, 1) := by decide +kernel
theorem dX8_rate_16 : decode cX8_rate 16 = .ok (.ifCond .ge 10, 3) := by decide +kernel
theorem dX8_rate_19 : decode cX8_rate 19 = .ok (.aload_n 0, 1) := by decide +kernel
theorem dX8_rate_20 : decode cX8_rate 20 = .ok (.bipush (-4), 2) := by decide +kernel
theorem dX8_rate_22 : decode cX8_rate 22 = .ok (.invokevirtual 100, 3) := by decide +kernel
theorem dX8_rate_25 : decode cX8_rate 25 = .ok (.ireturn, 1) := by decide +kernel
theorem dX8_rate_26 : decode cX8_rate 26 = .ok (.iload_n 3, 1) := by decide +kernel
theorem dX8_rate_27 : decode cX8_rate 27 = .ok (.sipush 1000, 3) := by decide +kernel
theorem dX8_rate_30 : decode cX8_rate 30 = .ok (.if_icmp .le 10, 3) := by decide +kernel
theorem dX8_rate_33 : decode cX8_rate 33 = .ok (.aload_n 0, 1) := by decide +kernel
theorem dX8_rate_34 : decode cX8_rate 34 = .ok (.bipush (-6), 2) := by decide +kernel
theorem dX8_rate_36 : decode cX8_rate 36 = .ok (.invokevirtual 100, 3) := by decide +kernel
theorem dX8_rate_39 : decode cX8_rate 39 = .ok (.ireturn, 1) := by decide +kernel
theorem dX8_rate_40 : decode cX8_rate 40 = .ok (.aload_n 0, 1) := by decide +kernel
theorem dX8_rate_41 : decode cX8_rate 41 = .ok (.getfield 47, 3) := by decide +kernel
theorem dX8_rate_44 : decode cX8_rate 44 = .ok (.iload_n 1, 1) := by decide +kernel
theorem dX8_rate_45 : decode cX8_rate 45 = .ok (.iload_n 2, 1) := by decide +kernel
theorem dX8_rate_46 : decode cX8_rate 46 = .ok (.iload_n 3, 1) := by decide +kernel
theorem dX8_rate_47 : decode cX8_rate 47 = .ok (.invokevirtual 116, 3) := by decide +kernel
theorem dX8_rate_50 : decode cX8_rate 50 = .ok (.ireturn, 1) := by decide +kernel
theorem dX8_weather_0 : decode cX8_weather 0 = .ok (.iload_n 2, 1) := by decide +kernel
theorem dX8_weather_1 : decode cX8_weather 1 = .ok (.iload_n 3, 1) := by decide +kernel
theorem dX8_weather_2 : decode cX8_weather 2 = .ok (.invokestatic 112, 3) := by decide +kernel
theorem dX8_weather_5 : decode cX8_weather 5 = .ok (.ifCond .ne 10, 3) := by decide +kernel
theorem dX8_weather_8 : decode cX8_weather 8 = .ok (.aload_n 0, 1) := by decide +kernel
theorem dX8_weather_9 : decode cX8_weather 9 = .ok (.bipush (-2), 2) := by decide +kernel
theorem dX8_weather_11 : decode cX8_weather 11 = .ok (.invokevirtual 100, 3) := by decide +kernel
theorem dX8_weather_14 : decode cX8_weather 14 = .ok (.ireturn, 1) := by decide +kernel
theorem dX8_weather_15 : decode cX8_weather 15 = .ok (.iload_n 1, 1) := by decide +kernel
theorem dX8_weather_16 : decode cX8_weather 16 = .ok (.ifCond .ge 10, 3) := by decide +kernel
theorem dX8_weather_19 : decode cX8_weather 19 = .ok (.aload_n 0, 1) := by decide +kernel
theorem dX8_weather_20 : decode cX8_weather 20 = .ok (.bipush (-4), 2) := by decide +kernel
theorem dX8_weather_22 : decode cX8_weather 22 = .ok (.invokevirtual 100, 3) := by decide +kernel
theorem dX8_weather_25 : decode cX8_weather 25 = .ok (.ireturn, 1) := by decide +kernel
theorem dX8_weather_26 : decode cX8_weather 26 = .ok (.iload_n 1, 1) := by decide +kernel
theorem dX8_weather_27 : decode cX8_weather 27 = .ok (.sipush 720, 3) := by decide +kernel
theorem dX8_weather_30 : decode cX8_weather 30 = .ok (.if_icmp .le 10, 3) := by decide +kernel
theorem dX8_weather_33 : decode cX8_weather 33 = .ok (.aload_n 0, 1) := by decide +kernel
theorem dX8_weather_34 : decode cX8_weather 34 = .ok (.bipush (-6), 2) := by decide +kernel
theorem dX8_weather_36 : decode cX8_weather 36 = .ok (.invokevirtual 100, 3) := by decide +kernel
theorem dX8_weather_39 : decode cX8_weather 39 = .ok (.ireturn, 1) := by decide +kernel
theorem dX8_weather_40 : decode cX8_weather 40 = .ok (.aload_n 0, 1) := by decide +kernel
theorem dX8_weather_41 : decode cX8_weather 41 = .ok (.getfield 47, 3) := by decide +kernel
theorem dX8_weather_44 : decode cX8_weather 44 = .ok (.iload_n 1, 1) := by decide +kernel
theorem dX8_weather_45 : decode cX8_weather 45 = .ok (.iload_n 2, 1) := by decide +kernel
theorem dX8_weather_46 : decode cX8_weather 46 = .ok (.iload_n 3, 1) := by decide +kernel
theorem dX8_weather_47 : decode cX8_weather 47 = .ok (.invokevirtual 120, 3) := by decide +kernel
theorem dX8_weather_50 : decode cX8_weather 50 = .ok (.iconst 1, 1) := by decide +kernel
theorem dX8_weather_51 : decode cX8_weather 51 = .ok (.ireturn, 1) := by decide +kernel
theorem dX8_right_0 : decode cX8_right 0 = .ok (.iload_n 1, 1) := by decide +kernel
theorem dX8_right_1 : decode cX8_right 1 = .ok (.ifCond .lt 8, 3) := by decide +kernel
