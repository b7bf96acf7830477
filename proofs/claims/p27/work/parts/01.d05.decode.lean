theorem dX8_lend_117 : decode cX8_lend 117 = .ok (.aload_n 0, 1) := by decide +kernel
theorem dX8_lend_118 : decode cX8_lend 118 = .ok (.bipush (-6), 2) := by decide +kernel
theorem dX8_lend_120 : decode cX8_lend 120 = .ok (.invokevirtual 100, 3) := by decide +kernel
theorem dX8_lend_123 : decode cX8_lend 123 = .ok (.ireturn, 1) := by decide +kernel
theorem dX8_lend_124 : decode cX8_lend 124 = .ok (.aload_n 0, 1) := by decide +kernel
theorem dX8_lend_125 : decode cX8_lend 125 = .ok (.new 32, 3) := by decide +kernel
theorem dX8_lend_128 : decode cX8_lend 128 = .ok (.dup, 1) := by decide +kernel
theorem dX8_lend_129 : decode cX8_lend 129 = .ok (.iconst 4, 1) := by decide +kernel
theorem dX8_lend_130 : decode cX8_lend 130 = .ok (.iload_n 2, 1) := by decide +kernel
theorem dX8_lend_131 : decode cX8_lend 131 = .ok (.iload_n 3, 1) := by decide +kernel
theorem dX8_lend_132 : decode cX8_lend 132 = .ok (.aload_n 0, 1) := by decide +kernel
theorem dX8_lend_133 : decode cX8_lend 133 = .ok (.getfield 91, 3) := by decide +kernel
theorem dX8_lend_136 : decode cX8_lend 136 = .ok (.iload 4, 2) := by decide +kernel
theorem dX8_lend_138 : decode cX8_lend 138 = .ok (.bipush (-9), 2) := by decide +kernel
theorem dX8_lend_140 : decode cX8_lend 140 = .ok (.iload_n 1, 1) := by decide +kernel
theorem dX8_lend_141 : decode cX8_lend 141 = .ok (.invokespecial 130, 3) := by decide +kernel
theorem dX8_lend_144 : decode cX8_lend 144 = .ok (.invokevirtual 133, 3) := by decide +kernel
theorem dX8_lend_147 : decode cX8_lend 147 = .ok (.ireturn, 1) := by decide +kernel
theorem dX8_sell_0 : decode cX8_sell 0 = .ok (.aload_n 0, 1) := by decide +kernel
theorem dX8_sell_1 : decode cX8_sell 1 = .ok (.iload_n 1, 1) := by decide +kernel
theorem dX8_sell_2 : decode cX8_sell 2 = .ok (.iload_n 2, 1) := by decide +kernel
theorem dX8_sell_3 : decode cX8_sell 3 = .ok (.invokevirtual 137, 3) := by decide +kernel
theorem dX8_sell_6 : decode cX8_sell 6 = .ok (.ifCond .ne 9, 3) := by decide +kernel
theorem dX8_sell_9 : decode cX8_sell 9 = .ok (.aload_n 0, 1) := by decide +kernel
theorem dX8_sell_10 : decode cX8_sell 10 = .ok (.iconst (-1), 1) := by decide +kernel
theorem dX8_sell_11 : decode cX8_sell 11 = .ok (.invokevirtual 100, 3) := by decide +kernel
theorem dX8_sell_14 : decode cX8_sell 14 = .ok (.ireturn, 1) := by decide +kernel
theorem dX8_sell_15 : decode cX8_sell 15 = .ok (.aload_n 0, 1) := by decide +kernel
theorem dX8_sell_16 : decode cX8_sell 16 = .ok (.getfield 34, 3) := by decide +kernel
theorem dX8_sell_19 : decode cX8_sell 19 = .ok (.iload_n 1, 1) := by decide +kernel
theorem dX8_sell_20 : decode cX8_sell 20 = .ok (.aaload, 1) := by decide +kernel
theorem dX8_sell_21 : decode cX8_sell 21 = .ok (.getfield 140, 3) := by decide +kernel
theorem dX8_sell_24 : decode cX8_sell 24 = .ok (.ifCond .eq 10, 3) := by decide +kernel
theorem dX8_sell_27 : decode cX8_sell 27 = .ok (.aload_n 0, 1) := by decide +kernel
theorem dX8_sell_28 : decode cX8_sell 28 = .ok (.bipush (-2), 2) := by decide +kernel
theorem dX8_sell_30 : decode cX8_sell 30 = .ok (.invokevirtual 100, 3) := by decide +kernel
theorem dX8_sell_33 : decode cX8_sell 33 = .ok (.ireturn, 1) := by decide +kernel
theorem dX8_sell_34 : decode cX8_sell 34 = .ok (.aload_n 0, 1) := by decide +kernel
theorem dX8_sell_35 : decode cX8_sell 35 = .ok (.getfield 34, 3) := by decide +kernel
theorem dX8_sell_38 : decode cX8_sell 38 = .ok (.iload_n 1, 1) := by decide +kernel
theorem dX8_sell_39 : decode cX8_sell 39 = .ok (.aaload, 1) := by decide +kernel
theorem dX8_sell_40 : decode cX8_sell 40 = .ok (.aload_n 0, 1) := by decide +kernel
theorem dX8_sell_41 : decode cX8_sell 41 = .ok (.getfield 91, 3) := by decide +kernel
theorem dX8_sell_44 : decode cX8_sell 44 = .ok (.invokevirtual 143, 3) := by decide +kernel
theorem dX8_sell_47 : decode cX8_sell 47 = .ok (.ifCond .ne 10, 3) := by decide +kernel
theorem dX8_sell_50 : decode cX8_sell 50 = .ok (.aload_n 0, 1) := by decide +kernel
theorem dX8_sell_51 : decode cX8_sell 51 = .ok (.bipush (-3), 2) := by decide +kernel
theorem dX8_sell_53 : decode cX8_sell 53 = .ok (.invokevirtual 100, 3) := by decide +kernel
theorem dX8_sell_56 : decode cX8_sell 56 = .ok (.ireturn, 1) := by decide +kernel
theorem dX8_sell_57 : decode cX8_sell 57 = .ok (.aload_n 0, 1) := by decide +kernel
theorem dX8_sell_58 : decode cX8_sell 58 = .ok (.getfield 34, 3) := by decide +kernel
theorem dX8_sell_61 : decode cX8_sell 61 = .ok (.iload_n 1, 1) := by decide +kernel
theorem dX8_sell_62 : decode cX8_sell 62 = .ok (.aaload, 1) := by decide +kernel
theorem dX8_sell_63 : decode cX8_sell 63 = .ok (.iload_n 2, 1) := by decide +kernel
theorem dX8_sell_64 : decode cX8_sell 64 = .ok (.putfield 152, 3) := by decide +kernel
theorem dX8_sell_67 : decode cX8_sell 67 = .ok (.iconst 1, 1) := by decide +kernel
theorem dX8_sell_68 : decode cX8_sell 68 = .ok (.ireturn, 1) := by decide +kernel
theorem dX8_move_0 : decode cX8_move 0 = .ok (.aload_n 0, 1) := by decide +kernel
theorem dX8_move_1 : decode cX8_move 1 = .ok (.iload_n 1, 1) := by decide +kernel
theorem dX8_move_2 : decode cX8_move 2 = .ok (.invokevirtual 124, 3) := by decide +kernel
theorem dX8_move_5 : decode cX8_move 5 = .ok (.ifCond .eq 21, 3) := by decide +kernel
theorem dX8_move_8 : decode cX8_move 8 = .ok (.aload_n 0, 1) := by decide +kernel
theorem dX8_move_9 : decode cX8_move 9 = .ok (.iload_n 2, 1) := by decide +kernel
theorem dX8_move_10 : decode cX8_move 10 = .ok (.invokevirtual 108, 3) := by decide +kernel
theorem dX8_move_13 : decode cX8_move 13 = .ok (.ifCond .eq 13, 3) := by decide +kernel
theorem dX8_move_16 : decode cX8_move 16 = .ok (.aload_n 0, 1) := by decide +kernel
theorem dX8_move_17 : decode cX8_move 17 = .ok (.getfield 28, 3) := by decide +kernel
theorem dX8_move_20 : decode cX8_move 20 = .ok (.iload_n 1, 1) := by decide +kernel
theorem dX8_move_21 : decode cX8_move 21 = .ok (.iaload, 1) := by decide +kernel
theorem dX8_move_22 : decode cX8_move 22 = .ok (.iload_n 2, 1) := by decide +kernel
theorem dX8_move_23 : decode cX8_move 23 = .ok (.if_icmp .ne 9, 3) := by decide +kernel
theorem dX8_move_26 : decode cX8_move 26 = .ok (.aload_n 0, 1) := by decide +kernel
theorem dX8_move_27 : decode cX8_move 27 = .ok (.iconst (-1), 1) := by decide +kernel
theorem dX8_move_28 : decode cX8_move 28 = .ok (.invokevirtual 100, 3) := by decide +kernel
theorem dX8_move_31 : decode cX8_move 31 = .ok (.ireturn, 1) := by decide +kernel
theorem dX8_move_32 : decode cX8_move 32 = .ok (.aload_n 0, 1) := by decide +kernel
theorem dX8_move_33 : decode cX8_move 33 = .ok (.getfield 28, 3) := by decide +kernel
theorem dX8_move_36 : decode cX8_move 36 = .ok (.iload_n 1, 1) := by decide +kernel
theorem dX8_move_37 : decode cX8_move 37 = .ok (.iload_n 2, 1) := by decide +kernel
theorem dX8_move_38 : decode cX8_move 38 = .ok (.iastore, 1) := by decide +kernel
theorem dX8_move_39 : decode cX8_move 39 = .ok (.iconst 1, 1) := by decide +kernel
theorem dX8_move_40 : decode cX8_move 40 = .ok (.ireturn, 1) := by decide +kernel
theorem dX8_herd_0 : decode cX8_herd 0 = .ok (.aload_n 0, 1) := by decide +kernel
theorem dX8_herd_1 : decode cX8_herd 1 = .ok (.iload_n 1, 1) := by decide +kernel
theorem dX8_herd_2 : decode cX8_herd 2 = .ok (.invokevirtual 108, 3) := by decide +kernel
theorem dX8_herd_5 : decode cX8_herd 5 = .ok (.ifCond .ne 9, 3) := by decide +kernel
theorem dX8_herd_8 : decode cX8_herd 8 = .ok (.aload_n 0, 1) := by decide +kernel
theorem dX8_herd_9 : decode cX8_herd 9 = .ok (.iconst (-1), 1) := by decide +kernel
theorem dX8_herd_10 : decode cX8_herd 10 = .ok (.invokevirtual 100, 3) := by decide +kernel
theorem dX8_herd_13 : decode cX8_herd 13 = .ok (.ireturn, 1) := by decide +kernel
theorem dX8_herd_14 : decode cX8_herd 14 = .ok (.iload_n 2, 1) := by decide +kernel
theorem dX8_herd_15 : decode cX8_herd 15 = .ok (.ifCond .lt 8, 3) := by decide +kernel
theorem dX8_herd_18 : decode cX8_herd 18 = .ok (.iload_n 2, 1) := by decide +kernel
theorem dX8_herd_19 : decode cX8_herd 19 = .ok (.iconst 3, 1) := by decide +kernel
theorem dX8_herd_20 : decode cX8_herd 20 = .ok (.if_icmp .lt 10, 3) := by decide +kernel
theorem dX8_herd_23 : decode cX8_herd 23 = .ok (.aload_n 0, 1) := by decide +kernel
theorem dX8_herd_24 : decode cX8_herd 24 = .ok (.bipush (-2), 2) := by decide +kernel
theorem dX8_herd_26 : decode cX8_herd 26 = .ok (.invokevirtual 100, 3) := by decide +kernel
theorem dX8_herd_29 : decode cX8_herd 29 = .ok (.ireturn, 1) := by decide +kernel
theorem dX8_herd_30 : decode cX8_herd 30 = .ok (.iload_n 3, 1) := by decide +kernel
theorem dX8_herd_31 : decode cX8_herd 31 = .ok (.iconst 1, 1) := by decide +kernel
theorem dX8_herd_32 : decode cX8_herd 32 = .ok (.if_icmp .ge 10, 3) := by decide +kernel
theorem dX8_herd_35 : decode cX8_herd 35 = .ok (.aload_n 0, 1) := by decide +kernel
theorem dX8_herd_36 : decode cX8_herd 36 = .ok (.bipush (-4), 2) := by decide +kernel
theorem dX8_herd_38 : decode cX8_herd 38 = .ok (.invokevirtual 100, 3) := by decide +kernel
theorem dX8_herd_41 : decode cX8_herd 41 = .ok (.ireturn, 1) := by decide +kernel
theorem dX8_herd_42 : decode cX8_herd 42 = .ok (.iload_n 3, 1) := by decide +kernel
theorem dX8_herd_43 : decode cX8_herd 43 = .ok (.bipush 100, 2) := by decide +kernel
theorem dX8_herd_45 : decode cX8_herd 45 = .ok (.if_icmp .gt 12, 3) := by decide +kernel
theorem dX8_herd_48 : decode cX8_herd 48 = .ok (.aload_n 0, 1) := by decide +kernel
theorem dX8_herd_49 : decode cX8_herd 49 = .ok (.getfield 88, 3) := by decide +kernel
theorem dX8_herd_52 : decode cX8_herd 52 = .ok (.bipush 20, 2) := by decide +kernel
theorem dX8_herd_54 : decode cX8_herd 54 = .ok (.if_icmp .lt 10, 3) := by decide +kernel
theorem dX8_herd_57 : decode cX8_herd 57 = .ok (.aload_n 0, 1) := by decide +kernel
theorem dX8_herd_58 : decode cX8_herd 58 = .ok (.bipush (-6), 2) := by decide +kernel
theorem dX8_herd_60 : decode cX8_herd 60 = .ok (.invokevirtual 100, 3) := by decide +kernel
theorem dX8_herd_63 : decode cX8_herd 63 = .ok (.ireturn, 1) := by decide +kernel
theorem dX8_herd_64 : decode cX8_herd 64 = .ok (.aload_n 0, 1) := by decide +kernel
theorem dX8_herd_65 : decode cX8_herd 65 = .ok (.getfield 40, 3) := by decide +kernel
theorem dX8_herd_68 : decode cX8_herd 68 = .ok (.aload_n 0, 1) := by decide +kernel
theorem dX8_herd_69 : decode cX8_herd 69 = .ok (.getfield 88, 3) := by decide +kernel
theorem dX8_herd_72 : decode cX8_herd 72 = .ok (.new 38, 3) := by decide +kernel
theorem dX8_herd_75 : decode cX8_herd 75 = .ok (.dup, 1) := by decide +kernel
theorem dX8_herd_76 : decode cX8_herd 76 = .ok (.iload_n 1, 1) := by decide +kernel
theorem dX8_herd_77 : decode cX8_herd 77 = .ok (.iload_n 2, 1) := by decide +kernel
theorem dX8_herd_78 : decode cX8_herd 78 = .ok (.iload_n 3, 1) := by decide +kernel
theorem dX8_herd_79 : decode cX8_herd 79 = .ok (.invokespecial 155, 3) := by decide +kernel
theorem dX8_herd_82 : decode cX8_herd 82 = .ok (.aastore, 1) := by decide +kernel
theorem dX8_herd_83 : decode cX8_herd 83 = .ok (.aload_n 0, 1) := by decide +kernel
theorem dX8_herd_84 : decode cX8_herd 84 = .ok (.dup, 1) := by decide +kernel
theorem dX8_herd_85 : decode cX8_herd 85 = .ok (.getfield 88, 3) := by decide +kernel
theorem dX8_herd_88 : decode cX8_herd 88 = .ok (.iconst 1, 1) := by decide +kernel
theorem dX8_herd_89 : decode cX8_herd 89 = .ok (.iadd, 1) := by decide +kernel
theorem dX8_herd_90 : decode cX8_herd 90 = .ok (.putfield 88, 3) := by decide +kernel
theorem dX8_herd_93 : decode cX8_herd 93 = .ok (.aload_n 0, 1) := by decide +kernel
theorem dX8_herd_94 : decode cX8_herd 94 = .ok (.getfield 88, 3) := by decide +kernel
theorem dX8_herd_97 : decode cX8_herd 97 = .ok (.iconst 1, 1) := by decide +kernel
theorem dX8_herd_98 : decode cX8_herd 98 = .ok (.isub, 1) := by decide +kernel
theorem dX8_herd_99 : decode cX8_herd 99 = .ok (.ireturn, 1) := by decide +kernel
theorem dX8_put_0 : decode cX8_put 0 = .ok (.aload_n 0, 1) := by decide +kernel
theorem dX8_put_1 : decode cX8_put 1 = .ok (.iload_n 1, 1) := by decide +kernel
theorem dX8_put_2 : decode cX8_put 2 = .ok (.invokevirtual 157, 3) := by decide +kernel
theorem dX8_put_5 : decode cX8_put 5 = .ok (.ifCond .eq 11, 3) := by decide +kernel
theorem dX8_put_8 : decode cX8_put 8 = .ok (.aload_n 0, 1) := by decide +kernel
theorem dX8_put_9 : decode cX8_put 9 = .ok (.iload_n 2, 1) := by decide +kernel
theorem dX8_put_10 : decode cX8_put 10 = .ok (.invokevirtual 127, 3) := by decide +kernel
theorem dX8_put_13 : decode cX8_put 13 = .ok (.ifCond .ne 9, 3) := by decide +kernel
theorem dX8_put_16 : decode cX8_put 16 = .ok (.aload_n 0, 1) := by decide +kernel
theorem dX8_put_17 : decode cX8_put 17 = .ok (.iconst (-1), 1) := by decide +kernel
theorem dX8_put_18 : decode cX8_put 18 = .ok (.invokevirtual 100, 3) := by decide +kernel
theorem dX8_put_21 : decode cX8_put 21 = .ok (.ireturn, 1) := by decide +kernel
theorem dX8_put_22 : decode cX8_put 22 = .ok (.aload_n 0, 1) := by decide +kernel
theorem dX8_put_23 : decode cX8_put 23 = .ok (.getfield 40, 3) := by decide +kernel
theorem dX8_put_26 : decode cX8_put 26 = .ok (.iload_n 1, 1) := by decide +kernel
theorem dX8_put_27 : decode cX8_put 27 = .ok (.aaload, 1) := by decide +kernel
theorem dX8_put_28 : decode cX8_put 28 = .ok (.astore_n 3, 1) := by decide +kernel
theorem dX8_put_29 : decode cX8_put 29 = .ok (.aload_n 3, 1) := by decide +kernel
theorem dX8_put_30 : decode cX8_put 30 = .ok (.getfield 160, 3) := by decide +kernel
theorem dX8_put_33 : decode cX8_put 33 = .ok (.ifCond .ne 27, 3) := by decide +kernel
theorem dX8_put_36 : decode cX8_put 36 = .ok (.aload_n 3, 1) := by decide +kernel
theorem dX8_put_37 : decode cX8_put 37 = .ok (.getfield 163, 3) := by decide +kernel
theorem dX8_put_40 : decode cX8_put 40 = .ok (.iconst (-1), 1) := by decide +kernel
theorem dX8_put_41 : decode cX8_put 41 = .ok (.if_icmp .ne 19, 3) := by decide +kernel
theorem dX8_put_44 : decode cX8_put 44 = .ok (.aload_n 0, 1) := by decide +kernel
theorem dX8_put_45 : decode cX8_put 45 = .ok (.getfield 11, 3) := by decide +kernel
theorem dX8_put_48 : decode cX8_put 48 = .ok (.iload_n 2, 1) := by decide +kernel
theorem dX8_put_49 : decode cX8_put 49 = .ok (.aaload, 1) := by decide +kernel
theorem dX8_put_50 : decode cX8_put 50 = .ok (.aload_n 0, 1) := by decide +kernel
theorem dX8_put_51 : decode cX8_put 51 = .ok (.getfield 91, 3) := by decide +kernel
theorem dX8_put_54 : decode cX8_put 54 = .ok (.invokevirtual 166, 3) := by decide +kernel
theorem dX8_put_57 : decode cX8_put 57 = .ok (.ifCond .eq 10, 3) := by decide +kernel
theorem dX8_put_60 : decode cX8_put 60 = .ok (.aload_n 0, 1) := by decide +kernel
theorem dX8_put_61 : decode cX8_put 61 = .ok (.bipush (-3), 2) := by decide +kernel
theorem dX8_put_63 : decode cX8_put 63 = .ok (.invokevirtual 100, 3) := by decide +kernel
theorem dX8_put_66 : decode cX8_put 66 = .ok (.ireturn, 1) := by decide +kernel
theorem dX8_put_67 : decode cX8_put 67 = .ok (.aload_n 3, 1) := by decide +kernel
theorem dX8_put_68 : decode cX8_put 68 = .ok (.iload_n 2, 1) := by decide +kernel
theorem dX8_put_69 : decode cX8_put 69 = .ok (.putfield 163, 3) := by decide +kernel
theorem dX8_put_72 : decode cX8_put 72 = .ok (.aload_n 0, 1) := by decide +kernel
theorem dX8_put_73 : decode cX8_put 73 = .ok (.aload_n 3, 1) := by decide +kernel
theorem dX8_put_74 : decode cX8_put 74 = .ok (.getfield 169, 3) := by decide +kernel
theorem dX8_put_77 : decode cX8_put 77 = .ok (.invokevirtual 172, 3) := by decide +kernel
theorem dX8_put_80 : decode cX8_put 80 = .ok (.ifCond .le 15, 3) := by decide +kernel
theorem dX8_put_83 : decode cX8_put 83 = .ok (.aload_n 3, 1) := by decide +kernel
theorem dX8_put_84 : decode cX8_put 84 = .ok (.iconst (-1), 1) := by decide +kernel
theorem dX8_put_85 : decode cX8_put 85 = .ok (.putfield 163, 3) := by decide +kernel
theorem dX8_put_88 : decode cX8_put 88 = .ok (.aload_n 0, 1) := by decide +kernel
theorem dX8_put_89 : decode cX8_put 89 = .ok (.bipush (-5), 2) := by decide +kernel
theorem dX8_put_91 : decode cX8_put 91 = .ok (.invokevirtual 100, 3) := by decide +kernel
theorem dX8_put_94 : decode cX8_put 94 = .ok (.ireturn, 1) := by decide +kernel
theorem dX8_put_95 : decode cX8_put 95 = .ok (.aload_n 0, 1) := by decide +kernel
theorem dX8_put_96 : decode cX8_put 96 = .ok (.dup, 1) := by decide +kernel
theorem dX8_put_97 : decode cX8_put 97 = .ok (.getfield 94, 3) := by decide +kernel
theorem dX8_put_100 : decode cX8_put 100 = .ok (.iconst 1, 1) := by decide +kernel
theorem dX8_put_101 : decode cX8_put 101 = .ok (.iadd, 1) := by decide +kernel
theorem dX8_put_102 : decode cX8_put 102 = .ok (.putfield 94, 3) := by decide +kernel
theorem dX8_put_105 : decode cX8_put 105 = .ok (.aload_n 3, 1) := by decide +kernel
theorem dX8_put_106 : decode cX8_put 106 = .ok (.aload_n 0, 1) := by decide +kernel
theorem dX8_put_107 : decode cX8_put 107 = .ok (.getfield 94, 3) := by decide +kernel
theorem dX8_put_110 : decode cX8_put 110 = .ok (.putfield 175, 3) := by decide +kernel
theorem dX8_put_113 : decode cX8_put 113 = .ok (.iconst 1, 1) := by decide +kernel
theorem dX8_put_114 : decode cX8_put 114 = .ok (.ireturn, 1) := by decide +kernel
theorem dX8_drive_0 : decode cX8_drive 0 = .ok (.aload_n 0, 1) := by decide +kernel
theorem dX8_drive_1 : decode cX8_drive 1 = .ok (.iload_n 1, 1) := by decide +kernel
theorem dX8_drive_2 : decode cX8_drive 2 = .ok (.invokevirtual 157, 3) := by decide +kernel
theorem dX8_drive_5 : decode cX8_drive 5 = .ok (.ifCond .eq 16, 3) := by decide +kernel
theorem dX8_drive_8 : decode cX8_drive 8 = .ok (.iload_n 2, 1) := by decide +kernel
theorem dX8_drive_9 : decode cX8_drive 9 = .ok (.iconst (-1), 1) := by decide +kernel
theorem dX8_drive_10 : decode cX8_drive 10 = .ok (.if_icmp .eq 17, 3) := by decide +kernel
theorem dX8_drive_13 : decode cX8_drive 13 = .ok (.aload_n 0, 1) := by decide +kernel
theorem dX8_drive_14 : decode cX8_drive 14 = .ok (.iload_n 2, 1) := by decide +kernel
theorem dX8_drive_15 : decode cX8_drive 15 = .ok (.invokevirtual 127, 3) := by decide +kernel
theorem dX8_drive_18 : decode cX8_drive 18 = .ok (.ifCond .ne 9, 3) := by decide +kernel
theorem dX8_drive_21 : decode cX8_drive 21 = .ok (.aload_n 0, 1) := by decide +kernel
theorem dX8_drive_22 : decode cX8_drive 22 = .ok (.iconst (-1), 1) := by decide +kernel
theorem dX8_drive_23 : decode cX8_drive 23 = .ok (.invokevirtual 100, 3) := by decide +kernel
theorem dX8_drive_26 : decode cX8_drive 26 = .ok (.ireturn, 1) := by decide +kernel
theorem dX8_drive_27 : decode cX8_drive 27 = .ok (.aload_n 0, 1) := by decide +kernel
theorem dX8_drive_28 : decode cX8_drive 28 = .ok (.getfield 40, 3) := by decide +kernel
theorem dX8_drive_31 : decode cX8_drive 31 = .ok (.iload_n 1, 1) := by decide +kernel
theorem dX8_drive_32 : decode cX8_drive 32 = .ok (.aaload, 1) := by decide +kernel
theorem dX8_drive_33 : decode cX8_drive 33 = .ok (.astore_n 3, 1) := by decide +kernel
theorem dX8_drive_34 : decode cX8_drive 34 = .ok (.aload_n 3, 1) := by decide +kernel
theorem dX8_drive_35 : decode cX8_drive 35 = .ok (.getfield 163, 3) := by decide +kernel
theorem dX8_drive_38 : decode cX8_drive 38 = .ok (.istore 4, 2) := by decide +kernel
theorem dX8_drive_40 : decode cX8_drive 40 = .ok (.iload 4, 2) := by decide +kernel
theorem dX8_drive_42 : decode cX8_drive 42 = .ok (.iconst (-1), 1) := by decide +kernel
theorem dX8_drive_43 : decode cX8_drive 43 = .ok (.if_icmp .eq 30, 3) := by decide +kernel
theorem dX8_drive_46 : decode cX8_drive 46 = .ok (.iload 4, 2) := by decide +kernel
theorem dX8_drive_48 : decode cX8_drive 48 = .ok (.iload_n 2, 1) := by decide +kernel
theorem dX8_drive_49 : decode cX8_drive 49 = .ok (.if_icmp .eq 24, 3) := by decide +kernel
theorem dX8_drive_52 : decode cX8_drive 52 = .ok (.iload_n 2, 1) := by decide +kernel
theorem dX8_drive_53 : decode cX8_drive 53 = .ok (.iconst (-1), 1) := by decide +kernel
theorem dX8_drive_54 : decode cX8_drive 54 = .ok (.if_icmp .eq 26, 3) := by decide +kernel
theorem dX8_drive_57 : decode cX8_drive 57 = .ok (.aload_n 0, 1) := by decide +kernel
theorem dX8_drive_58 : decode cX8_drive 58 = .ok (.getfield 11, 3) := by decide +kernel
theorem dX8_drive_61 : decode cX8_drive 61 = .ok (.iload_n 2, 1) := by decide +kernel
theorem dX8_drive_62 : decode cX8_drive 62 = .ok (.aaload, 1) := by decide +kernel
theorem dX8_drive_63 : decode cX8_drive 63 = .ok (.aload_n 0, 1) := by decide +kernel
theorem dX8_drive_64 : decode cX8_drive 64 = .ok (.getfield 91, 3) := by decide +kernel
theorem dX8_drive_67 : decode cX8_drive 67 = .ok (.invokevirtual 166, 3) := by decide +kernel
theorem dX8_drive_70 : decode cX8_drive 70 = .ok (.ifCond .eq 10, 3) := by decide +kernel
theorem dX8_drive_73 : decode cX8_drive 73 = .ok (.aload_n 0, 1) := by decide +kernel
theorem dX8_drive_74 : decode cX8_drive 74 = .ok (.bipush (-3), 2) := by decide +kernel
theorem dX8_drive_76 : decode cX8_drive 76 = .ok (.invokevirtual 100, 3) := by decide +kernel
theorem dX8_drive_79 : decode cX8_drive 79 = .ok (.ireturn, 1) := by decide +kernel
theorem dX8_drive_80 : decode cX8_drive 80 = .ok (.aload_n 3, 1) := by decide +kernel
theorem dX8_drive_81 : decode cX8_drive 81 = .ok (.iload_n 2, 1) := by decide +kernel
theorem dX8_drive_82 : decode cX8_drive 82 = .ok (.putfield 163, 3) := by decide +kernel
theorem dX8_drive_85 : decode cX8_drive 85 = .ok (.aload_n 0, 1) := by decide +kernel
theorem dX8_drive_86 : decode cX8_drive 86 = .ok (.dup, 1) := by decide +kernel
theorem dX8_drive_87 : decode cX8_drive 87 = .ok (.getfield 94, 3) := by decide +kernel
theorem dX8_drive_90 : decode cX8_drive 90 = .ok (.iconst 1, 1) := by decide +kernel
theorem dX8_drive_91 : decode cX8_drive 91 = .ok (.iadd, 1) := by decide +kernel
theorem dX8_drive_92 : decode cX8_drive 92 = .ok (.putfield 94, 3) := by decide +kernel
theorem dX8_drive_95 : decode cX8_drive 95 = .ok (.aload_n 3, 1) := by decide +kernel
theorem dX8_drive_96 : decode cX8_drive 96 = .ok (.aload_n 0, 1) := by decide +kernel
theorem dX8_drive_97 : decode cX8_drive 97 = .ok (.getfield 94, 3) := by decide +kernel
theorem dX8_drive_100 : decode cX8_drive 100 = .ok (.putfield 175, 3) := by decide +kernel
theorem dX8_drive_103 : decode cX8_drive 103 = .ok (.iload 4, 2) := by decide +kernel
theorem dX8_drive_105 : decode cX8_drive 105 = .ok (.ireturn, 1) := by decide +kernel
theorem dX8_covered_0 : decode cX8_covered 0 = .ok (.aload_n 0, 1) := by decide +kernel
theorem dX8_covered_1 : decode cX8_covered 1 = .ok (.iload_n 1, 1) := by decide +kernel
theorem dX8_covered_2 : decode cX8_covered 2 = .ok (.invokevirtual 108, 3) := by decide +kernel
theorem dX8_covered_5 : decode cX8_covered 5 = .ok (.ifCond .ne 9, 3) := by decide +kernel
theorem dX8_covered_8 : decode cX8_covered 8 = .ok (.aload_n 0, 1) := by decide +kernel
theorem dX8_covered_9 : decode cX8_covered 9 = .ok (.iconst (-1), 1) := by decide +kernel
theorem dX8_covered_10 : decode cX8_covered 10 = .ok (.invokevirtual 100, 3) := by decide +kernel
theorem dX8_covered_13 : decode cX8_covered 13 = .ok (.ireturn, 1) := by decide +kernel
theorem dX8_covered_14 : decode cX8_covered 14 = .ok (.aload_n 0, 1) := by decide +kernel
theorem dX8_covered_15 : decode cX8_covered 15 = .ok (.iload_n 1, 1) := by decide +kernel
theorem dX8_covered_16 : decode cX8_covered 16 = .ok (.invokevirtual 172, 3) := by decide +kernel
theorem dX8_covered_19 : decode cX8_covered 19 = .ok (.ifCond .ne 7, 3) := by decide +kernel
theorem dX8_covered_22 : decode cX8_covered 22 = .ok (.iconst 1, 1) := by decide +kernel
theorem dX8_covered_23 : decode cX8_covered 23 = .ok (.goto 4, 3) := by decide +kernel
theorem dX8_covered_26 : decode cX8_covered 26 = .ok (.iconst 0, 1) := by decide +kernel
theorem dX8_covered_27 : decode cX8_covered 27 = .ok (.ireturn, 1) := by decide +kernel
theorem dX8_lacks_0 : decode cX8_lacks 0 = .ok (.aload_n 0, 1) := by decide +kernel
theorem dX8_lacks_1 : decode cX8_lacks 1 = .ok (.iload_n 1, 1) := by decide +kernel
theorem dX8_lacks_2 : decode cX8_lacks 2 = .ok (.invokevirtual 108, 3) := by decide +kernel
theorem dX8_lacks_5 : decode cX8_lacks 5 = .ok (.ifCond .ne 9, 3) := by decide +kernel
theorem dX8_lacks_8 : decode cX8_lacks 8 = .ok (.aload_n 0, 1) := by decide +kernel
theorem dX8_lacks_9 : decode cX8_lacks 9 = .ok (.iconst (-1), 1) := by decide +kernel
theorem dX8_lacks_10 : decode cX8_lacks 10 = .ok (.invokevirtual 100, 3) := by decide +kernel
theorem dX8_lacks_13 : decode cX8_lacks 13 = .ok (.ireturn, 1) := by decide +kernel
theorem dX8_lacks_14 : decode cX8_lacks 14 = .ok (.aload_n 0, 1) := by decide +kernel
theorem dX8_lacks_15 : decode cX8_lacks 15 = .ok (.iload_n 1, 1) := by decide +kernel
theorem dX8_lacks_16 : decode cX8_lacks 16 = .ok (.invokevirtual 172, 3) := by decide +kernel
theorem dX8_lacks_19 : decode cX8_lacks 19 = .ok (.ireturn, 1) := by decide +kernel
theorem dX8_over_0 : decode cX8_over 0 = .ok (.aload_n 0, 1) := by decide +kernel
theorem dX8_over_1 : decode cX8_over 1 = .ok (.iload_n 1, 1) := by decide +kernel
theorem dX8_over_2 : decode cX8_over 2 = .ok (.invokevirtual 127, 3) := by decide +kernel
theorem dX8_over_5 : decode cX8_over 5 = .ok (.ifCond .ne 9, 3) := by decide +kernel
theorem dX8_over_8 : decode cX8_over 8 = .ok (.aload_n 0, 1) := by decide +kernel
theorem dX8_over_9 : decode cX8_over 9 = .ok (.iconst (-1), 1) := by decide +kernel
theorem dX8_over_10 : decode cX8_over 10 = .ok (.invokevirtual 100, 3) := by decide +kernel
theorem dX8_over_13 : decode cX8_over 13 = .ok (.ireturn, 1) := by decide +kernel
theorem dX8_over_14 : decode cX8_over 14 = .ok (.aload_n 0, 1) := by decide +kernel
theorem dX8_over_15 : decode cX8_over 15 = .ok (.iload_n 1, 1) := by decide +kernel
theorem dX8_over_16 : decode cX8_over 16 = .ok (.invokevirtual 178, 3) := by decide +kernel
