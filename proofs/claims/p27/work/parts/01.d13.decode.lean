theorem dX9_adds_1 : decode cX9_adds 1 = .ok (.getfield 50, 3) := by decide +kernel
theorem dX9_adds_4 : decode cX9_adds 4 = .ok (.aload_n 0, 1) := by decide +kernel
theorem dX9_adds_5 : decode cX9_adds 5 = .ok (.getfield 148, 3) := by decide +kernel
theorem dX9_adds_8 : decode cX9_adds 8 = .ok (.iload_n 1, 1) := by decide +kernel
theorem dX9_adds_9 : decode cX9_adds 9 = .ok (.iastore, 1) := by decide +kernel
theorem dX9_adds_10 : decode cX9_adds 10 = .ok (.aload_n 0, 1) := by decide +kernel
theorem dX9_adds_11 : decode cX9_adds 11 = .ok (.getfield 53, 3) := by decide +kernel
theorem dX9_adds_14 : decode cX9_adds 14 = .ok (.aload_n 0, 1) := by decide +kernel
theorem dX9_adds_15 : decode cX9_adds 15 = .ok (.getfield 148, 3) := by decide +kernel
theorem dX9_adds_18 : decode cX9_adds 18 = .ok (.iload_n 2, 1) := by decide +kernel
theorem dX9_adds_19 : decode cX9_adds 19 = .ok (.iastore, 1) := by decide +kernel
theorem dX9_adds_20 : decode cX9_adds 20 = .ok (.aload_n 0, 1) := by decide +kernel
theorem dX9_adds_21 : decode cX9_adds 21 = .ok (.getfield 56, 3) := by decide +kernel
theorem dX9_adds_24 : decode cX9_adds 24 = .ok (.aload_n 0, 1) := by decide +kernel
theorem dX9_adds_25 : decode cX9_adds 25 = .ok (.getfield 148, 3) := by decide +kernel
theorem dX9_adds_28 : decode cX9_adds 28 = .ok (.iload_n 3, 1) := by decide +kernel
theorem dX9_adds_29 : decode cX9_adds 29 = .ok (.iastore, 1) := by decide +kernel
theorem dX9_adds_30 : decode cX9_adds 30 = .ok (.aload_n 0, 1) := by decide +kernel
theorem dX9_adds_31 : decode cX9_adds 31 = .ok (.getfield 59, 3) := by decide +kernel
theorem dX9_adds_34 : decode cX9_adds 34 = .ok (.aload_n 0, 1) := by decide +kernel
theorem dX9_adds_35 : decode cX9_adds 35 = .ok (.getfield 148, 3) := by decide +kernel
theorem dX9_adds_38 : decode cX9_adds 38 = .ok (.aload_n 0, 1) := by decide +kernel
theorem dX9_adds_39 : decode cX9_adds 39 = .ok (.getfield 141, 3) := by decide +kernel
theorem dX9_adds_42 : decode cX9_adds 42 = .ok (.iastore, 1) := by decide +kernel
theorem dX9_adds_43 : decode cX9_adds 43 = .ok (.aload_n 0, 1) := by decide +kernel
theorem dX9_adds_44 : decode cX9_adds 44 = .ok (.getfield 62, 3) := by decide +kernel
theorem dX9_adds_47 : decode cX9_adds 47 = .ok (.aload_n 0, 1) := by decide +kernel
theorem dX9_adds_48 : decode cX9_adds 48 = .ok (.getfield 148, 3) := by decide +kernel
theorem dX9_adds_51 : decode cX9_adds 51 = .ok (.iload 4, 2) := by decide +kernel
theorem dX9_adds_53 : decode cX9_adds 53 = .ok (.iastore, 1) := by decide +kernel
theorem dX9_adds_54 : decode cX9_adds 54 = .ok (.aload_n 0, 1) := by decide +kernel
theorem dX9_adds_55 : decode cX9_adds 55 = .ok (.getfield 65, 3) := by decide +kernel
theorem dX9_adds_58 : decode cX9_adds 58 = .ok (.aload_n 0, 1) := by decide +kernel
theorem dX9_adds_59 : decode cX9_adds 59 = .ok (.getfield 148, 3) := by decide +kernel
theorem dX9_adds_62 : decode cX9_adds 62 = .ok (.iload 6, 2) := by decide +kernel
theorem dX9_adds_64 : decode cX9_adds 64 = .ok (.iastore, 1) := by decide +kernel
theorem dX9_adds_65 : decode cX9_adds 65 = .ok (.aload_n 0, 1) := by decide +kernel
theorem dX9_adds_66 : decode cX9_adds 66 = .ok (.getfield 68, 3) := by decide +kernel
theorem dX9_adds_69 : decode cX9_adds 69 = .ok (.aload_n 0, 1) := by decide +kernel
theorem dX9_adds_70 : decode cX9_adds 70 = .ok (.getfield 148, 3) := by decide +kernel
theorem dX9_adds_73 : decode cX9_adds 73 = .ok (.iload 5, 2) := by decide +kernel
theorem dX9_adds_75 : decode cX9_adds 75 = .ok (.iastore, 1) := by decide +kernel
theorem dX9_adds_76 : decode cX9_adds 76 = .ok (.aload_n 0, 1) := by decide +kernel
theorem dX9_adds_77 : decode cX9_adds 77 = .ok (.getfield 71, 3) := by decide +kernel
theorem dX9_adds_80 : decode cX9_adds 80 = .ok (.aload_n 0, 1) := by decide +kernel
theorem dX9_adds_81 : decode cX9_adds 81 = .ok (.getfield 148, 3) := by decide +kernel
theorem dX9_adds_84 : decode cX9_adds 84 = .ok (.bipush (-9), 2) := by decide +kernel
theorem dX9_adds_86 : decode cX9_adds 86 = .ok (.iastore, 1) := by decide +kernel
theorem dX9_adds_87 : decode cX9_adds 87 = .ok (.aload_n 0, 1) := by decide +kernel
theorem dX9_adds_88 : decode cX9_adds 88 = .ok (.dup, 1) := by decide +kernel
theorem dX9_adds_89 : decode cX9_adds 89 = .ok (.getfield 148, 3) := by decide +kernel
theorem dX9_adds_92 : decode cX9_adds 92 = .ok (.iconst 1, 1) := by decide +kernel
theorem dX9_adds_93 : decode cX9_adds 93 = .ok (.iadd, 1) := by decide +kernel
theorem dX9_adds_94 : decode cX9_adds 94 = .ok (.putfield 148, 3) := by decide +kernel
theorem dX9_adds_97 : decode cX9_adds 97 = .ok (.aload_n 0, 1) := by decide +kernel
theorem dX9_adds_98 : decode cX9_adds 98 = .ok (.getfield 148, 3) := by decide +kernel
theorem dX9_adds_101 : decode cX9_adds 101 = .ok (.iconst 1, 1) := by decide +kernel
theorem dX9_adds_102 : decode cX9_adds 102 = .ok (.isub, 1) := by decide +kernel
theorem dX9_adds_103 : decode cX9_adds 103 = .ok (.ireturn, 1) := by decide +kernel
theorem dX9_right_0 : decode cX9_right 0 = .ok (.iload_n 1, 1) := by decide +kernel
theorem dX9_right_1 : decode cX9_right 1 = .ok (.iconst 4, 1) := by decide +kernel
theorem dX9_right_2 : decode cX9_right 2 = .ok (.invokestatic 134, 3) := by decide +kernel
theorem dX9_right_5 : decode cX9_right 5 = .ok (.ifCond .ne 10, 3) := by decide +kernel
theorem dX9_right_8 : decode cX9_right 8 = .ok (.aload_n 0, 1) := by decide +kernel
theorem dX9_right_9 : decode cX9_right 9 = .ok (.bipush (-2), 2) := by decide +kernel
theorem dX9_right_11 : decode cX9_right 11 = .ok (.invokevirtual 122, 3) := by decide +kernel
theorem dX9_right_14 : decode cX9_right 14 = .ok (.ireturn, 1) := by decide +kernel
theorem dX9_right_15 : decode cX9_right 15 = .ok (.iload_n 2, 1) := by decide +kernel
theorem dX9_right_16 : decode cX9_right 16 = .ok (.iload_n 1, 1) := by decide +kernel
theorem dX9_right_17 : decode cX9_right 17 = .ok (.iconst 1, 1) := by decide +kernel
theorem dX9_right_18 : decode cX9_right 18 = .ok (.if_icmp .ne 10, 3) := by decide +kernel
theorem dX9_right_21 : decode cX9_right 21 = .ok (.aload_n 0, 1) := by decide +kernel
theorem dX9_right_22 : decode cX9_right 22 = .ok (.getfield 138, 3) := by decide +kernel
theorem dX9_right_25 : decode cX9_right 25 = .ok (.goto 7, 3) := by decide +kernel
theorem dX9_right_28 : decode cX9_right 28 = .ok (.aload_n 0, 1) := by decide +kernel
theorem dX9_right_29 : decode cX9_right 29 = .ok (.getfield 131, 3) := by decide +kernel
theorem dX9_right_32 : decode cX9_right 32 = .ok (.invokestatic 134, 3) := by decide +kernel
theorem dX9_right_35 : decode cX9_right 35 = .ok (.ifCond .eq 20, 3) := by decide +kernel
theorem dX9_right_38 : decode cX9_right 38 = .ok (.iload_n 1, 1) := by decide +kernel
theorem dX9_right_39 : decode cX9_right 39 = .ok (.iconst 3, 1) := by decide +kernel
theorem dX9_right_40 : decode cX9_right 40 = .ok (.if_icmp .ne 21, 3) := by decide +kernel
theorem dX9_right_43 : decode cX9_right 43 = .ok (.iload 5, 2) := by decide +kernel
theorem dX9_right_45 : decode cX9_right 45 = .ok (.aload_n 0, 1) := by decide +kernel
theorem dX9_right_46 : decode cX9_right 46 = .ok (.getfield 127, 3) := by decide +kernel
theorem dX9_right_49 : decode cX9_right 49 = .ok (.invokestatic 134, 3) := by decide +kernel
theorem dX9_right_52 : decode cX9_right 52 = .ok (.ifCond .ne 9, 3) := by decide +kernel
theorem dX9_right_55 : decode cX9_right 55 = .ok (.aload_n 0, 1) := by decide +kernel
theorem dX9_right_56 : decode cX9_right 56 = .ok (.iconst (-1), 1) := by decide +kernel
theorem dX9_right_57 : decode cX9_right 57 = .ok (.invokevirtual 122, 3) := by decide +kernel
theorem dX9_right_60 : decode cX9_right 60 = .ok (.ireturn, 1) := by decide +kernel
theorem dX9_right_61 : decode cX9_right 61 = .ok (.iload_n 3, 1) := by decide +kernel
theorem dX9_right_62 : decode cX9_right 62 = .ok (.iconst 1, 1) := by decide +kernel
theorem dX9_right_63 : decode cX9_right 63 = .ok (.if_icmp .lt 12, 3) := by decide +kernel
theorem dX9_right_66 : decode cX9_right 66 = .ok (.iload 4, 2) := by decide +kernel
theorem dX9_right_68 : decode cX9_right 68 = .ok (.aload_n 0, 1) := by decide +kernel
theorem dX9_right_69 : decode cX9_right 69 = .ok (.getfield 141, 3) := by decide +kernel
theorem dX9_right_72 : decode cX9_right 72 = .ok (.if_icmp .ge 10, 3) := by decide +kernel
theorem dX9_right_75 : decode cX9_right 75 = .ok (.aload_n 0, 1) := by decide +kernel
theorem dX9_right_76 : decode cX9_right 76 = .ok (.bipush (-4), 2) := by decide +kernel
theorem dX9_right_78 : decode cX9_right 78 = .ok (.invokevirtual 122, 3) := by decide +kernel
theorem dX9_right_81 : decode cX9_right 81 = .ok (.ireturn, 1) := by decide +kernel
theorem dX9_right_82 : decode cX9_right 82 = .ok (.iload_n 3, 1) := by decide +kernel
theorem dX9_right_83 : decode cX9_right 83 = .ok (.sipush 10000, 3) := by decide +kernel
theorem dX9_right_86 : decode cX9_right 86 = .ok (.if_icmp .gt 20, 3) := by decide +kernel
theorem dX9_right_89 : decode cX9_right 89 = .ok (.iload 4, 2) := by decide +kernel
theorem dX9_right_91 : decode cX9_right 91 = .ok (.sipush 720, 3) := by decide +kernel
theorem dX9_right_94 : decode cX9_right 94 = .ok (.if_icmp .gt 12, 3) := by decide +kernel
theorem dX9_right_97 : decode cX9_right 97 = .ok (.aload_n 0, 1) := by decide +kernel
theorem dX9_right_98 : decode cX9_right 98 = .ok (.getfield 148, 3) := by decide +kernel
theorem dX9_right_101 : decode cX9_right 101 = .ok (.bipush 60, 2) := by decide +kernel
theorem dX9_right_103 : decode cX9_right 103 = .ok (.if_icmp .ne 10, 3) := by decide +kernel
theorem dX9_right_106 : decode cX9_right 106 = .ok (.aload_n 0, 1) := by decide +kernel
theorem dX9_right_107 : decode cX9_right 107 = .ok (.bipush (-6), 2) := by decide +kernel
theorem dX9_right_109 : decode cX9_right 109 = .ok (.invokevirtual 122, 3) := by decide +kernel
theorem dX9_right_112 : decode cX9_right 112 = .ok (.ireturn, 1) := by decide +kernel
theorem dX9_right_113 : decode cX9_right 113 = .ok (.aload_n 0, 1) := by decide +kernel
theorem dX9_right_114 : decode cX9_right 114 = .ok (.iload_n 1, 1) := by decide +kernel
theorem dX9_right_115 : decode cX9_right 115 = .ok (.iload_n 2, 1) := by decide +kernel
theorem dX9_right_116 : decode cX9_right 116 = .ok (.iload_n 3, 1) := by decide +kernel
theorem dX9_right_117 : decode cX9_right 117 = .ok (.iload 4, 2) := by decide +kernel
theorem dX9_right_119 : decode cX9_right 119 = .ok (.bipush (-9), 2) := by decide +kernel
theorem dX9_right_121 : decode cX9_right 121 = .ok (.iload 5, 2) := by decide +kernel
theorem dX9_right_123 : decode cX9_right 123 = .ok (.invokevirtual 151, 3) := by decide +kernel
theorem dX9_right_126 : decode cX9_right 126 = .ok (.ireturn, 1) := by decide +kernel
theorem dX9_lend_0 : decode cX9_lend 0 = .ok (.iload_n 1, 1) := by decide +kernel
theorem dX9_lend_1 : decode cX9_lend 1 = .ok (.aload_n 0, 1) := by decide +kernel
theorem dX9_lend_2 : decode cX9_lend 2 = .ok (.getfield 148, 3) := by decide +kernel
theorem dX9_lend_5 : decode cX9_lend 5 = .ok (.invokestatic 134, 3) := by decide +kernel
theorem dX9_lend_8 : decode cX9_lend 8 = .ok (.ifCond .eq 23, 3) := by decide +kernel
theorem dX9_lend_11 : decode cX9_lend 11 = .ok (.iload_n 2, 1) := by decide +kernel
theorem dX9_lend_12 : decode cX9_lend 12 = .ok (.aload_n 0, 1) := by decide +kernel
theorem dX9_lend_13 : decode cX9_lend 13 = .ok (.getfield 131, 3) := by decide +kernel
theorem dX9_lend_16 : decode cX9_lend 16 = .ok (.invokestatic 134, 3) := by decide +kernel
theorem dX9_lend_19 : decode cX9_lend 19 = .ok (.ifCond .eq 12, 3) := by decide +kernel
theorem dX9_lend_22 : decode cX9_lend 22 = .ok (.aload_n 0, 1) := by decide +kernel
theorem dX9_lend_23 : decode cX9_lend 23 = .ok (.iload_n 1, 1) := by decide +kernel
theorem dX9_lend_24 : decode cX9_lend 24 = .ok (.invokevirtual 155, 3) := by decide +kernel
theorem dX9_lend_27 : decode cX9_lend 27 = .ok (.iload_n 2, 1) := by decide +kernel
theorem dX9_lend_28 : decode cX9_lend 28 = .ok (.if_icmp .ne 9, 3) := by decide +kernel
theorem dX9_lend_31 : decode cX9_lend 31 = .ok (.aload_n 0, 1) := by decide +kernel
theorem dX9_lend_32 : decode cX9_lend 32 = .ok (.iconst (-1), 1) := by decide +kernel
theorem dX9_lend_33 : decode cX9_lend 33 = .ok (.invokevirtual 122, 3) := by decide +kernel
theorem dX9_lend_36 : decode cX9_lend 36 = .ok (.ireturn, 1) := by decide +kernel
theorem dX9_lend_37 : decode cX9_lend 37 = .ok (.aload_n 0, 1) := by decide +kernel
theorem dX9_lend_38 : decode cX9_lend 38 = .ok (.getfield 50, 3) := by decide +kernel
theorem dX9_lend_41 : decode cX9_lend 41 = .ok (.iload_n 1, 1) := by decide +kernel
theorem dX9_lend_42 : decode cX9_lend 42 = .ok (.iaload, 1) := by decide +kernel
theorem dX9_lend_43 : decode cX9_lend 43 = .ok (.ifCond .eq 10, 3) := by decide +kernel
theorem dX9_lend_46 : decode cX9_lend 46 = .ok (.aload_n 0, 1) := by decide +kernel
theorem dX9_lend_47 : decode cX9_lend 47 = .ok (.bipush (-2), 2) := by decide +kernel
theorem dX9_lend_49 : decode cX9_lend 49 = .ok (.invokevirtual 122, 3) := by decide +kernel
theorem dX9_lend_52 : decode cX9_lend 52 = .ok (.ireturn, 1) := by decide +kernel
theorem dX9_lend_53 : decode cX9_lend 53 = .ok (.aload_n 0, 1) := by decide +kernel
theorem dX9_lend_54 : decode cX9_lend 54 = .ok (.iload_n 1, 1) := by decide +kernel
theorem dX9_lend_55 : decode cX9_lend 55 = .ok (.invokevirtual 144, 3) := by decide +kernel
theorem dX9_lend_58 : decode cX9_lend 58 = .ok (.ifCond .ne 10, 3) := by decide +kernel
theorem dX9_lend_61 : decode cX9_lend 61 = .ok (.aload_n 0, 1) := by decide +kernel
theorem dX9_lend_62 : decode cX9_lend 62 = .ok (.bipush (-3), 2) := by decide +kernel
theorem dX9_lend_64 : decode cX9_lend 64 = .ok (.invokevirtual 122, 3) := by decide +kernel
theorem dX9_lend_67 : decode cX9_lend 67 = .ok (.ireturn, 1) := by decide +kernel
theorem dX9_lend_68 : decode cX9_lend 68 = .ok (.iload_n 3, 1) := by decide +kernel
theorem dX9_lend_69 : decode cX9_lend 69 = .ok (.iconst 1, 1) := by decide +kernel
theorem dX9_lend_70 : decode cX9_lend 70 = .ok (.if_icmp .lt 12, 3) := by decide +kernel
theorem dX9_lend_73 : decode cX9_lend 73 = .ok (.iload 4, 2) := by decide +kernel
theorem dX9_lend_75 : decode cX9_lend 75 = .ok (.aload_n 0, 1) := by decide +kernel
theorem dX9_lend_76 : decode cX9_lend 76 = .ok (.getfield 141, 3) := by decide +kernel
theorem dX9_lend_79 : decode cX9_lend 79 = .ok (.if_icmp .ge 10, 3) := by decide +kernel
theorem dX9_lend_82 : decode cX9_lend 82 = .ok (.aload_n 0, 1) := by decide +kernel
theorem dX9_lend_83 : decode cX9_lend 83 = .ok (.bipush (-4), 2) := by decide +kernel
theorem dX9_lend_85 : decode cX9_lend 85 = .ok (.invokevirtual 122, 3) := by decide +kernel
theorem dX9_lend_88 : decode cX9_lend 88 = .ok (.ireturn, 1) := by decide +kernel
theorem dX9_lend_89 : decode cX9_lend 89 = .ok (.iload_n 3, 1) := by decide +kernel
theorem dX9_lend_90 : decode cX9_lend 90 = .ok (.aload_n 0, 1) := by decide +kernel
theorem dX9_lend_91 : decode cX9_lend 91 = .ok (.iload_n 1, 1) := by decide +kernel
theorem dX9_lend_92 : decode cX9_lend 92 = .ok (.invokevirtual 158, 3) := by decide +kernel
theorem dX9_lend_95 : decode cX9_lend 95 = .ok (.if_icmp .le 10, 3) := by decide +kernel
theorem dX9_lend_98 : decode cX9_lend 98 = .ok (.aload_n 0, 1) := by decide +kernel
theorem dX9_lend_99 : decode cX9_lend 99 = .ok (.bipush (-5), 2) := by decide +kernel
theorem dX9_lend_101 : decode cX9_lend 101 = .ok (.invokevirtual 122, 3) := by decide +kernel
theorem dX9_lend_104 : decode cX9_lend 104 = .ok (.ireturn, 1) := by decide +kernel
theorem dX9_lend_105 : decode cX9_lend 105 = .ok (.iload 4, 2) := by decide +kernel
theorem dX9_lend_107 : decode cX9_lend 107 = .ok (.aload_n 0, 1) := by decide +kernel
theorem dX9_lend_108 : decode cX9_lend 108 = .ok (.getfield 62, 3) := by decide +kernel
theorem dX9_lend_111 : decode cX9_lend 111 = .ok (.iload_n 1, 1) := by decide +kernel
theorem dX9_lend_112 : decode cX9_lend 112 = .ok (.iaload, 1) := by decide +kernel
theorem dX9_lend_113 : decode cX9_lend 113 = .ok (.if_icmp .gt 12, 3) := by decide +kernel
theorem dX9_lend_116 : decode cX9_lend 116 = .ok (.aload_n 0, 1) := by decide +kernel
theorem dX9_lend_117 : decode cX9_lend 117 = .ok (.getfield 148, 3) := by decide +kernel
theorem dX9_lend_120 : decode cX9_lend 120 = .ok (.bipush 60, 2) := by decide +kernel
theorem dX9_lend_122 : decode cX9_lend 122 = .ok (.if_icmp .ne 10, 3) := by decide +kernel
theorem dX9_lend_125 : decode cX9_lend 125 = .ok (.aload_n 0, 1) := by decide +kernel
theorem dX9_lend_126 : decode cX9_lend 126 = .ok (.bipush (-6), 2) := by decide +kernel
theorem dX9_lend_128 : decode cX9_lend 128 = .ok (.invokevirtual 122, 3) := by decide +kernel
theorem dX9_lend_131 : decode cX9_lend 131 = .ok (.ireturn, 1) := by decide +kernel
theorem dX9_lend_132 : decode cX9_lend 132 = .ok (.aload_n 0, 1) := by decide +kernel
theorem dX9_lend_133 : decode cX9_lend 133 = .ok (.iconst 4, 1) := by decide +kernel
theorem dX9_lend_134 : decode cX9_lend 134 = .ok (.iload_n 2, 1) := by decide +kernel
theorem dX9_lend_135 : decode cX9_lend 135 = .ok (.iload_n 3, 1) := by decide +kernel
theorem dX9_lend_136 : decode cX9_lend 136 = .ok (.iload 4, 2) := by decide +kernel
theorem dX9_lend_138 : decode cX9_lend 138 = .ok (.iload_n 1, 1) := by decide +kernel
theorem dX9_lend_139 : decode cX9_lend 139 = .ok (.iconst 0, 1) := by decide +kernel
theorem dX9_lend_140 : decode cX9_lend 140 = .ok (.invokevirtual 151, 3) := by decide +kernel
theorem dX9_lend_143 : decode cX9_lend 143 = .ok (.ireturn, 1) := by decide +kernel
theorem dX9_sell_0 : decode cX9_sell 0 = .ok (.iload_n 1, 1) := by decide +kernel
theorem dX9_sell_1 : decode cX9_sell 1 = .ok (.aload_n 0, 1) := by decide +kernel
theorem dX9_sell_2 : decode cX9_sell 2 = .ok (.getfield 148, 3) := by decide +kernel
theorem dX9_sell_5 : decode cX9_sell 5 = .ok (.invokestatic 134, 3) := by decide +kernel
theorem dX9_sell_8 : decode cX9_sell 8 = .ok (.ifCond .eq 23, 3) := by decide +kernel
theorem dX9_sell_11 : decode cX9_sell 11 = .ok (.iload_n 2, 1) := by decide +kernel
theorem dX9_sell_12 : decode cX9_sell 12 = .ok (.aload_n 0, 1) := by decide +kernel
theorem dX9_sell_13 : decode cX9_sell 13 = .ok (.getfield 131, 3) := by decide +kernel
theorem dX9_sell_16 : decode cX9_sell 16 = .ok (.invokestatic 134, 3) := by decide +kernel
theorem dX9_sell_19 : decode cX9_sell 19 = .ok (.ifCond .eq 12, 3) := by decide +kernel
theorem dX9_sell_22 : decode cX9_sell 22 = .ok (.aload_n 0, 1) := by decide +kernel
theorem dX9_sell_23 : decode cX9_sell 23 = .ok (.iload_n 1, 1) := by decide +kernel
theorem dX9_sell_24 : decode cX9_sell 24 = .ok (.invokevirtual 155, 3) := by decide +kernel
theorem dX9_sell_27 : decode cX9_sell 27 = .ok (.iload_n 2, 1) := by decide +kernel
theorem dX9_sell_28 : decode cX9_sell 28 = .ok (.if_icmp .ne 9, 3) := by decide +kernel
theorem dX9_sell_31 : decode cX9_sell 31 = .ok (.aload_n 0, 1) := by decide +kernel
theorem dX9_sell_32 : decode cX9_sell 32 = .ok (.iconst (-1), 1) := by decide +kernel
theorem dX9_sell_33 : decode cX9_sell 33 = .ok (.invokevirtual 122, 3) := by decide +kernel
theorem dX9_sell_36 : decode cX9_sell 36 = .ok (.ireturn, 1) := by decide +kernel
theorem dX9_sell_37 : decode cX9_sell 37 = .ok (.aload_n 0, 1) := by decide +kernel
theorem dX9_sell_38 : decode cX9_sell 38 = .ok (.getfield 50, 3) := by decide +kernel
theorem dX9_sell_41 : decode cX9_sell 41 = .ok (.iload_n 1, 1) := by decide +kernel
theorem dX9_sell_42 : decode cX9_sell 42 = .ok (.iaload, 1) := by decide +kernel
theorem dX9_sell_43 : decode cX9_sell 43 = .ok (.ifCond .eq 10, 3) := by decide +kernel
theorem dX9_sell_46 : decode cX9_sell 46 = .ok (.aload_n 0, 1) := by decide +kernel
theorem dX9_sell_47 : decode cX9_sell 47 = .ok (.bipush (-2), 2) := by decide +kernel
theorem dX9_sell_49 : decode cX9_sell 49 = .ok (.invokevirtual 122, 3) := by decide +kernel
theorem dX9_sell_52 : decode cX9_sell 52 = .ok (.ireturn, 1) := by decide +kernel
theorem dX9_sell_53 : decode cX9_sell 53 = .ok (.aload_n 0, 1) := by decide +kernel
theorem dX9_sell_54 : decode cX9_sell 54 = .ok (.iload_n 1, 1) := by decide +kernel
theorem dX9_sell_55 : decode cX9_sell 55 = .ok (.invokevirtual 144, 3) := by decide +kernel
theorem dX9_sell_58 : decode cX9_sell 58 = .ok (.ifCond .ne 10, 3) := by decide +kernel
theorem dX9_sell_61 : decode cX9_sell 61 = .ok (.aload_n 0, 1) := by decide +kernel
theorem dX9_sell_62 : decode cX9_sell 62 = .ok (.bipush (-3), 2) := by decide +kernel
theorem dX9_sell_64 : decode cX9_sell 64 = .ok (.invokevirtual 122, 3) := by decide +kernel
theorem dX9_sell_67 : decode cX9_sell 67 = .ok (.ireturn, 1) := by decide +kernel
theorem dX9_sell_68 : decode cX9_sell 68 = .ok (.aload_n 0, 1) := by decide +kernel
theorem dX9_sell_69 : decode cX9_sell 69 = .ok (.getfield 53, 3) := by decide +kernel
theorem dX9_sell_72 : decode cX9_sell 72 = .ok (.iload_n 1, 1) := by decide +kernel
theorem dX9_sell_73 : decode cX9_sell 73 = .ok (.iload_n 2, 1) := by decide +kernel
theorem dX9_sell_74 : decode cX9_sell 74 = .ok (.iastore, 1) := by decide +kernel
theorem dX9_sell_75 : decode cX9_sell 75 = .ok (.iconst 1, 1) := by decide +kernel
theorem dX9_sell_76 : decode cX9_sell 76 = .ok (.ireturn, 1) := by decide +kernel
theorem dX9_move_0 : decode cX9_move 0 = .ok (.iload_n 1, 1) := by decide +kernel
theorem dX9_move_1 : decode cX9_move 1 = .ok (.aload_n 0, 1) := by decide +kernel
theorem dX9_move_2 : decode cX9_move 2 = .ok (.getfield 138, 3) := by decide +kernel
theorem dX9_move_5 : decode cX9_move 5 = .ok (.invokestatic 134, 3) := by decide +kernel
theorem dX9_move_8 : decode cX9_move 8 = .ok (.ifCond .eq 24, 3) := by decide +kernel
theorem dX9_move_11 : decode cX9_move 11 = .ok (.iload_n 2, 1) := by decide +kernel
theorem dX9_move_12 : decode cX9_move 12 = .ok (.aload_n 0, 1) := by decide +kernel
theorem dX9_move_13 : decode cX9_move 13 = .ok (.getfield 131, 3) := by decide +kernel
theorem dX9_move_16 : decode cX9_move 16 = .ok (.invokestatic 134, 3) := by decide +kernel
theorem dX9_move_19 : decode cX9_move 19 = .ok (.ifCond .eq 13, 3) := by decide +kernel
theorem dX9_move_22 : decode cX9_move 22 = .ok (.aload_n 0, 1) := by decide +kernel
theorem dX9_move_23 : decode cX9_move 23 = .ok (.getfield 38, 3) := by decide +kernel
theorem dX9_move_26 : decode cX9_move 26 = .ok (.iload_n 1, 1) := by decide +kernel
theorem dX9_move_27 : decode cX9_move 27 = .ok (.iaload, 1) := by decide +kernel
theorem dX9_move_28 : decode cX9_move 28 = .ok (.iload_n 2, 1) := by decide +kernel
theorem dX9_move_29 : decode cX9_move 29 = .ok (.if_icmp .ne 9, 3) := by decide +kernel
theorem dX9_move_32 : decode cX9_move 32 = .ok (.aload_n 0, 1) := by decide +kernel
theorem dX9_move_33 : decode cX9_move 33 = .ok (.iconst (-1), 1) := by decide +kernel
theorem dX9_move_34 : decode cX9_move 34 = .ok (.invokevirtual 122, 3) := by decide +kernel
theorem dX9_move_37 : decode cX9_move 37 = .ok (.ireturn, 1) := by decide +kernel
theorem dX9_move_38 : decode cX9_move 38 = .ok (.aload_n 0, 1) := by decide +kernel
theorem dX9_move_39 : decode cX9_move 39 = .ok (.getfield 38, 3) := by decide +kernel
theorem dX9_move_42 : decode cX9_move 42 = .ok (.iload_n 1, 1) := by decide +kernel
theorem dX9_move_43 : decode cX9_move 43 = .ok (.iload_n 2, 1) := by decide +kernel
theorem dX9_move_44 : decode cX9_move 44 = .ok (.iastore, 1) := by decide +kernel
theorem dX9_move_45 : decode cX9_move 45 = .ok (.iconst 1, 1) := by decide +kernel
theorem dX9_move_46 : decode cX9_move 46 = .ok (.ireturn, 1) := by decide +kernel
theorem dX9_partsOfSort_0 : decode cX9_partsOfSort 0 = .ok (.iload_n 0, 1) := by decide +kernel
theorem dX9_partsOfSort_1 : decode cX9_partsOfSort 1 = .ok (.ifCond .ne 8, 3) := by decide +kernel
theorem dX9_partsOfSort_4 : decode cX9_partsOfSort 4 = .ok (.bipush 30, 2) := by decide +kernel
theorem dX9_partsOfSort_6 : decode cX9_partsOfSort 6 = .ok (.goto 15, 3) := by decide +kernel
theorem dX9_partsOfSort_9 : decode cX9_partsOfSort 9 = .ok (.iload_n 0, 1) := by decide +kernel
theorem dX9_partsOfSort_10 : decode cX9_partsOfSort 10 = .ok (.iconst 1, 1) := by decide +kernel
theorem dX9_partsOfSort_11 : decode cX9_partsOfSort 11 = .ok (.if_icmp .ne 8, 3) := by decide +kernel
theorem dX9_partsOfSort_14 : decode cX9_partsOfSort 14 = .ok (.bipush 45, 2) := by decide +kernel
theorem dX9_partsOfSort_16 : decode cX9_partsOfSort 16 = .ok (.goto 5, 3) := by decide +kernel
theorem dX9_partsOfSort_19 : decode cX9_partsOfSort 19 = .ok (.bipush 6, 2) := by decide +kernel
theorem dX9_partsOfSort_21 : decode cX9_partsOfSort 21 = .ok (.ireturn, 1) := by decide +kernel
theorem dX9_partsOfHerd_0 : decode cX9_partsOfHerd 0 = .ok (.aload_n 0, 1) := by decide +kernel
theorem dX9_partsOfHerd_1 : decode cX9_partsOfHerd 1 = .ok (.getfield 86, 3) := by decide +kernel
theorem dX9_partsOfHerd_4 : decode cX9_partsOfHerd 4 = .ok (.iload_n 1, 1) := by decide +kernel
theorem dX9_partsOfHerd_5 : decode cX9_partsOfHerd 5 = .ok (.iaload, 1) := by decide +kernel
theorem dX9_partsOfHerd_6 : decode cX9_partsOfHerd 6 = .ok (.aload_n 0, 1) := by decide +kernel
theorem dX9_partsOfHerd_7 : decode cX9_partsOfHerd 7 = .ok (.getfield 83, 3) := by decide +kernel
theorem dX9_partsOfHerd_10 : decode cX9_partsOfHerd 10 = .ok (.iload_n 1, 1) := by decide +kernel
theorem dX9_partsOfHerd_11 : decode cX9_partsOfHerd 11 = .ok (.iaload, 1) := by decide +kernel
theorem dX9_partsOfHerd_12 : decode cX9_partsOfHerd 12 = .ok (.invokestatic 161, 3) := by decide +kernel
theorem dX9_partsOfHerd_15 : decode cX9_partsOfHerd 15 = .ok (.imul, 1) := by decide +kernel
theorem dX9_partsOfHerd_16 : decode cX9_partsOfHerd 16 = .ok (.ireturn, 1) := by decide +kernel
theorem dX9_isOut_0 : decode cX9_isOut 0 = .ok (.aload_n 0, 1) := by decide +kernel
theorem dX9_isOut_1 : decode cX9_isOut 1 = .ok (.getfield 98, 3) := by decide +kernel
theorem dX9_isOut_4 : decode cX9_isOut 4 = .ok (.iload_n 1, 1) := by decide +kernel
theorem dX9_isOut_5 : decode cX9_isOut 5 = .ok (.iaload, 1) := by decide +kernel
theorem dX9_isOut_6 : decode cX9_isOut 6 = .ok (.ifCond .ne 16, 3) := by decide +kernel
