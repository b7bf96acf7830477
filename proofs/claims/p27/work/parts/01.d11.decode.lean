theorem dX8_reckonTurns_85 : decode cX8_reckonTurns 85 = .ok (.iconst 0, 1) := by decide +kernel
theorem dX8_reckonTurns_86 : decode cX8_reckonTurns 86 = .ok (.goto 9, 3) := by decide +kernel
theorem dX8_reckonTurns_89 : decode cX8_reckonTurns 89 = .ok (.aload_n 0, 1) := by decide +kernel
theorem dX8_reckonTurns_90 : decode cX8_reckonTurns 90 = .ok (.iload_n 1, 1) := by decide +kernel
theorem dX8_reckonTurns_91 : decode cX8_reckonTurns 91 = .ok (.iload_n 2, 1) := by decide +kernel
theorem dX8_reckonTurns_92 : decode cX8_reckonTurns 92 = .ok (.invokevirtual 377, 3) := by decide +kernel
theorem dX8_reckonTurns_95 : decode cX8_reckonTurns 95 = .ok (.iastore, 1) := by decide +kernel
theorem dX8_reckonTurns_96 : decode cX8_reckonTurns 96 = .ok (.iinc 2 1, 3) := by decide +kernel
theorem dX8_reckonTurns_99 : decode cX8_reckonTurns 99 = .ok (.goto (-39), 3) := by decide +kernel
theorem dX8_reckonTurns_102 : decode cX8_reckonTurns 102 = .ok (.iinc 1 1, 3) := by decide +kernel
theorem dX8_reckonTurns_105 : decode cX8_reckonTurns 105 = .ok (.goto (-55), 3) := by decide +kernel
theorem dX8_reckonTurns_108 : decode cX8_reckonTurns 108 = .ok (.return_, 1) := by decide +kernel
theorem dX8_hungerOfVisits_0 : decode cX8_hungerOfVisits 0 = .ok (.aload_n 0, 1) := by decide +kernel
theorem dX8_hungerOfVisits_1 : decode cX8_hungerOfVisits 1 = .ok (.getfield 11, 3) := by decide +kernel
theorem dX8_hungerOfVisits_4 : decode cX8_hungerOfVisits 4 = .ok (.iload_n 1, 1) := by decide +kernel
theorem dX8_hungerOfVisits_5 : decode cX8_hungerOfVisits 5 = .ok (.aaload, 1) := by decide +kernel
theorem dX8_hungerOfVisits_6 : decode cX8_hungerOfVisits 6 = .ok (.astore_n 3, 1) := by decide +kernel
theorem dX8_hungerOfVisits_7 : decode cX8_hungerOfVisits 7 = .ok (.aload_n 3, 1) := by decide +kernel
theorem dX8_hungerOfVisits_8 : decode cX8_hungerOfVisits 8 = .ok (.getfield 210, 3) := by decide +kernel
theorem dX8_hungerOfVisits_11 : decode cX8_hungerOfVisits 11 = .ok (.istore 4, 2) := by decide +kernel
theorem dX8_hungerOfVisits_13 : decode cX8_hungerOfVisits 13 = .ok (.iconst 0, 1) := by decide +kernel
theorem dX8_hungerOfVisits_14 : decode cX8_hungerOfVisits 14 = .ok (.istore 5, 2) := by decide +kernel
theorem dX8_hungerOfVisits_16 : decode cX8_hungerOfVisits 16 = .ok (.aload_n 0, 1) := by decide +kernel
theorem dX8_hungerOfVisits_17 : decode cX8_hungerOfVisits 17 = .ok (.getfield 91, 3) := by decide +kernel
theorem dX8_hungerOfVisits_20 : decode cX8_hungerOfVisits 20 = .ok (.istore 6, 2) := by decide +kernel
theorem dX8_hungerOfVisits_22 : decode cX8_hungerOfVisits 22 = .ok (.iconst 0, 1) := by decide +kernel
theorem dX8_hungerOfVisits_23 : decode cX8_hungerOfVisits 23 = .ok (.istore 7, 2) := by decide +kernel
theorem dX8_hungerOfVisits_25 : decode cX8_hungerOfVisits 25 = .ok (.iload 7, 2) := by decide +kernel
theorem dX8_hungerOfVisits_27 : decode cX8_hungerOfVisits 27 = .ok (.aload_n 0, 1) := by decide +kernel
theorem dX8_hungerOfVisits_28 : decode cX8_hungerOfVisits 28 = .ok (.getfield 68, 3) := by decide +kernel
theorem dX8_hungerOfVisits_31 : decode cX8_hungerOfVisits 31 = .ok (.getfield 362, 3) := by decide +kernel
theorem dX8_hungerOfVisits_34 : decode cX8_hungerOfVisits 34 = .ok (.if_icmp .ge 105, 3) := by decide +kernel
theorem dX8_hungerOfVisits_37 : decode cX8_hungerOfVisits 37 = .ok (.aload_n 0, 1) := by decide +kernel
theorem dX8_hungerOfVisits_38 : decode cX8_hungerOfVisits 38 = .ok (.iload_n 1, 1) := by decide +kernel
theorem dX8_hungerOfVisits_39 : decode cX8_hungerOfVisits 39 = .ok (.iload_n 2, 1) := by decide +kernel
theorem dX8_hungerOfVisits_40 : decode cX8_hungerOfVisits 40 = .ok (.iload 7, 2) := by decide +kernel
theorem dX8_hungerOfVisits_42 : decode cX8_hungerOfVisits 42 = .ok (.invokevirtual 380, 3) := by decide +kernel
theorem dX8_hungerOfVisits_45 : decode cX8_hungerOfVisits 45 = .ok (.iconst 0, 1) := by decide +kernel
theorem dX8_hungerOfVisits_46 : decode cX8_hungerOfVisits 46 = .ok (.istore 8, 2) := by decide +kernel
theorem dX8_hungerOfVisits_48 : decode cX8_hungerOfVisits 48 = .ok (.iload 8, 2) := by decide +kernel
theorem dX8_hungerOfVisits_50 : decode cX8_hungerOfVisits 50 = .ok (.aload_n 0, 1) := by decide +kernel
theorem dX8_hungerOfVisits_51 : decode cX8_hungerOfVisits 51 = .ok (.getfield 68, 3) := by decide +kernel
theorem dX8_hungerOfVisits_54 : decode cX8_hungerOfVisits 54 = .ok (.getfield 368, 3) := by decide +kernel
theorem dX8_hungerOfVisits_57 : decode cX8_hungerOfVisits 57 = .ok (.if_icmp .ge 76, 3) := by decide +kernel
theorem dX8_hungerOfVisits_60 : decode cX8_hungerOfVisits 60 = .ok (.iinc 6 1, 3) := by decide +kernel
theorem dX8_hungerOfVisits_63 : decode cX8_hungerOfVisits 63 = .ok (.aload_n 0, 1) := by decide +kernel
theorem dX8_hungerOfVisits_64 : decode cX8_hungerOfVisits 64 = .ok (.getfield 61, 3) := by decide +kernel
theorem dX8_hungerOfVisits_67 : decode cX8_hungerOfVisits 67 = .ok (.aload_n 3, 1) := by decide +kernel
theorem dX8_hungerOfVisits_68 : decode cX8_hungerOfVisits 68 = .ok (.iload 4, 2) := by decide +kernel
theorem dX8_hungerOfVisits_70 : decode cX8_hungerOfVisits 70 = .ok (.aload_n 0, 1) := by decide +kernel
theorem dX8_hungerOfVisits_71 : decode cX8_hungerOfVisits 71 = .ok (.getfield 47, 3) := by decide +kernel
theorem dX8_hungerOfVisits_74 : decode cX8_hungerOfVisits 74 = .ok (.iload 6, 2) := by decide +kernel
theorem dX8_hungerOfVisits_76 : decode cX8_hungerOfVisits 76 = .ok (.invokevirtual 331, 3) := by decide +kernel
theorem dX8_hungerOfVisits_79 : decode cX8_hungerOfVisits 79 = .ok (.aload_n 0, 1) := by decide +kernel
theorem dX8_hungerOfVisits_80 : decode cX8_hungerOfVisits 80 = .ok (.getfield 47, 3) := by decide +kernel
theorem dX8_hungerOfVisits_83 : decode cX8_hungerOfVisits 83 = .ok (.iload 6, 2) := by decide +kernel
theorem dX8_hungerOfVisits_85 : decode cX8_hungerOfVisits 85 = .ok (.invokevirtual 334, 3) := by decide +kernel
theorem dX8_hungerOfVisits_88 : decode cX8_hungerOfVisits 88 = .ok (.invokevirtual 337, 3) := by decide +kernel
theorem dX8_hungerOfVisits_91 : decode cX8_hungerOfVisits 91 = .ok (.istore 4, 2) := by decide +kernel
theorem dX8_hungerOfVisits_93 : decode cX8_hungerOfVisits 93 = .ok (.iload 5, 2) := by decide +kernel
theorem dX8_hungerOfVisits_95 : decode cX8_hungerOfVisits 95 = .ok (.aload_n 0, 1) := by decide +kernel
theorem dX8_hungerOfVisits_96 : decode cX8_hungerOfVisits 96 = .ok (.getfield 61, 3) := by decide +kernel
theorem dX8_hungerOfVisits_99 : decode cX8_hungerOfVisits 99 = .ok (.aload_n 0, 1) := by decide +kernel
theorem dX8_hungerOfVisits_100 : decode cX8_hungerOfVisits 100 = .ok (.getfield 68, 3) := by decide +kernel
theorem dX8_hungerOfVisits_103 : decode cX8_hungerOfVisits 103 = .ok (.getfield 383, 3) := by decide +kernel
theorem dX8_hungerOfVisits_106 : decode cX8_hungerOfVisits 106 = .ok (.invokevirtual 342, 3) := by decide +kernel
theorem dX8_hungerOfVisits_109 : decode cX8_hungerOfVisits 109 = .ok (.aload_n 0, 1) := by decide +kernel
theorem dX8_hungerOfVisits_110 : decode cX8_hungerOfVisits 110 = .ok (.getfield 61, 3) := by decide +kernel
theorem dX8_hungerOfVisits_113 : decode cX8_hungerOfVisits 113 = .ok (.aload_n 0, 1) := by decide +kernel
theorem dX8_hungerOfVisits_114 : decode cX8_hungerOfVisits 114 = .ok (.getfield 68, 3) := by decide +kernel
theorem dX8_hungerOfVisits_117 : decode cX8_hungerOfVisits 117 = .ok (.getfield 386, 3) := by decide +kernel
theorem dX8_hungerOfVisits_120 : decode cX8_hungerOfVisits 120 = .ok (.invokevirtual 342, 3) := by decide +kernel
theorem dX8_hungerOfVisits_123 : decode cX8_hungerOfVisits 123 = .ok (.iadd, 1) := by decide +kernel
theorem dX8_hungerOfVisits_124 : decode cX8_hungerOfVisits 124 = .ok (.iadd, 1) := by decide +kernel
theorem dX8_hungerOfVisits_125 : decode cX8_hungerOfVisits 125 = .ok (.istore 5, 2) := by decide +kernel
theorem dX8_hungerOfVisits_127 : decode cX8_hungerOfVisits 127 = .ok (.iinc 8 1, 3) := by decide +kernel
theorem dX8_hungerOfVisits_130 : decode cX8_hungerOfVisits 130 = .ok (.goto (-82), 3) := by decide +kernel
theorem dX8_hungerOfVisits_133 : decode cX8_hungerOfVisits 133 = .ok (.iinc 7 1, 3) := by decide +kernel
theorem dX8_hungerOfVisits_136 : decode cX8_hungerOfVisits 136 = .ok (.goto (-111), 3) := by decide +kernel
theorem dX8_hungerOfVisits_139 : decode cX8_hungerOfVisits 139 = .ok (.iload 5, 2) := by decide +kernel
theorem dX8_hungerOfVisits_141 : decode cX8_hungerOfVisits 141 = .ok (.ireturn, 1) := by decide +kernel
theorem dX8_gatherForStep_0 : decode cX8_gatherForStep 0 = .ok (.aload_n 0, 1) := by decide +kernel
theorem dX8_gatherForStep_1 : decode cX8_gatherForStep 1 = .ok (.getfield 61, 3) := by decide +kernel
theorem dX8_gatherForStep_4 : decode cX8_gatherForStep 4 = .ok (.invokevirtual 327, 3) := by decide +kernel
theorem dX8_gatherForStep_7 : decode cX8_gatherForStep 7 = .ok (.iconst 0, 1) := by decide +kernel
theorem dX8_gatherForStep_8 : decode cX8_gatherForStep 8 = .ok (.istore 4, 2) := by decide +kernel
theorem dX8_gatherForStep_10 : decode cX8_gatherForStep 10 = .ok (.iload 4, 2) := by decide +kernel
theorem dX8_gatherForStep_12 : decode cX8_gatherForStep 12 = .ok (.aload_n 0, 1) := by decide +kernel
theorem dX8_gatherForStep_13 : decode cX8_gatherForStep 13 = .ok (.getfield 88, 3) := by decide +kernel
theorem dX8_gatherForStep_16 : decode cX8_gatherForStep 16 = .ok (.if_icmp .ge 80, 3) := by decide +kernel
theorem dX8_gatherForStep_19 : decode cX8_gatherForStep 19 = .ok (.aload_n 0, 1) := by decide +kernel
theorem dX8_gatherForStep_20 : decode cX8_gatherForStep 20 = .ok (.getfield 68, 3) := by decide +kernel
theorem dX8_gatherForStep_23 : decode cX8_gatherForStep 23 = .ok (.iload 4, 2) := by decide +kernel
theorem dX8_gatherForStep_25 : decode cX8_gatherForStep 25 = .ok (.invokevirtual 389, 3) := by decide +kernel
theorem dX8_gatherForStep_28 : decode cX8_gatherForStep 28 = .ok (.ifCond .eq 17, 3) := by decide +kernel
theorem dX8_gatherForStep_31 : decode cX8_gatherForStep 31 = .ok (.aload_n 0, 1) := by decide +kernel
theorem dX8_gatherForStep_32 : decode cX8_gatherForStep 32 = .ok (.getfield 68, 3) := by decide +kernel
theorem dX8_gatherForStep_35 : decode cX8_gatherForStep 35 = .ok (.iload_n 2, 1) := by decide +kernel
theorem dX8_gatherForStep_36 : decode cX8_gatherForStep 36 = .ok (.iload_n 3, 1) := by decide +kernel
theorem dX8_gatherForStep_37 : decode cX8_gatherForStep 37 = .ok (.iload 4, 2) := by decide +kernel
theorem dX8_gatherForStep_39 : decode cX8_gatherForStep 39 = .ok (.invokevirtual 392, 3) := by decide +kernel
theorem dX8_gatherForStep_42 : decode cX8_gatherForStep 42 = .ok (.goto 22, 3) := by decide +kernel
theorem dX8_gatherForStep_45 : decode cX8_gatherForStep 45 = .ok (.aload_n 0, 1) := by decide +kernel
theorem dX8_gatherForStep_46 : decode cX8_gatherForStep 46 = .ok (.getfield 40, 3) := by decide +kernel
theorem dX8_gatherForStep_49 : decode cX8_gatherForStep 49 = .ok (.iload 4, 2) := by decide +kernel
theorem dX8_gatherForStep_51 : decode cX8_gatherForStep 51 = .ok (.aaload, 1) := by decide +kernel
theorem dX8_gatherForStep_52 : decode cX8_gatherForStep 52 = .ok (.getfield 163, 3) := by decide +kernel
theorem dX8_gatherForStep_55 : decode cX8_gatherForStep 55 = .ok (.iload_n 1, 1) := by decide +kernel
theorem dX8_gatherForStep_56 : decode cX8_gatherForStep 56 = .ok (.if_icmp .ne 7, 3) := by decide +kernel
theorem dX8_gatherForStep_59 : decode cX8_gatherForStep 59 = .ok (.iconst 1, 1) := by decide +kernel
theorem dX8_gatherForStep_60 : decode cX8_gatherForStep 60 = .ok (.goto 4, 3) := by decide +kernel
theorem dX8_gatherForStep_63 : decode cX8_gatherForStep 63 = .ok (.iconst 0, 1) := by decide +kernel
theorem dX8_gatherForStep_64 : decode cX8_gatherForStep 64 = .ok (.istore 5, 2) := by decide +kernel
theorem dX8_gatherForStep_66 : decode cX8_gatherForStep 66 = .ok (.iload 5, 2) := by decide +kernel
theorem dX8_gatherForStep_68 : decode cX8_gatherForStep 68 = .ok (.ifCond .eq 22, 3) := by decide +kernel
theorem dX8_gatherForStep_71 : decode cX8_gatherForStep 71 = .ok (.aload_n 0, 1) := by decide +kernel
theorem dX8_gatherForStep_72 : decode cX8_gatherForStep 72 = .ok (.getfield 61, 3) := by decide +kernel
theorem dX8_gatherForStep_75 : decode cX8_gatherForStep 75 = .ok (.iload 4, 2) := by decide +kernel
theorem dX8_gatherForStep_77 : decode cX8_gatherForStep 77 = .ok (.aload_n 0, 1) := by decide +kernel
theorem dX8_gatherForStep_78 : decode cX8_gatherForStep 78 = .ok (.getfield 40, 3) := by decide +kernel
theorem dX8_gatherForStep_81 : decode cX8_gatherForStep 81 = .ok (.iload 4, 2) := by decide +kernel
theorem dX8_gatherForStep_83 : decode cX8_gatherForStep 83 = .ok (.aaload, 1) := by decide +kernel
theorem dX8_gatherForStep_84 : decode cX8_gatherForStep 84 = .ok (.invokevirtual 185, 3) := by decide +kernel
theorem dX8_gatherForStep_87 : decode cX8_gatherForStep 87 = .ok (.invokevirtual 328, 3) := by decide +kernel
theorem dX8_gatherForStep_90 : decode cX8_gatherForStep 90 = .ok (.iinc 4 1, 3) := by decide +kernel
theorem dX8_gatherForStep_93 : decode cX8_gatherForStep 93 = .ok (.goto (-83), 3) := by decide +kernel
theorem dX8_gatherForStep_96 : decode cX8_gatherForStep 96 = .ok (.return_, 1) := by decide +kernel
theorem dX9_init_0 : decode cX9_init 0 = .ok (.aload_n 0, 1) := by decide +kernel
theorem dX9_init_1 : decode cX9_init 1 = .ok (.invokespecial 1, 3) := by decide +kernel
theorem dX9_init_4 : decode cX9_init 4 = .ok (.aload_n 0, 1) := by decide +kernel
theorem dX9_init_5 : decode cX9_init 5 = .ok (.bipush 7, 2) := by decide +kernel
theorem dX9_init_7 : decode cX9_init 7 = .ok (.newarray .int, 2) := by decide +kernel
theorem dX9_init_9 : decode cX9_init 9 = .ok (.putfield 7, 3) := by decide +kernel
theorem dX9_init_12 : decode cX9_init 12 = .ok (.aload_n 0, 1) := by decide +kernel
theorem dX9_init_13 : decode cX9_init 13 = .ok (.bipush 6, 2) := by decide +kernel
theorem dX9_init_15 : decode cX9_init 15 = .ok (.newarray .int, 2) := by decide +kernel
theorem dX9_init_17 : decode cX9_init 17 = .ok (.putfield 13, 3) := by decide +kernel
theorem dX9_init_20 : decode cX9_init 20 = .ok (.aload_n 0, 1) := by decide +kernel
theorem dX9_init_21 : decode cX9_init 21 = .ok (.bipush 6, 2) := by decide +kernel
theorem dX9_init_23 : decode cX9_init 23 = .ok (.newarray .int, 2) := by decide +kernel
theorem dX9_init_25 : decode cX9_init 25 = .ok (.putfield 16, 3) := by decide +kernel
theorem dX9_init_28 : decode cX9_init 28 = .ok (.aload_n 0, 1) := by decide +kernel
theorem dX9_init_29 : decode cX9_init 29 = .ok (.bipush 6, 2) := by decide +kernel
theorem dX9_init_31 : decode cX9_init 31 = .ok (.newarray .int, 2) := by decide +kernel
theorem dX9_init_33 : decode cX9_init 33 = .ok (.putfield 19, 3) := by decide +kernel
theorem dX9_init_36 : decode cX9_init 36 = .ok (.aload_n 0, 1) := by decide +kernel
theorem dX9_init_37 : decode cX9_init 37 = .ok (.bipush 6, 2) := by decide +kernel
theorem dX9_init_39 : decode cX9_init 39 = .ok (.newarray .int, 2) := by decide +kernel
theorem dX9_init_41 : decode cX9_init 41 = .ok (.putfield 22, 3) := by decide +kernel
theorem dX9_init_44 : decode cX9_init 44 = .ok (.aload_n 0, 1) := by decide +kernel
theorem dX9_init_45 : decode cX9_init 45 = .ok (.bipush 6, 2) := by decide +kernel
theorem dX9_init_47 : decode cX9_init 47 = .ok (.newarray .int, 2) := by decide +kernel
theorem dX9_init_49 : decode cX9_init 49 = .ok (.putfield 25, 3) := by decide +kernel
theorem dX9_init_52 : decode cX9_init 52 = .ok (.aload_n 0, 1) := by decide +kernel
theorem dX9_init_53 : decode cX9_init 53 = .ok (.bipush 6, 2) := by decide +kernel
theorem dX9_init_55 : decode cX9_init 55 = .ok (.newarray .boolean, 2) := by decide +kernel
theorem dX9_init_57 : decode cX9_init 57 = .ok (.putfield 28, 3) := by decide +kernel
theorem dX9_init_60 : decode cX9_init 60 = .ok (.aload_n 0, 1) := by decide +kernel
theorem dX9_init_61 : decode cX9_init 61 = .ok (.bipush 10, 2) := by decide +kernel
theorem dX9_init_63 : decode cX9_init 63 = .ok (.newarray .int, 2) := by decide +kernel
theorem dX9_init_65 : decode cX9_init 65 = .ok (.putfield 32, 3) := by decide +kernel
theorem dX9_init_68 : decode cX9_init 68 = .ok (.aload_n 0, 1) := by decide +kernel
theorem dX9_init_69 : decode cX9_init 69 = .ok (.bipush 10, 2) := by decide +kernel
theorem dX9_init_71 : decode cX9_init 71 = .ok (.newarray .int, 2) := by decide +kernel
theorem dX9_init_73 : decode cX9_init 73 = .ok (.putfield 35, 3) := by decide +kernel
theorem dX9_init_76 : decode cX9_init 76 = .ok (.aload_n 0, 1) := by decide +kernel
theorem dX9_init_77 : decode cX9_init 77 = .ok (.bipush 10, 2) := by decide +kernel
theorem dX9_init_79 : decode cX9_init 79 = .ok (.newarray .int, 2) := by decide +kernel
theorem dX9_init_81 : decode cX9_init 81 = .ok (.putfield 38, 3) := by decide +kernel
theorem dX9_init_84 : decode cX9_init 84 = .ok (.aload_n 0, 1) := by decide +kernel
theorem dX9_init_85 : decode cX9_init 85 = .ok (.bipush 100, 2) := by decide +kernel
theorem dX9_init_87 : decode cX9_init 87 = .ok (.newarray .int, 2) := by decide +kernel
theorem dX9_init_89 : decode cX9_init 89 = .ok (.putfield 41, 3) := by decide +kernel
theorem dX9_init_92 : decode cX9_init 92 = .ok (.aload_n 0, 1) := by decide +kernel
theorem dX9_init_93 : decode cX9_init 93 = .ok (.sipush 721, 3) := by decide +kernel
theorem dX9_init_96 : decode cX9_init 96 = .ok (.newarray .int, 2) := by decide +kernel
theorem dX9_init_98 : decode cX9_init 98 = .ok (.putfield 44, 3) := by decide +kernel
theorem dX9_init_101 : decode cX9_init 101 = .ok (.aload_n 0, 1) := by decide +kernel
theorem dX9_init_102 : decode cX9_init 102 = .ok (.sipush 721, 3) := by decide +kernel
theorem dX9_init_105 : decode cX9_init 105 = .ok (.newarray .int, 2) := by decide +kernel
theorem dX9_init_107 : decode cX9_init 107 = .ok (.putfield 47, 3) := by decide +kernel
theorem dX9_init_110 : decode cX9_init 110 = .ok (.aload_n 0, 1) := by decide +kernel
theorem dX9_init_111 : decode cX9_init 111 = .ok (.bipush 60, 2) := by decide +kernel
theorem dX9_init_113 : decode cX9_init 113 = .ok (.newarray .int, 2) := by decide +kernel
theorem dX9_init_115 : decode cX9_init 115 = .ok (.putfield 50, 3) := by decide +kernel
theorem dX9_init_118 : decode cX9_init 118 = .ok (.aload_n 0, 1) := by decide +kernel
theorem dX9_init_119 : decode cX9_init 119 = .ok (.bipush 60, 2) := by decide +kernel
theorem dX9_init_121 : decode cX9_init 121 = .ok (.newarray .int, 2) := by decide +kernel
theorem dX9_init_123 : decode cX9_init 123 = .ok (.putfield 53, 3) := by decide +kernel
theorem dX9_init_126 : decode cX9_init 126 = .ok (.aload_n 0, 1) := by decide +kernel
theorem dX9_init_127 : decode cX9_init 127 = .ok (.bipush 60, 2) := by decide +kernel
theorem dX9_init_129 : decode cX9_init 129 = .ok (.newarray .int, 2) := by decide +kernel
theorem dX9_init_131 : decode cX9_init 131 = .ok (.putfield 56, 3) := by decide +kernel
theorem dX9_init_134 : decode cX9_init 134 = .ok (.aload_n 0, 1) := by decide +kernel
theorem dX9_init_135 : decode cX9_init 135 = .ok (.bipush 60, 2) := by decide +kernel
theorem dX9_init_137 : decode cX9_init 137 = .ok (.newarray .int, 2) := by decide +kernel
theorem dX9_init_139 : decode cX9_init 139 = .ok (.putfield 59, 3) := by decide +kernel
theorem dX9_init_142 : decode cX9_init 142 = .ok (.aload_n 0, 1) := by decide +kernel
theorem dX9_init_143 : decode cX9_init 143 = .ok (.bipush 60, 2) := by decide +kernel
theorem dX9_init_145 : decode cX9_init 145 = .ok (.newarray .int, 2) := by decide +kernel
theorem dX9_init_147 : decode cX9_init 147 = .ok (.putfield 62, 3) := by decide +kernel
theorem dX9_init_150 : decode cX9_init 150 = .ok (.aload_n 0, 1) := by decide +kernel
theorem dX9_init_151 : decode cX9_init 151 = .ok (.bipush 60, 2) := by decide +kernel
theorem dX9_init_153 : decode cX9_init 153 = .ok (.newarray .int, 2) := by decide +kernel
theorem dX9_init_155 : decode cX9_init 155 = .ok (.putfield 65, 3) := by decide +kernel
theorem dX9_init_158 : decode cX9_init 158 = .ok (.aload_n 0, 1) := by decide +kernel
theorem dX9_init_159 : decode cX9_init 159 = .ok (.bipush 60, 2) := by decide +kernel
theorem dX9_init_161 : decode cX9_init 161 = .ok (.newarray .int, 2) := by decide +kernel
theorem dX9_init_163 : decode cX9_init 163 = .ok (.putfield 68, 3) := by decide +kernel
theorem dX9_init_166 : decode cX9_init 166 = .ok (.aload_n 0, 1) := by decide +kernel
theorem dX9_init_167 : decode cX9_init 167 = .ok (.bipush 60, 2) := by decide +kernel
theorem dX9_init_169 : decode cX9_init 169 = .ok (.newarray .int, 2) := by decide +kernel
theorem dX9_init_171 : decode cX9_init 171 = .ok (.putfield 71, 3) := by decide +kernel
theorem dX9_init_174 : decode cX9_init 174 = .ok (.aload_n 0, 1) := by decide +kernel
theorem dX9_init_175 : decode cX9_init 175 = .ok (.bipush 60, 2) := by decide +kernel
theorem dX9_init_177 : decode cX9_init 177 = .ok (.newarray .boolean, 2) := by decide +kernel
theorem dX9_init_179 : decode cX9_init 179 = .ok (.putfield 74, 3) := by decide +kernel
theorem dX9_init_182 : decode cX9_init 182 = .ok (.aload_n 0, 1) := by decide +kernel
theorem dX9_init_183 : decode cX9_init 183 = .ok (.bipush 60, 2) := by decide +kernel
theorem dX9_init_185 : decode cX9_init 185 = .ok (.newarray .boolean, 2) := by decide +kernel
theorem dX9_init_187 : decode cX9_init 187 = .ok (.putfield 77, 3) := by decide +kernel
theorem dX9_init_190 : decode cX9_init 190 = .ok (.aload_n 0, 1) := by decide +kernel
theorem dX9_init_191 : decode cX9_init 191 = .ok (.bipush 20, 2) := by decide +kernel
theorem dX9_init_193 : decode cX9_init 193 = .ok (.newarray .int, 2) := by decide +kernel
theorem dX9_init_195 : decode cX9_init 195 = .ok (.putfield 80, 3) := by decide +kernel
theorem dX9_init_198 : decode cX9_init 198 = .ok (.aload_n 0, 1) := by decide +kernel
theorem dX9_init_199 : decode cX9_init 199 = .ok (.bipush 20, 2) := by decide +kernel
theorem dX9_init_201 : decode cX9_init 201 = .ok (.newarray .int, 2) := by decide +kernel
theorem dX9_init_203 : decode cX9_init 203 = .ok (.putfield 83, 3) := by decide +kernel
theorem dX9_init_206 : decode cX9_init 206 = .ok (.aload_n 0, 1) := by decide +kernel
theorem dX9_init_207 : decode cX9_init 207 = .ok (.bipush 20, 2) := by decide +kernel
theorem dX9_init_209 : decode cX9_init 209 = .ok (.newarray .int, 2) := by decide +kernel
theorem dX9_init_211 : decode cX9_init 211 = .ok (.putfield 86, 3) := by decide +kernel
theorem dX9_init_214 : decode cX9_init 214 = .ok (.aload_n 0, 1) := by decide +kernel
theorem dX9_init_215 : decode cX9_init 215 = .ok (.bipush 20, 2) := by decide +kernel
theorem dX9_init_217 : decode cX9_init 217 = .ok (.newarray .int, 2) := by decide +kernel
theorem dX9_init_219 : decode cX9_init 219 = .ok (.putfield 89, 3) := by decide +kernel
theorem dX9_init_222 : decode cX9_init 222 = .ok (.aload_n 0, 1) := by decide +kernel
theorem dX9_init_223 : decode cX9_init 223 = .ok (.bipush 20, 2) := by decide +kernel
theorem dX9_init_225 : decode cX9_init 225 = .ok (.newarray .int, 2) := by decide +kernel
theorem dX9_init_227 : decode cX9_init 227 = .ok (.putfield 92, 3) := by decide +kernel
theorem dX9_init_230 : decode cX9_init 230 = .ok (.aload_n 0, 1) := by decide +kernel
theorem dX9_init_231 : decode cX9_init 231 = .ok (.bipush 20, 2) := by decide +kernel
theorem dX9_init_233 : decode cX9_init 233 = .ok (.newarray .int, 2) := by decide +kernel
theorem dX9_init_235 : decode cX9_init 235 = .ok (.putfield 95, 3) := by decide +kernel
theorem dX9_init_238 : decode cX9_init 238 = .ok (.aload_n 0, 1) := by decide +kernel
theorem dX9_init_239 : decode cX9_init 239 = .ok (.bipush 20, 2) := by decide +kernel
theorem dX9_init_241 : decode cX9_init 241 = .ok (.newarray .int, 2) := by decide +kernel
theorem dX9_init_243 : decode cX9_init 243 = .ok (.putfield 98, 3) := by decide +kernel
theorem dX9_init_246 : decode cX9_init 246 = .ok (.aload_n 0, 1) := by decide +kernel
theorem dX9_init_247 : decode cX9_init 247 = .ok (.bipush 20, 2) := by decide +kernel
theorem dX9_init_249 : decode cX9_init 249 = .ok (.newarray .int, 2) := by decide +kernel
theorem dX9_init_251 : decode cX9_init 251 = .ok (.putfield 101, 3) := by decide +kernel
theorem dX9_init_254 : decode cX9_init 254 = .ok (.aload_n 0, 1) := by decide +kernel
theorem dX9_init_255 : decode cX9_init 255 = .ok (.bipush 20, 2) := by decide +kernel
theorem dX9_init_257 : decode cX9_init 257 = .ok (.newarray .int, 2) := by decide +kernel
theorem dX9_init_259 : decode cX9_init 259 = .ok (.putfield 104, 3) := by decide +kernel
theorem dX9_init_262 : decode cX9_init 262 = .ok (.aload_n 0, 1) := by decide +kernel
theorem dX9_init_263 : decode cX9_init 263 = .ok (.bipush 6, 2) := by decide +kernel
theorem dX9_init_265 : decode cX9_init 265 = .ok (.newarray .int, 2) := by decide +kernel
theorem dX9_init_267 : decode cX9_init 267 = .ok (.putfield 107, 3) := by decide +kernel
theorem dX9_init_270 : decode cX9_init 270 = .ok (.aload_n 0, 1) := by decide +kernel
theorem dX9_init_271 : decode cX9_init 271 = .ok (.bipush 20, 2) := by decide +kernel
theorem dX9_init_273 : decode cX9_init 273 = .ok (.newarray .int, 2) := by decide +kernel
theorem dX9_init_275 : decode cX9_init 275 = .ok (.putfield 110, 3) := by decide +kernel
theorem dX9_init_278 : decode cX9_init 278 = .ok (.aload_n 0, 1) := by decide +kernel
theorem dX9_init_279 : decode cX9_init 279 = .ok (.bipush 6, 2) := by decide +kernel
theorem dX9_init_281 : decode cX9_init 281 = .ok (.newarray .int, 2) := by decide +kernel
theorem dX9_init_283 : decode cX9_init 283 = .ok (.putfield 113, 3) := by decide +kernel
theorem dX9_init_286 : decode cX9_init 286 = .ok (.aload_n 0, 1) := by decide +kernel
theorem dX9_init_287 : decode cX9_init 287 = .ok (.bipush 8, 2) := by decide +kernel
theorem dX9_init_289 : decode cX9_init 289 = .ok (.newarray .int, 2) := by decide +kernel
theorem dX9_init_291 : decode cX9_init 291 = .ok (.putfield 116, 3) := by decide +kernel
theorem dX9_init_294 : decode cX9_init 294 = .ok (.aload_n 0, 1) := by decide +kernel
theorem dX9_init_295 : decode cX9_init 295 = .ok (.bipush 8, 2) := by decide +kernel
theorem dX9_init_297 : decode cX9_init 297 = .ok (.newarray .int, 2) := by decide +kernel
theorem dX9_init_299 : decode cX9_init 299 = .ok (.putfield 119, 3) := by decide +kernel
theorem dX9_init_302 : decode cX9_init 302 = .ok (.return_, 1) := by decide +kernel
theorem dX9_refuse_0 : decode cX9_refuse 0 = .ok (.aload_n 0, 1) := by decide +kernel
theorem dX9_refuse_1 : decode cX9_refuse 1 = .ok (.getfield 7, 3) := by decide +kernel
theorem dX9_refuse_4 : decode cX9_refuse 4 = .ok (.iload_n 1, 1) := by decide +kernel
theorem dX9_refuse_5 : decode cX9_refuse 5 = .ok (.ineg, 1) := by decide +kernel
theorem dX9_refuse_6 : decode cX9_refuse 6 = .ok (.dup2, 1) := by decide +kernel
theorem dX9_refuse_7 : decode cX9_refuse 7 = .ok (.iaload, 1) := by decide +kernel
theorem dX9_refuse_8 : decode cX9_refuse 8 = .ok (.iconst 1, 1) := by decide +kernel
theorem dX9_refuse_9 : decode cX9_refuse 9 = .ok (.iadd, 1) := by decide +kernel
theorem dX9_refuse_10 : decode cX9_refuse 10 = .ok (.iastore, 1) := by decide +kernel
theorem dX9_refuse_11 : decode cX9_refuse 11 = .ok (.iload_n 1, 1) := by decide +kernel
theorem dX9_refuse_12 : decode cX9_refuse 12 = .ok (.ireturn, 1) := by decide +kernel
theorem dX9_isIn_0 : decode cX9_isIn 0 = .ok (.iload_n 0, 1) := by decide +kernel
theorem dX9_isIn_1 : decode cX9_isIn 1 = .ok (.ifCond .lt 12, 3) := by decide +kernel
theorem dX9_isIn_4 : decode cX9_isIn 4 = .ok (.iload_n 0, 1) := by decide +kernel
theorem dX9_isIn_5 : decode cX9_isIn 5 = .ok (.iload_n 1, 1) := by decide +kernel
theorem dX9_isIn_6 : decode cX9_isIn 6 = .ok (.if_icmp .ge 7, 3) := by decide +kernel
theorem dX9_isIn_9 : decode cX9_isIn 9 = .ok (.iconst 1, 1) := by decide +kernel
theorem dX9_isIn_10 : decode cX9_isIn 10 = .ok (.goto 4, 3) := by decide +kernel
theorem dX9_isIn_13 : decode cX9_isIn 13 = .ok (.iconst 0, 1) := by decide +kernel
theorem dX9_isIn_14 : decode cX9_isIn 14 = .ok (.ireturn, 1) := by decide +kernel
theorem dX9_piece_0 : decode cX9_piece 0 = .ok (.iload_n 1, 1) := by decide +kernel
theorem dX9_piece_1 : decode cX9_piece 1 = .ok (.ifCond .lt 12, 3) := by decide +kernel
