theorem dX9_put_69 : decode cX9_put 69 = .ok (.aload_n 0, 1) := by decide +kernel
theorem dX9_put_70 : decode cX9_put 70 = .ok (.getfield 80, 3) := by decide +kernel
theorem dX9_put_73 : decode cX9_put 73 = .ok (.iload_n 1, 1) := by decide +kernel
theorem dX9_put_74 : decode cX9_put 74 = .ok (.iaload, 1) := by decide +kernel
theorem dX9_put_75 : decode cX9_put 75 = .ok (.invokevirtual 185, 3) := by decide +kernel
theorem dX9_put_78 : decode cX9_put 78 = .ok (.ifCond .le 17, 3) := by decide +kernel
theorem dX9_put_81 : decode cX9_put 81 = .ok (.aload_n 0, 1) := by decide +kernel
theorem dX9_put_82 : decode cX9_put 82 = .ok (.getfield 89, 3) := by decide +kernel
theorem dX9_put_85 : decode cX9_put 85 = .ok (.iload_n 1, 1) := by decide +kernel
theorem dX9_put_86 : decode cX9_put 86 = .ok (.iconst (-1), 1) := by decide +kernel
theorem dX9_put_87 : decode cX9_put 87 = .ok (.iastore, 1) := by decide +kernel
theorem dX9_put_88 : decode cX9_put 88 = .ok (.aload_n 0, 1) := by decide +kernel
theorem dX9_put_89 : decode cX9_put 89 = .ok (.bipush (-5), 2) := by decide +kernel
theorem dX9_put_91 : decode cX9_put 91 = .ok (.invokevirtual 122, 3) := by decide +kernel
theorem dX9_put_94 : decode cX9_put 94 = .ok (.ireturn, 1) := by decide +kernel
theorem dX9_put_95 : decode cX9_put 95 = .ok (.aload_n 0, 1) := by decide +kernel
theorem dX9_put_96 : decode cX9_put 96 = .ok (.getfield 92, 3) := by decide +kernel
theorem dX9_put_99 : decode cX9_put 99 = .ok (.iload_n 1, 1) := by decide +kernel
theorem dX9_put_100 : decode cX9_put 100 = .ok (.aload_n 0, 1) := by decide +kernel
theorem dX9_put_101 : decode cX9_put 101 = .ok (.getfield 188, 3) := by decide +kernel
theorem dX9_put_104 : decode cX9_put 104 = .ok (.iastore, 1) := by decide +kernel
theorem dX9_put_105 : decode cX9_put 105 = .ok (.aload_n 0, 1) := by decide +kernel
theorem dX9_put_106 : decode cX9_put 106 = .ok (.dup, 1) := by decide +kernel
theorem dX9_put_107 : decode cX9_put 107 = .ok (.getfield 188, 3) := by decide +kernel
theorem dX9_put_110 : decode cX9_put 110 = .ok (.iconst 1, 1) := by decide +kernel
theorem dX9_put_111 : decode cX9_put 111 = .ok (.iadd, 1) := by decide +kernel
theorem dX9_put_112 : decode cX9_put 112 = .ok (.putfield 188, 3) := by decide +kernel
theorem dX9_put_115 : decode cX9_put 115 = .ok (.iconst 1, 1) := by decide +kernel
theorem dX9_put_116 : decode cX9_put 116 = .ok (.ireturn, 1) := by decide +kernel
theorem dX9_drive_0 : decode cX9_drive 0 = .ok (.iload_n 1, 1) := by decide +kernel
theorem dX9_drive_1 : decode cX9_drive 1 = .ok (.aload_n 0, 1) := by decide +kernel
theorem dX9_drive_2 : decode cX9_drive 2 = .ok (.getfield 164, 3) := by decide +kernel
theorem dX9_drive_5 : decode cX9_drive 5 = .ok (.invokestatic 134, 3) := by decide +kernel
theorem dX9_drive_8 : decode cX9_drive 8 = .ok (.ifCond .eq 19, 3) := by decide +kernel
theorem dX9_drive_11 : decode cX9_drive 11 = .ok (.iload_n 2, 1) := by decide +kernel
theorem dX9_drive_12 : decode cX9_drive 12 = .ok (.iconst (-1), 1) := by decide +kernel
theorem dX9_drive_13 : decode cX9_drive 13 = .ok (.if_icmp .eq 20, 3) := by decide +kernel
theorem dX9_drive_16 : decode cX9_drive 16 = .ok (.iload_n 2, 1) := by decide +kernel
theorem dX9_drive_17 : decode cX9_drive 17 = .ok (.aload_n 0, 1) := by decide +kernel
theorem dX9_drive_18 : decode cX9_drive 18 = .ok (.getfield 127, 3) := by decide +kernel
theorem dX9_drive_21 : decode cX9_drive 21 = .ok (.invokestatic 134, 3) := by decide +kernel
theorem dX9_drive_24 : decode cX9_drive 24 = .ok (.ifCond .ne 9, 3) := by decide +kernel
theorem dX9_drive_27 : decode cX9_drive 27 = .ok (.aload_n 0, 1) := by decide +kernel
theorem dX9_drive_28 : decode cX9_drive 28 = .ok (.iconst (-1), 1) := by decide +kernel
theorem dX9_drive_29 : decode cX9_drive 29 = .ok (.invokevirtual 122, 3) := by decide +kernel
theorem dX9_drive_32 : decode cX9_drive 32 = .ok (.ireturn, 1) := by decide +kernel
theorem dX9_drive_33 : decode cX9_drive 33 = .ok (.aload_n 0, 1) := by decide +kernel
theorem dX9_drive_34 : decode cX9_drive 34 = .ok (.getfield 98, 3) := by decide +kernel
theorem dX9_drive_37 : decode cX9_drive 37 = .ok (.iload_n 1, 1) := by decide +kernel
theorem dX9_drive_38 : decode cX9_drive 38 = .ok (.iaload, 1) := by decide +kernel
theorem dX9_drive_39 : decode cX9_drive 39 = .ok (.ifCond .ne 34, 3) := by decide +kernel
theorem dX9_drive_42 : decode cX9_drive 42 = .ok (.aload_n 0, 1) := by decide +kernel
theorem dX9_drive_43 : decode cX9_drive 43 = .ok (.getfield 89, 3) := by decide +kernel
theorem dX9_drive_46 : decode cX9_drive 46 = .ok (.iload_n 1, 1) := by decide +kernel
theorem dX9_drive_47 : decode cX9_drive 47 = .ok (.iaload, 1) := by decide +kernel
theorem dX9_drive_48 : decode cX9_drive 48 = .ok (.ifCond .lt 25, 3) := by decide +kernel
theorem dX9_drive_51 : decode cX9_drive 51 = .ok (.iload_n 2, 1) := by decide +kernel
theorem dX9_drive_52 : decode cX9_drive 52 = .ok (.ifCond .lt 28, 3) := by decide +kernel
theorem dX9_drive_55 : decode cX9_drive 55 = .ok (.aload_n 0, 1) := by decide +kernel
theorem dX9_drive_56 : decode cX9_drive 56 = .ok (.iload_n 2, 1) := by decide +kernel
theorem dX9_drive_57 : decode cX9_drive 57 = .ok (.invokevirtual 182, 3) := by decide +kernel
theorem dX9_drive_60 : decode cX9_drive 60 = .ok (.ifCond .ne 13, 3) := by decide +kernel
theorem dX9_drive_63 : decode cX9_drive 63 = .ok (.aload_n 0, 1) := by decide +kernel
theorem dX9_drive_64 : decode cX9_drive 64 = .ok (.getfield 89, 3) := by decide +kernel
theorem dX9_drive_67 : decode cX9_drive 67 = .ok (.iload_n 1, 1) := by decide +kernel
theorem dX9_drive_68 : decode cX9_drive 68 = .ok (.iaload, 1) := by decide +kernel
theorem dX9_drive_69 : decode cX9_drive 69 = .ok (.iload_n 2, 1) := by decide +kernel
theorem dX9_drive_70 : decode cX9_drive 70 = .ok (.if_icmp .ne 10, 3) := by decide +kernel
theorem dX9_drive_73 : decode cX9_drive 73 = .ok (.aload_n 0, 1) := by decide +kernel
theorem dX9_drive_74 : decode cX9_drive 74 = .ok (.bipush (-3), 2) := by decide +kernel
theorem dX9_drive_76 : decode cX9_drive 76 = .ok (.invokevirtual 122, 3) := by decide +kernel
theorem dX9_drive_79 : decode cX9_drive 79 = .ok (.ireturn, 1) := by decide +kernel
theorem dX9_drive_80 : decode cX9_drive 80 = .ok (.aload_n 0, 1) := by decide +kernel
theorem dX9_drive_81 : decode cX9_drive 81 = .ok (.getfield 89, 3) := by decide +kernel
theorem dX9_drive_84 : decode cX9_drive 84 = .ok (.iload_n 1, 1) := by decide +kernel
theorem dX9_drive_85 : decode cX9_drive 85 = .ok (.iaload, 1) := by decide +kernel
theorem dX9_drive_86 : decode cX9_drive 86 = .ok (.istore_n 3, 1) := by decide +kernel
theorem dX9_drive_87 : decode cX9_drive 87 = .ok (.aload_n 0, 1) := by decide +kernel
theorem dX9_drive_88 : decode cX9_drive 88 = .ok (.getfield 89, 3) := by decide +kernel
theorem dX9_drive_91 : decode cX9_drive 91 = .ok (.iload_n 1, 1) := by decide +kernel
theorem dX9_drive_92 : decode cX9_drive 92 = .ok (.iload_n 2, 1) := by decide +kernel
theorem dX9_drive_93 : decode cX9_drive 93 = .ok (.iastore, 1) := by decide +kernel
theorem dX9_drive_94 : decode cX9_drive 94 = .ok (.iload_n 2, 1) := by decide +kernel
theorem dX9_drive_95 : decode cX9_drive 95 = .ok (.ifCond .lt 23, 3) := by decide +kernel
theorem dX9_drive_98 : decode cX9_drive 98 = .ok (.aload_n 0, 1) := by decide +kernel
theorem dX9_drive_99 : decode cX9_drive 99 = .ok (.getfield 92, 3) := by decide +kernel
theorem dX9_drive_102 : decode cX9_drive 102 = .ok (.iload_n 1, 1) := by decide +kernel
theorem dX9_drive_103 : decode cX9_drive 103 = .ok (.aload_n 0, 1) := by decide +kernel
theorem dX9_drive_104 : decode cX9_drive 104 = .ok (.getfield 188, 3) := by decide +kernel
theorem dX9_drive_107 : decode cX9_drive 107 = .ok (.iastore, 1) := by decide +kernel
theorem dX9_drive_108 : decode cX9_drive 108 = .ok (.aload_n 0, 1) := by decide +kernel
theorem dX9_drive_109 : decode cX9_drive 109 = .ok (.dup, 1) := by decide +kernel
theorem dX9_drive_110 : decode cX9_drive 110 = .ok (.getfield 188, 3) := by decide +kernel
theorem dX9_drive_113 : decode cX9_drive 113 = .ok (.iconst 1, 1) := by decide +kernel
theorem dX9_drive_114 : decode cX9_drive 114 = .ok (.iadd, 1) := by decide +kernel
theorem dX9_drive_115 : decode cX9_drive 115 = .ok (.putfield 188, 3) := by decide +kernel
theorem dX9_drive_118 : decode cX9_drive 118 = .ok (.iload_n 3, 1) := by decide +kernel
theorem dX9_drive_119 : decode cX9_drive 119 = .ok (.ireturn, 1) := by decide +kernel
theorem dX9_covered_0 : decode cX9_covered 0 = .ok (.iload_n 1, 1) := by decide +kernel
theorem dX9_covered_1 : decode cX9_covered 1 = .ok (.aload_n 0, 1) := by decide +kernel
theorem dX9_covered_2 : decode cX9_covered 2 = .ok (.getfield 131, 3) := by decide +kernel
theorem dX9_covered_5 : decode cX9_covered 5 = .ok (.invokestatic 134, 3) := by decide +kernel
theorem dX9_covered_8 : decode cX9_covered 8 = .ok (.ifCond .eq 19, 3) := by decide +kernel
theorem dX9_covered_11 : decode cX9_covered 11 = .ok (.aload_n 0, 1) := by decide +kernel
theorem dX9_covered_12 : decode cX9_covered 12 = .ok (.iload_n 1, 1) := by decide +kernel
theorem dX9_covered_13 : decode cX9_covered 13 = .ok (.invokevirtual 185, 3) := by decide +kernel
theorem dX9_covered_16 : decode cX9_covered 16 = .ok (.ifCond .ne 7, 3) := by decide +kernel
theorem dX9_covered_19 : decode cX9_covered 19 = .ok (.iconst 1, 1) := by decide +kernel
theorem dX9_covered_20 : decode cX9_covered 20 = .ok (.goto 12, 3) := by decide +kernel
theorem dX9_covered_23 : decode cX9_covered 23 = .ok (.iconst 0, 1) := by decide +kernel
theorem dX9_covered_24 : decode cX9_covered 24 = .ok (.goto 8, 3) := by decide +kernel
theorem dX9_covered_27 : decode cX9_covered 27 = .ok (.aload_n 0, 1) := by decide +kernel
theorem dX9_covered_28 : decode cX9_covered 28 = .ok (.iconst (-1), 1) := by decide +kernel
theorem dX9_covered_29 : decode cX9_covered 29 = .ok (.invokevirtual 122, 3) := by decide +kernel
theorem dX9_covered_32 : decode cX9_covered 32 = .ok (.ireturn, 1) := by decide +kernel
theorem dX9_lacks_0 : decode cX9_lacks 0 = .ok (.iload_n 1, 1) := by decide +kernel
theorem dX9_lacks_1 : decode cX9_lacks 1 = .ok (.aload_n 0, 1) := by decide +kernel
theorem dX9_lacks_2 : decode cX9_lacks 2 = .ok (.getfield 131, 3) := by decide +kernel
theorem dX9_lacks_5 : decode cX9_lacks 5 = .ok (.invokestatic 134, 3) := by decide +kernel
theorem dX9_lacks_8 : decode cX9_lacks 8 = .ok (.ifCond .eq 11, 3) := by decide +kernel
theorem dX9_lacks_11 : decode cX9_lacks 11 = .ok (.aload_n 0, 1) := by decide +kernel
theorem dX9_lacks_12 : decode cX9_lacks 12 = .ok (.iload_n 1, 1) := by decide +kernel
theorem dX9_lacks_13 : decode cX9_lacks 13 = .ok (.invokevirtual 185, 3) := by decide +kernel
theorem dX9_lacks_16 : decode cX9_lacks 16 = .ok (.goto 8, 3) := by decide +kernel
theorem dX9_lacks_19 : decode cX9_lacks 19 = .ok (.aload_n 0, 1) := by decide +kernel
theorem dX9_lacks_20 : decode cX9_lacks 20 = .ok (.iconst (-1), 1) := by decide +kernel
theorem dX9_lacks_21 : decode cX9_lacks 21 = .ok (.invokevirtual 122, 3) := by decide +kernel
theorem dX9_lacks_24 : decode cX9_lacks 24 = .ok (.ireturn, 1) := by decide +kernel
theorem dX9_partsOn_0 : decode cX9_partsOn 0 = .ok (.iconst 0, 1) := by decide +kernel
theorem dX9_partsOn_1 : decode cX9_partsOn 1 = .ok (.istore_n 2, 1) := by decide +kernel
theorem dX9_partsOn_2 : decode cX9_partsOn 2 = .ok (.iconst 0, 1) := by decide +kernel
theorem dX9_partsOn_3 : decode cX9_partsOn 3 = .ok (.istore_n 3, 1) := by decide +kernel
theorem dX9_partsOn_4 : decode cX9_partsOn 4 = .ok (.iload_n 3, 1) := by decide +kernel
theorem dX9_partsOn_5 : decode cX9_partsOn 5 = .ok (.aload_n 0, 1) := by decide +kernel
theorem dX9_partsOn_6 : decode cX9_partsOn 6 = .ok (.getfield 164, 3) := by decide +kernel
theorem dX9_partsOn_9 : decode cX9_partsOn 9 = .ok (.if_icmp .ge 39, 3) := by decide +kernel
theorem dX9_partsOn_12 : decode cX9_partsOn 12 = .ok (.iload_n 2, 1) := by decide +kernel
theorem dX9_partsOn_13 : decode cX9_partsOn 13 = .ok (.aload_n 0, 1) := by decide +kernel
theorem dX9_partsOn_14 : decode cX9_partsOn 14 = .ok (.iload_n 3, 1) := by decide +kernel
theorem dX9_partsOn_15 : decode cX9_partsOn 15 = .ok (.invokevirtual 167, 3) := by decide +kernel
theorem dX9_partsOn_18 : decode cX9_partsOn 18 = .ok (.ifCond .eq 21, 3) := by decide +kernel
theorem dX9_partsOn_21 : decode cX9_partsOn 21 = .ok (.aload_n 0, 1) := by decide +kernel
theorem dX9_partsOn_22 : decode cX9_partsOn 22 = .ok (.getfield 89, 3) := by decide +kernel
theorem dX9_partsOn_25 : decode cX9_partsOn 25 = .ok (.iload_n 3, 1) := by decide +kernel
theorem dX9_partsOn_26 : decode cX9_partsOn 26 = .ok (.iaload, 1) := by decide +kernel
theorem dX9_partsOn_27 : decode cX9_partsOn 27 = .ok (.iload_n 1, 1) := by decide +kernel
theorem dX9_partsOn_28 : decode cX9_partsOn 28 = .ok (.if_icmp .ne 11, 3) := by decide +kernel
theorem dX9_partsOn_31 : decode cX9_partsOn 31 = .ok (.aload_n 0, 1) := by decide +kernel
theorem dX9_partsOn_32 : decode cX9_partsOn 32 = .ok (.iload_n 3, 1) := by decide +kernel
theorem dX9_partsOn_33 : decode cX9_partsOn 33 = .ok (.invokevirtual 170, 3) := by decide +kernel
theorem dX9_partsOn_36 : decode cX9_partsOn 36 = .ok (.goto 4, 3) := by decide +kernel
theorem dX9_partsOn_39 : decode cX9_partsOn 39 = .ok (.iconst 0, 1) := by decide +kernel
theorem dX9_partsOn_40 : decode cX9_partsOn 40 = .ok (.iadd, 1) := by decide +kernel
theorem dX9_partsOn_41 : decode cX9_partsOn 41 = .ok (.istore_n 2, 1) := by decide +kernel
theorem dX9_partsOn_42 : decode cX9_partsOn 42 = .ok (.iinc 3 1, 3) := by decide +kernel
theorem dX9_partsOn_45 : decode cX9_partsOn 45 = .ok (.goto (-41), 3) := by decide +kernel
theorem dX9_partsOn_48 : decode cX9_partsOn 48 = .ok (.iload_n 2, 1) := by decide +kernel
theorem dX9_partsOn_49 : decode cX9_partsOn 49 = .ok (.ireturn, 1) := by decide +kernel
theorem dX9_over_0 : decode cX9_over 0 = .ok (.iload_n 1, 1) := by decide +kernel
theorem dX9_over_1 : decode cX9_over 1 = .ok (.aload_n 0, 1) := by decide +kernel
theorem dX9_over_2 : decode cX9_over 2 = .ok (.getfield 127, 3) := by decide +kernel
theorem dX9_over_5 : decode cX9_over 5 = .ok (.invokestatic 134, 3) := by decide +kernel
theorem dX9_over_8 : decode cX9_over 8 = .ok (.ifCond .ne 9, 3) := by decide +kernel
theorem dX9_over_11 : decode cX9_over 11 = .ok (.aload_n 0, 1) := by decide +kernel
theorem dX9_over_12 : decode cX9_over 12 = .ok (.iconst (-1), 1) := by decide +kernel
theorem dX9_over_13 : decode cX9_over 13 = .ok (.invokevirtual 122, 3) := by decide +kernel
theorem dX9_over_16 : decode cX9_over 16 = .ok (.ireturn, 1) := by decide +kernel
theorem dX9_over_17 : decode cX9_over 17 = .ok (.aload_n 0, 1) := by decide +kernel
theorem dX9_over_18 : decode cX9_over 18 = .ok (.iload_n 1, 1) := by decide +kernel
theorem dX9_over_19 : decode cX9_over 19 = .ok (.invokevirtual 191, 3) := by decide +kernel
theorem dX9_over_22 : decode cX9_over 22 = .ok (.istore_n 3, 1) := by decide +kernel
theorem dX9_over_23 : decode cX9_over 23 = .ok (.aload_n 0, 1) := by decide +kernel
theorem dX9_over_24 : decode cX9_over 24 = .ok (.getfield 188, 3) := by decide +kernel
theorem dX9_over_27 : decode cX9_over 27 = .ok (.istore 4, 2) := by decide +kernel
theorem dX9_over_29 : decode cX9_over 29 = .ok (.iconst 0, 1) := by decide +kernel
theorem dX9_over_30 : decode cX9_over 30 = .ok (.istore 5, 2) := by decide +kernel
theorem dX9_over_32 : decode cX9_over 32 = .ok (.iload_n 3, 1) := by decide +kernel
theorem dX9_over_33 : decode cX9_over 33 = .ok (.aload_n 0, 1) := by decide +kernel
theorem dX9_over_34 : decode cX9_over 34 = .ok (.getfield 19, 3) := by decide +kernel
theorem dX9_over_37 : decode cX9_over 37 = .ok (.iload_n 1, 1) := by decide +kernel
theorem dX9_over_38 : decode cX9_over 38 = .ok (.iaload, 1) := by decide +kernel
theorem dX9_over_39 : decode cX9_over 39 = .ok (.if_icmp .le 115, 3) := by decide +kernel
theorem dX9_over_42 : decode cX9_over 42 = .ok (.iconst (-1), 1) := by decide +kernel
theorem dX9_over_43 : decode cX9_over 43 = .ok (.istore 6, 2) := by decide +kernel
theorem dX9_over_45 : decode cX9_over 45 = .ok (.iconst 0, 1) := by decide +kernel
theorem dX9_over_46 : decode cX9_over 46 = .ok (.istore 7, 2) := by decide +kernel
theorem dX9_over_48 : decode cX9_over 48 = .ok (.iload 7, 2) := by decide +kernel
theorem dX9_over_50 : decode cX9_over 50 = .ok (.aload_n 0, 1) := by decide +kernel
theorem dX9_over_51 : decode cX9_over 51 = .ok (.getfield 164, 3) := by decide +kernel
theorem dX9_over_54 : decode cX9_over 54 = .ok (.if_icmp .ge 67, 3) := by decide +kernel
theorem dX9_over_57 : decode cX9_over 57 = .ok (.aload_n 0, 1) := by decide +kernel
theorem dX9_over_58 : decode cX9_over 58 = .ok (.iload 7, 2) := by decide +kernel
theorem dX9_over_60 : decode cX9_over 60 = .ok (.invokevirtual 167, 3) := by decide +kernel
theorem dX9_over_63 : decode cX9_over 63 = .ok (.ifCond .eq 52, 3) := by decide +kernel
theorem dX9_over_66 : decode cX9_over 66 = .ok (.aload_n 0, 1) := by decide +kernel
theorem dX9_over_67 : decode cX9_over 67 = .ok (.getfield 89, 3) := by decide +kernel
theorem dX9_over_70 : decode cX9_over 70 = .ok (.iload 7, 2) := by decide +kernel
theorem dX9_over_72 : decode cX9_over 72 = .ok (.iaload, 1) := by decide +kernel
theorem dX9_over_73 : decode cX9_over 73 = .ok (.iload_n 1, 1) := by decide +kernel
theorem dX9_over_74 : decode cX9_over 74 = .ok (.if_icmp .ne 41, 3) := by decide +kernel
theorem dX9_over_77 : decode cX9_over 77 = .ok (.aload_n 0, 1) := by decide +kernel
theorem dX9_over_78 : decode cX9_over 78 = .ok (.getfield 92, 3) := by decide +kernel
theorem dX9_over_81 : decode cX9_over 81 = .ok (.iload 7, 2) := by decide +kernel
theorem dX9_over_83 : decode cX9_over 83 = .ok (.iaload, 1) := by decide +kernel
theorem dX9_over_84 : decode cX9_over 84 = .ok (.iload 4, 2) := by decide +kernel
theorem dX9_over_86 : decode cX9_over 86 = .ok (.if_icmp .ge 29, 3) := by decide +kernel
theorem dX9_over_89 : decode cX9_over 89 = .ok (.iload 6, 2) := by decide +kernel
theorem dX9_over_91 : decode cX9_over 91 = .ok (.ifCond .lt 20, 3) := by decide +kernel
theorem dX9_over_94 : decode cX9_over 94 = .ok (.aload_n 0, 1) := by decide +kernel
theorem dX9_over_95 : decode cX9_over 95 = .ok (.getfield 92, 3) := by decide +kernel
theorem dX9_over_98 : decode cX9_over 98 = .ok (.iload 7, 2) := by decide +kernel
theorem dX9_over_100 : decode cX9_over 100 = .ok (.iaload, 1) := by decide +kernel
theorem dX9_over_101 : decode cX9_over 101 = .ok (.aload_n 0, 1) := by decide +kernel
theorem dX9_over_102 : decode cX9_over 102 = .ok (.getfield 92, 3) := by decide +kernel
theorem dX9_over_105 : decode cX9_over 105 = .ok (.iload 6, 2) := by decide +kernel
theorem dX9_over_107 : decode cX9_over 107 = .ok (.iaload, 1) := by decide +kernel
theorem dX9_over_108 : decode cX9_over 108 = .ok (.if_icmp .le 7, 3) := by decide +kernel
theorem dX9_over_111 : decode cX9_over 111 = .ok (.iload 7, 2) := by decide +kernel
theorem dX9_over_113 : decode cX9_over 113 = .ok (.istore 6, 2) := by decide +kernel
theorem dX9_over_115 : decode cX9_over 115 = .ok (.iinc 7 1, 3) := by decide +kernel
theorem dX9_over_118 : decode cX9_over 118 = .ok (.goto (-70), 3) := by decide +kernel
theorem dX9_over_121 : decode cX9_over 121 = .ok (.iload 5, 2) := by decide +kernel
theorem dX9_over_123 : decode cX9_over 123 = .ok (.iload_n 2, 1) := by decide +kernel
theorem dX9_over_124 : decode cX9_over 124 = .ok (.if_icmp .ne 6, 3) := by decide +kernel
theorem dX9_over_127 : decode cX9_over 127 = .ok (.iload 6, 2) := by decide +kernel
theorem dX9_over_129 : decode cX9_over 129 = .ok (.ireturn, 1) := by decide +kernel
theorem dX9_over_130 : decode cX9_over 130 = .ok (.aload_n 0, 1) := by decide +kernel
theorem dX9_over_131 : decode cX9_over 131 = .ok (.getfield 92, 3) := by decide +kernel
theorem dX9_over_134 : decode cX9_over 134 = .ok (.iload 6, 2) := by decide +kernel
theorem dX9_over_136 : decode cX9_over 136 = .ok (.iaload, 1) := by decide +kernel
theorem dX9_over_137 : decode cX9_over 137 = .ok (.istore 4, 2) := by decide +kernel
theorem dX9_over_139 : decode cX9_over 139 = .ok (.iload_n 3, 1) := by decide +kernel
theorem dX9_over_140 : decode cX9_over 140 = .ok (.aload_n 0, 1) := by decide +kernel
theorem dX9_over_141 : decode cX9_over 141 = .ok (.iload 6, 2) := by decide +kernel
theorem dX9_over_143 : decode cX9_over 143 = .ok (.invokevirtual 170, 3) := by decide +kernel
theorem dX9_over_146 : decode cX9_over 146 = .ok (.isub, 1) := by decide +kernel
theorem dX9_over_147 : decode cX9_over 147 = .ok (.istore_n 3, 1) := by decide +kernel
theorem dX9_over_148 : decode cX9_over 148 = .ok (.iinc 5 1, 3) := by decide +kernel
theorem dX9_over_151 : decode cX9_over 151 = .ok (.goto (-119), 3) := by decide +kernel
theorem dX9_over_154 : decode cX9_over 154 = .ok (.bipush (-9), 2) := by decide +kernel
theorem dX9_over_156 : decode cX9_over 156 = .ok (.ireturn, 1) := by decide +kernel
theorem dX9_goes_0 : decode cX9_goes 0 = .ok (.iconst 0, 1) := by decide +kernel
theorem dX9_goes_1 : decode cX9_goes 1 = .ok (.istore 5, 2) := by decide +kernel
theorem dX9_goes_3 : decode cX9_goes 3 = .ok (.iload 5, 2) := by decide +kernel
theorem dX9_goes_5 : decode cX9_goes 5 = .ok (.aload_n 0, 1) := by decide +kernel
theorem dX9_goes_6 : decode cX9_goes 6 = .ok (.getfield 164, 3) := by decide +kernel
theorem dX9_goes_9 : decode cX9_goes 9 = .ok (.if_icmp .ge 17, 3) := by decide +kernel
theorem dX9_goes_12 : decode cX9_goes 12 = .ok (.aload_n 0, 1) := by decide +kernel
theorem dX9_goes_13 : decode cX9_goes 13 = .ok (.getfield 104, 3) := by decide +kernel
theorem dX9_goes_16 : decode cX9_goes 16 = .ok (.iload 5, 2) := by decide +kernel
theorem dX9_goes_18 : decode cX9_goes 18 = .ok (.iconst 0, 1) := by decide +kernel
theorem dX9_goes_19 : decode cX9_goes 19 = .ok (.iastore, 1) := by decide +kernel
theorem dX9_goes_20 : decode cX9_goes 20 = .ok (.iinc 5 1, 3) := by decide +kernel
theorem dX9_goes_23 : decode cX9_goes 23 = .ok (.goto (-20), 3) := by decide +kernel
theorem dX9_goes_26 : decode cX9_goes 26 = .ok (.aload_n 0, 1) := by decide +kernel
theorem dX9_goes_27 : decode cX9_goes 27 = .ok (.getfield 44, 3) := by decide +kernel
theorem dX9_goes_30 : decode cX9_goes 30 = .ok (.iload_n 3, 1) := by decide +kernel
theorem dX9_goes_31 : decode cX9_goes 31 = .ok (.iaload, 1) := by decide +kernel
theorem dX9_goes_32 : decode cX9_goes 32 = .ok (.istore 5, 2) := by decide +kernel
theorem dX9_goes_34 : decode cX9_goes 34 = .ok (.aload_n 0, 1) := by decide +kernel
theorem dX9_goes_35 : decode cX9_goes 35 = .ok (.getfield 41, 3) := by decide +kernel
theorem dX9_goes_38 : decode cX9_goes 38 = .ok (.bipush 10, 2) := by decide +kernel
theorem dX9_goes_40 : decode cX9_goes 40 = .ok (.iload 5, 2) := by decide +kernel
theorem dX9_goes_42 : decode cX9_goes 42 = .ok (.imul, 1) := by decide +kernel
theorem dX9_goes_43 : decode cX9_goes 43 = .ok (.aload_n 0, 1) := by decide +kernel
theorem dX9_goes_44 : decode cX9_goes 44 = .ok (.getfield 47, 3) := by decide +kernel
theorem dX9_goes_47 : decode cX9_goes 47 = .ok (.iload_n 3, 1) := by decide +kernel
theorem dX9_goes_48 : decode cX9_goes 48 = .ok (.iaload, 1) := by decide +kernel
theorem dX9_goes_49 : decode cX9_goes 49 = .ok (.iadd, 1) := by decide +kernel
theorem dX9_goes_50 : decode cX9_goes 50 = .ok (.iaload, 1) := by decide +kernel
theorem dX9_goes_51 : decode cX9_goes 51 = .ok (.istore 6, 2) := by decide +kernel
theorem dX9_goes_53 : decode cX9_goes 53 = .ok (.iconst 0, 1) := by decide +kernel
theorem dX9_goes_54 : decode cX9_goes 54 = .ok (.istore 7, 2) := by decide +kernel
theorem dX9_goes_56 : decode cX9_goes 56 = .ok (.iload 7, 2) := by decide +kernel
theorem dX9_goes_58 : decode cX9_goes 58 = .ok (.aload_n 0, 1) := by decide +kernel
theorem dX9_goes_59 : decode cX9_goes 59 = .ok (.getfield 127, 3) := by decide +kernel
theorem dX9_goes_62 : decode cX9_goes 62 = .ok (.if_icmp .ge 248, 3) := by decide +kernel
theorem dX9_goes_65 : decode cX9_goes 65 = .ok (.iconst 0, 1) := by decide +kernel
theorem dX9_goes_66 : decode cX9_goes 66 = .ok (.istore 8, 2) := by decide +kernel
theorem dX9_goes_68 : decode cX9_goes 68 = .ok (.iconst 0, 1) := by decide +kernel
theorem dX9_goes_69 : decode cX9_goes 69 = .ok (.istore 9, 2) := by decide +kernel
theorem dX9_goes_71 : decode cX9_goes 71 = .ok (.iload 9, 2) := by decide +kernel
theorem dX9_goes_73 : decode cX9_goes 73 = .ok (.aload_n 0, 1) := by decide +kernel
theorem dX9_goes_74 : decode cX9_goes 74 = .ok (.getfield 164, 3) := by decide +kernel
theorem dX9_goes_77 : decode cX9_goes 77 = .ok (.if_icmp .ge 33, 3) := by decide +kernel
theorem dX9_goes_80 : decode cX9_goes 80 = .ok (.iload 8, 2) := by decide +kernel
theorem dX9_goes_82 : decode cX9_goes 82 = .ok (.aload_n 2, 1) := by decide +kernel
theorem dX9_goes_83 : decode cX9_goes 83 = .ok (.iload 9, 2) := by decide +kernel
theorem dX9_goes_85 : decode cX9_goes 85 = .ok (.iaload, 1) := by decide +kernel
theorem dX9_goes_86 : decode cX9_goes 86 = .ok (.iload 7, 2) := by decide +kernel
theorem dX9_goes_88 : decode cX9_goes 88 = .ok (.if_icmp .ne 12, 3) := by decide +kernel
theorem dX9_goes_91 : decode cX9_goes 91 = .ok (.aload_n 0, 1) := by decide +kernel
theorem dX9_goes_92 : decode cX9_goes 92 = .ok (.iload 9, 2) := by decide +kernel
theorem dX9_goes_94 : decode cX9_goes 94 = .ok (.invokevirtual 170, 3) := by decide +kernel
theorem dX9_goes_97 : decode cX9_goes 97 = .ok (.goto 4, 3) := by decide +kernel
theorem dX9_goes_100 : decode cX9_goes 100 = .ok (.iconst 0, 1) := by decide +kernel
theorem dX9_goes_101 : decode cX9_goes 101 = .ok (.iadd, 1) := by decide +kernel
theorem dX9_goes_102 : decode cX9_goes 102 = .ok (.istore 8, 2) := by decide +kernel
theorem dX9_goes_104 : decode cX9_goes 104 = .ok (.iinc 9 1, 3) := by decide +kernel
theorem dX9_goes_107 : decode cX9_goes 107 = .ok (.goto (-36), 3) := by decide +kernel
