theorem dX9_drive_88 : decode cX9_drive 88 = .ok (.getfield 89, 3) := by decide +kernel
theorem dX9_drive_91 : decode cX9_drive 91 = .ok (.iload_n 1, 1) := by decide +kernel
theorem dX9_drive_92 : decode cX9_drive 92 = .ok (.iload_n 2, 1) := by decide +kernel
theorem dX9_drive_93 : decode cX9_drive 93 = .ok (.iastore, 1) := by decide +kernel
theorem dX9_drive_94 : decode cX9_drive 94 = .ok (.iload_n 2, 1) := by decide +kernel
theorem dX9_drive_95 : decode cX9_drive 95 = .ok (.ifCond .lt 23, 3) := by decide +kernel
theorem dX9_drive_98 : decode cX9_drive 98 = .ok (.aload_n 0, 1) := by decide +kernel
theorem dX9_drive_99 : decode cX9_drive 99 = .ok (.getfield 92, 3) := by decide +kernel
theorem dX9_drive_102 : decode cX9_drive 102 = .ok (.iload_n 1, 1) := by decide +kernel
theorem dX9_drive_103 : decode cX9_drive 103 = .ok (.aload_n 0, 1) := by decide +kernel
theorem dX9_drive_104 : decode cX9_drive 104 = .ok (.getfield 188, 3) := by decide +kernel
theorem dX9_drive_107 : decode cX9_drive 107 = .ok (.iastore, 1) := by decide +kernel
theorem dX9_drive_108 : decode cX9_drive 108 = .ok (.aload_n 0, 1) := by decide +kernel
theorem dX9_drive_109 : decode cX9_drive 109 = .ok (.dup, 1) := by decide +kernel
theorem dX9_drive_110 : decode cX9_drive 110 = .ok (.getfield 188, 3) := by decide +kernel
theorem dX9_drive_113 : decode cX9_drive 113 = .ok (.iconst 1, 1) := by decide +kernel
theorem dX9_drive_114 : decode cX9_drive 114 = .ok (.iadd, 1) := by decide +kernel
theorem dX9_drive_115 : decode cX9_drive 115 = .ok (.putfield 188, 3) := by decide +kernel
theorem dX9_drive_118 : decode cX9_drive 118 = .ok (.iload_n 3, 1) := by decide +kernel
theorem dX9_drive_119 : decode cX9_drive 119 = .ok (.ireturn, 1) := by decide +kernel
theorem dX9_covered_0 : decode cX9_covered 0 = .ok (.iload_n 1, 1) := by decide +kernel
theorem dX9_covered_1 : decode cX9_covered 1 = .ok (.aload_n 0, 1) := by decide +kernel
theorem dX9_covered_2 : decode cX9_covered 2 = .ok (.getfield 131, 3) := by decide +kernel
theorem dX9_covered_5 : decode cX9_covered 5 = .ok (.invokestatic 134, 3) := by decide +kernel
theorem dX9_covered_8 : decode cX9_covered 8 = .ok (.ifCond .eq 19, 3) := by decide +kernel
theorem dX9_covered_11 : decode cX9_covered 11 = .ok (.aload_n 0, 1) := by decide +kernel
theorem dX9_covered_12 : decode cX9_covered 12 = .ok (.iload_n 1, 1) := by decide +kernel
theorem dX9_covered_13 : decode cX9_covered 13 = .ok (.invokevirtual 185, 3) := by decide +kernel
theorem dX9_covered_16 : decode cX9_covered 16 = .ok (.ifCond .ne 7, 3) := by decide +kernel
theorem dX9_covered_19 : decode cX9_covered 19 = .ok (.iconst 1, 1) := by decide +kernel
theorem dX9_covered_20 : decode cX9_covered 20 = .ok (.goto 12, 3) := by decide +kernel
theorem dX9_covered_23 : decode cX9_covered 23 = .ok (.iconst 0, 1) := by decide +kernel
theorem dX9_covered_24 : decode cX9_covered 24 = .ok (.goto 8, 3) := by decide +kernel
theorem dX9_covered_27 : decode cX9_covered 27 = .ok (.aload_n 0, 1) := by decide +kernel
theorem dX9_covered_28 : decode cX9_covered 28 = .ok (.iconst (-1), 1) := by decide +kernel
theorem dX9_covered_29 : decode cX9_covered 29 = .ok (.invokevirtual 122, 3) := by decide +kernel
theorem dX9_covered_32 : decode cX9_covered 32 = .ok (.ireturn, 1) := by decide +kernel
theorem dX9_lacks_0 : decode cX9_lacks 0 = .ok (.iload_n 1, 1) := by decide +kernel
theorem dX9_lacks_1 : decode cX9_lacks 1 = .ok (.aload_n 0, 1) := by decide +kernel
theorem dX9_lacks_2 : decode cX9_lacks 2 = .ok (.getfield 131, 3) := by decide +kernel
theorem dX9_lacks_5 : decode cX9_lacks 5 = .ok (.invokestatic 134, 3) := by decide +kernel
theorem dX9_lacks_8 : decode cX9_lacks 8 = .ok (.ifCond .eq 11, 3) := by decide +kernel
theorem dX9_lacks_11 : decode cX9_lacks 11 = .ok (.aload_n 0, 1) := by decide +kernel
theorem dX9_lacks_12 : decode cX9_lacks 12 = .ok (.iload_n 1, 1) := by decide +kernel
theorem dX9_lacks_13 : decode cX9_lacks 13 = .ok (.invokevirtual 185, 3) := by decide +kernel
theorem dX9_lacks_16 : decode cX9_lacks 16 = .ok (.goto 8, 3) := by decide +kernel
theorem dX9_lacks_19 : decode cX9_lacks 19 = .ok (.aload_n 0, 1) := by decide +kernel
theorem dX9_lacks_20 : decode cX9_lacks 20 = .ok (.iconst (-1), 1) := by decide +kernel
theorem dX9_lacks_21 : decode cX9_lacks 21 = .ok (.invokevirtual 122, 3) := by decide +kernel
theorem dX9_lacks_24 : decode cX9_lacks 24 = .ok (.ireturn, 1) := by decide +kernel
theorem dX9_partsOn_0 : decode cX9_partsOn 0 = .ok (.iconst 0, 1) := by decide +kernel
theorem dX9_partsOn_1 : decode cX9_partsOn 1 = .ok (.istore_n 2, 1) := by decide +kernel
theorem dX9_partsOn_2 : decode cX9_partsOn 2 = .ok (.iconst 0, 1) := by decide +kernel
theorem dX9_partsOn_3 : decode cX9_partsOn 3 = .ok (.istore_n 3, 1) := by decide +kernel
theorem dX9_partsOn_4 : decode cX9_partsOn 4 = .ok (.iload_n 3, 1) := by decide +kernel
theorem dX9_partsOn_5 : decode cX9_partsOn 5 = .ok (.aload_n 0, 1) := by decide +kernel
theorem dX9_partsOn_6 : decode cX9_partsOn 6 = .ok (.getfield 164, 3) := by decide +kernel
theorem dX9_partsOn_9 : decode cX9_partsOn 9 = .ok (.if_icmp .ge 39, 3) := by decide +kernel
theorem dX9_partsOn_12 : decode cX9_partsOn 12 = .ok (.iload_n 2, 1) := by decide +kernel
theorem dX9_partsOn_13 : decode cX9_partsOn 13 = .ok (.aload_n 0, 1) := by decide +kernel
theorem dX9_partsOn_14 : decode cX9_partsOn 14 = .ok (.iload_n 3, 1) := by decide +kernel
theorem dX9_partsOn_15 : decode cX9_partsOn 15 = .ok (.invokevirtual 167, 3) := by decide +kernel
theorem dX9_partsOn_18 : decode cX9_partsOn 18 = .ok (.ifCond .eq 21, 3) := by decide +kernel
theorem dX9_partsOn_21 : decode cX9_partsOn 21 = .ok (.aload_n 0, 1) := by decide +kernel
theorem dX9_partsOn_22 : decode cX9_partsOn 22 = .ok (.getfield 89, 3) := by decide +kernel
theorem dX9_partsOn_25 : decode cX9_partsOn 25 = .ok (.iload_n 3, 1) := by decide +kernel
theorem dX9_partsOn_26 : decode cX9_partsOn 26 = .ok (.iaload, 1) := by decide +kernel
theorem dX9_partsOn_27 : decode cX9_partsOn 27 = .ok (.iload_n 1, 1) := by decide +kernel
theorem dX9_partsOn_28 : decode cX9_partsOn 28 = .ok (.if_icmp .ne 11, 3) := by decide +kernel
theorem dX9_partsOn_31 : decode cX9_partsOn 31 = .ok (.aload_n 0, 1) := by decide +kernel
theorem dX9_partsOn_32 : decode cX9_partsOn 32 = .ok (.iload_n 3, 1) := by decide +kernel
theorem dX9_partsOn_33 : decode cX9_partsOn 33 = .ok (.invokevirtual 170, 3) := by decide +kernel
theorem dX9_partsOn_36 : decode cX9_partsOn 36 = .ok (.goto 4, 3) := by decide +kernel
theorem dX9_partsOn_39 : decode cX9_partsOn 39 = .ok (.iconst 0, 1) := by decide +kernel
theorem dX9_partsOn_40 : decode cX9_partsOn 40 = .ok (.iadd, 1) := by decide +kernel
theorem dX9_partsOn_41 : decode cX9_partsOn 41 = .ok (.istore_n 2, 1) := by decide +kernel
theorem dX9_partsOn_42 : decode cX9_partsOn 42 = .ok (.iinc 3 1, 3) := by decide +kernel
theorem dX9_partsOn_45 : decode cX9_partsOn 45 = .ok (.goto (-41), 3) := by decide +kernel
theorem dX9_partsOn_48 : decode cX9_partsOn 48 = .ok (.iload_n 2, 1) := by decide +kernel
theorem dX9_partsOn_49 : decode cX9_partsOn 49 = .ok (.ireturn, 1) := by decide +kernel
theorem dX9_places_0 : decode cX9_places 0 = .ok (.iconst 0, 1) := by decide +kernel
theorem dX9_places_1 : decode cX9_places 1 = .ok (.istore_n 1, 1) := by decide +kernel
theorem dX9_places_2 : decode cX9_places 2 = .ok (.iload_n 1, 1) := by decide +kernel
theorem dX9_places_3 : decode cX9_places 3 = .ok (.bipush 20, 2) := by decide +kernel
theorem dX9_places_5 : decode cX9_places 5 = .ok (.if_icmp .ge 41, 3) := by decide +kernel
theorem dX9_places_8 : decode cX9_places 8 = .ok (.aload_n 0, 1) := by decide +kernel
theorem dX9_places_9 : decode cX9_places 9 = .ok (.getfield 110, 3) := by decide +kernel
theorem dX9_places_12 : decode cX9_places 12 = .ok (.iload_n 1, 1) := by decide +kernel
theorem dX9_places_13 : decode cX9_places 13 = .ok (.iload_n 1, 1) := by decide +kernel
theorem dX9_places_14 : decode cX9_places 14 = .ok (.aload_n 0, 1) := by decide +kernel
theorem dX9_places_15 : decode cX9_places 15 = .ok (.getfield 164, 3) := by decide +kernel
theorem dX9_places_18 : decode cX9_places 18 = .ok (.if_icmp .ge 20, 3) := by decide +kernel
theorem dX9_places_21 : decode cX9_places 21 = .ok (.aload_n 0, 1) := by decide +kernel
theorem dX9_places_22 : decode cX9_places 22 = .ok (.iload_n 1, 1) := by decide +kernel
theorem dX9_places_23 : decode cX9_places 23 = .ok (.invokevirtual 167, 3) := by decide +kernel
theorem dX9_places_26 : decode cX9_places 26 = .ok (.ifCond .eq 12, 3) := by decide +kernel
theorem dX9_places_29 : decode cX9_places 29 = .ok (.aload_n 0, 1) := by decide +kernel
theorem dX9_places_30 : decode cX9_places 30 = .ok (.getfield 89, 3) := by decide +kernel
theorem dX9_places_33 : decode cX9_places 33 = .ok (.iload_n 1, 1) := by decide +kernel
theorem dX9_places_34 : decode cX9_places 34 = .ok (.iaload, 1) := by decide +kernel
theorem dX9_places_35 : decode cX9_places 35 = .ok (.goto 4, 3) := by decide +kernel
theorem dX9_places_38 : decode cX9_places 38 = .ok (.iconst (-1), 1) := by decide +kernel
theorem dX9_places_39 : decode cX9_places 39 = .ok (.iastore, 1) := by decide +kernel
theorem dX9_places_40 : decode cX9_places 40 = .ok (.iinc 1 1, 3) := by decide +kernel
theorem dX9_places_43 : decode cX9_places 43 = .ok (.goto (-41), 3) := by decide +kernel
theorem dX9_places_46 : decode cX9_places 46 = .ok (.return_, 1) := by decide +kernel
theorem dX9_sells_0 : decode cX9_sells 0 = .ok (.iconst 0, 1) := by decide +kernel
theorem dX9_sells_1 : decode cX9_sells 1 = .ok (.istore_n 1, 1) := by decide +kernel
theorem dX9_sells_2 : decode cX9_sells 2 = .ok (.iload_n 1, 1) := by decide +kernel
theorem dX9_sells_3 : decode cX9_sells 3 = .ok (.aload_n 0, 1) := by decide +kernel
theorem dX9_sells_4 : decode cX9_sells 4 = .ok (.getfield 164, 3) := by decide +kernel
theorem dX9_sells_7 : decode cX9_sells 7 = .ok (.if_icmp .ge 94, 3) := by decide +kernel
theorem dX9_sells_10 : decode cX9_sells 10 = .ok (.aload_n 0, 1) := by decide +kernel
theorem dX9_sells_11 : decode cX9_sells 11 = .ok (.getfield 98, 3) := by decide +kernel
theorem dX9_sells_14 : decode cX9_sells 14 = .ok (.iload_n 1, 1) := by decide +kernel
theorem dX9_sells_15 : decode cX9_sells 15 = .ok (.iaload, 1) := by decide +kernel
theorem dX9_sells_16 : decode cX9_sells 16 = .ok (.iconst 1, 1) := by decide +kernel
theorem dX9_sells_17 : decode cX9_sells 17 = .ok (.if_icmp .ne 78, 3) := by decide +kernel
theorem dX9_sells_20 : decode cX9_sells 20 = .ok (.aload_n 0, 1) := by decide +kernel
theorem dX9_sells_21 : decode cX9_sells 21 = .ok (.getfield 141, 3) := by decide +kernel
theorem dX9_sells_24 : decode cX9_sells 24 = .ok (.aload_n 0, 1) := by decide +kernel
theorem dX9_sells_25 : decode cX9_sells 25 = .ok (.getfield 101, 3) := by decide +kernel
theorem dX9_sells_28 : decode cX9_sells 28 = .ok (.iload_n 1, 1) := by decide +kernel
theorem dX9_sells_29 : decode cX9_sells 29 = .ok (.iaload, 1) := by decide +kernel
theorem dX9_sells_30 : decode cX9_sells 30 = .ok (.isub, 1) := by decide +kernel
theorem dX9_sells_31 : decode cX9_sells 31 = .ok (.iconst 1, 1) := by decide +kernel
theorem dX9_sells_32 : decode cX9_sells 32 = .ok (.iadd, 1) := by decide +kernel
theorem dX9_sells_33 : decode cX9_sells 33 = .ok (.bipush 31, 2) := by decide +kernel
theorem dX9_sells_35 : decode cX9_sells 35 = .ok (.if_icmp .ge 6, 3) := by decide +kernel
theorem dX9_sells_38 : decode cX9_sells 38 = .ok (.goto 57, 3) := by decide +kernel
theorem dX9_sells_41 : decode cX9_sells 41 = .ok (.aload_n 0, 1) := by decide +kernel
theorem dX9_sells_42 : decode cX9_sells 42 = .ok (.iload_n 1, 1) := by decide +kernel
theorem dX9_sells_43 : decode cX9_sells 43 = .ok (.invokevirtual 170, 3) := by decide +kernel
theorem dX9_sells_46 : decode cX9_sells 46 = .ok (.istore_n 2, 1) := by decide +kernel
theorem dX9_sells_47 : decode cX9_sells 47 = .ok (.iload_n 2, 1) := by decide +kernel
theorem dX9_sells_48 : decode cX9_sells 48 = .ok (.bipush 31, 2) := by decide +kernel
theorem dX9_sells_50 : decode cX9_sells 50 = .ok (.aload_n 0, 1) := by decide +kernel
theorem dX9_sells_51 : decode cX9_sells 51 = .ok (.getfield 86, 3) := by decide +kernel
theorem dX9_sells_54 : decode cX9_sells 54 = .ok (.iload_n 1, 1) := by decide +kernel
theorem dX9_sells_55 : decode cX9_sells 55 = .ok (.iaload, 1) := by decide +kernel
theorem dX9_sells_56 : decode cX9_sells 56 = .ok (.imul, 1) := by decide +kernel
theorem dX9_sells_57 : decode cX9_sells 57 = .ok (.invokestatic 173, 3) := by decide +kernel
theorem dX9_sells_60 : decode cX9_sells 60 = .ok (.istore_n 3, 1) := by decide +kernel
theorem dX9_sells_61 : decode cX9_sells 61 = .ok (.aload_n 0, 1) := by decide +kernel
theorem dX9_sells_62 : decode cX9_sells 62 = .ok (.getfield 98, 3) := by decide +kernel
theorem dX9_sells_65 : decode cX9_sells 65 = .ok (.iload_n 1, 1) := by decide +kernel
theorem dX9_sells_66 : decode cX9_sells 66 = .ok (.iconst 2, 1) := by decide +kernel
theorem dX9_sells_67 : decode cX9_sells 67 = .ok (.iastore, 1) := by decide +kernel
theorem dX9_sells_68 : decode cX9_sells 68 = .ok (.aload_n 0, 1) := by decide +kernel
theorem dX9_sells_69 : decode cX9_sells 69 = .ok (.dup, 1) := by decide +kernel
theorem dX9_sells_70 : decode cX9_sells 70 = .ok (.getfield 205, 3) := by decide +kernel
theorem dX9_sells_73 : decode cX9_sells 73 = .ok (.iload_n 3, 1) := by decide +kernel
theorem dX9_sells_74 : decode cX9_sells 74 = .ok (.iadd, 1) := by decide +kernel
theorem dX9_sells_75 : decode cX9_sells 75 = .ok (.putfield 205, 3) := by decide +kernel
theorem dX9_sells_78 : decode cX9_sells 78 = .ok (.aload_n 0, 1) := by decide +kernel
theorem dX9_sells_79 : decode cX9_sells 79 = .ok (.getfield 32, 3) := by decide +kernel
theorem dX9_sells_82 : decode cX9_sells 82 = .ok (.aload_n 0, 1) := by decide +kernel
theorem dX9_sells_83 : decode cX9_sells 83 = .ok (.getfield 80, 3) := by decide +kernel
theorem dX9_sells_86 : decode cX9_sells 86 = .ok (.iload_n 1, 1) := by decide +kernel
theorem dX9_sells_87 : decode cX9_sells 87 = .ok (.iaload, 1) := by decide +kernel
theorem dX9_sells_88 : decode cX9_sells 88 = .ok (.dup2, 1) := by decide +kernel
theorem dX9_sells_89 : decode cX9_sells 89 = .ok (.iaload, 1) := by decide +kernel
theorem dX9_sells_90 : decode cX9_sells 90 = .ok (.iload_n 2, 1) := by decide +kernel
theorem dX9_sells_91 : decode cX9_sells 91 = .ok (.iload_n 3, 1) := by decide +kernel
theorem dX9_sells_92 : decode cX9_sells 92 = .ok (.isub, 1) := by decide +kernel
theorem dX9_sells_93 : decode cX9_sells 93 = .ok (.iadd, 1) := by decide +kernel
theorem dX9_sells_94 : decode cX9_sells 94 = .ok (.iastore, 1) := by decide +kernel
theorem dX9_sells_95 : decode cX9_sells 95 = .ok (.iinc 1 1, 3) := by decide +kernel
theorem dX9_sells_98 : decode cX9_sells 98 = .ok (.goto (-96), 3) := by decide +kernel
theorem dX9_sells_101 : decode cX9_sells 101 = .ok (.return_, 1) := by decide +kernel
theorem dX9_isAsked_0 : decode cX9_isAsked 0 = .ok (.aload_n 0, 1) := by decide +kernel
theorem dX9_isAsked_1 : decode cX9_isAsked 1 = .ok (.iload_n 1, 1) := by decide +kernel
theorem dX9_isAsked_2 : decode cX9_isAsked 2 = .ok (.invokevirtual 155, 3) := by decide +kernel
theorem dX9_isAsked_5 : decode cX9_isAsked 5 = .ok (.istore_n 2, 1) := by decide +kernel
theorem dX9_isAsked_6 : decode cX9_isAsked 6 = .ok (.iconst 0, 1) := by decide +kernel
theorem dX9_isAsked_7 : decode cX9_isAsked 7 = .ok (.istore_n 3, 1) := by decide +kernel
theorem dX9_isAsked_8 : decode cX9_isAsked 8 = .ok (.iconst 0, 1) := by decide +kernel
theorem dX9_isAsked_9 : decode cX9_isAsked 9 = .ok (.istore 4, 2) := by decide +kernel
theorem dX9_isAsked_11 : decode cX9_isAsked 11 = .ok (.iload 4, 2) := by decide +kernel
theorem dX9_isAsked_13 : decode cX9_isAsked 13 = .ok (.aload_n 0, 1) := by decide +kernel
theorem dX9_isAsked_14 : decode cX9_isAsked 14 = .ok (.getfield 164, 3) := by decide +kernel
theorem dX9_isAsked_17 : decode cX9_isAsked 17 = .ok (.if_icmp .ge 86, 3) := by decide +kernel
theorem dX9_isAsked_20 : decode cX9_isAsked 20 = .ok (.iload_n 3, 1) := by decide +kernel
theorem dX9_isAsked_21 : decode cX9_isAsked 21 = .ok (.ifCond .ne 82, 3) := by decide +kernel
theorem dX9_isAsked_24 : decode cX9_isAsked 24 = .ok (.aload_n 0, 1) := by decide +kernel
theorem dX9_isAsked_25 : decode cX9_isAsked 25 = .ok (.iload 4, 2) := by decide +kernel
theorem dX9_isAsked_27 : decode cX9_isAsked 27 = .ok (.invokevirtual 167, 3) := by decide +kernel
theorem dX9_isAsked_30 : decode cX9_isAsked 30 = .ok (.ifCond .eq 65, 3) := by decide +kernel
theorem dX9_isAsked_33 : decode cX9_isAsked 33 = .ok (.aload_n 0, 1) := by decide +kernel
theorem dX9_isAsked_34 : decode cX9_isAsked 34 = .ok (.getfield 80, 3) := by decide +kernel
theorem dX9_isAsked_37 : decode cX9_isAsked 37 = .ok (.iload 4, 2) := by decide +kernel
theorem dX9_isAsked_39 : decode cX9_isAsked 39 = .ok (.iaload, 1) := by decide +kernel
theorem dX9_isAsked_40 : decode cX9_isAsked 40 = .ok (.iload_n 2, 1) := by decide +kernel
theorem dX9_isAsked_41 : decode cX9_isAsked 41 = .ok (.if_icmp .ne 54, 3) := by decide +kernel
theorem dX9_isAsked_44 : decode cX9_isAsked 44 = .ok (.aload_n 0, 1) := by decide +kernel
theorem dX9_isAsked_45 : decode cX9_isAsked 45 = .ok (.getfield 50, 3) := by decide +kernel
theorem dX9_isAsked_48 : decode cX9_isAsked 48 = .ok (.iload_n 1, 1) := by decide +kernel
theorem dX9_isAsked_49 : decode cX9_isAsked 49 = .ok (.iaload, 1) := by decide +kernel
theorem dX9_isAsked_50 : decode cX9_isAsked 50 = .ok (.iconst 2, 1) := by decide +kernel
theorem dX9_isAsked_51 : decode cX9_isAsked 51 = .ok (.if_icmp .ne 14, 3) := by decide +kernel
theorem dX9_isAsked_54 : decode cX9_isAsked 54 = .ok (.aload_n 0, 1) := by decide +kernel
theorem dX9_isAsked_55 : decode cX9_isAsked 55 = .ok (.getfield 83, 3) := by decide +kernel
theorem dX9_isAsked_58 : decode cX9_isAsked 58 = .ok (.iload 4, 2) := by decide +kernel
theorem dX9_isAsked_60 : decode cX9_isAsked 60 = .ok (.iaload, 1) := by decide +kernel
theorem dX9_isAsked_61 : decode cX9_isAsked 61 = .ok (.iconst 2, 1) := by decide +kernel
theorem dX9_isAsked_62 : decode cX9_isAsked 62 = .ok (.if_icmp .ne 33, 3) := by decide +kernel
theorem dX9_isAsked_65 : decode cX9_isAsked 65 = .ok (.aload_n 0, 1) := by decide +kernel
theorem dX9_isAsked_66 : decode cX9_isAsked 66 = .ok (.getfield 50, 3) := by decide +kernel
theorem dX9_isAsked_69 : decode cX9_isAsked 69 = .ok (.iload_n 1, 1) := by decide +kernel
theorem dX9_isAsked_70 : decode cX9_isAsked 70 = .ok (.iaload, 1) := by decide +kernel
theorem dX9_isAsked_71 : decode cX9_isAsked 71 = .ok (.iconst 3, 1) := by decide +kernel
theorem dX9_isAsked_72 : decode cX9_isAsked 72 = .ok (.if_icmp .ne 19, 3) := by decide +kernel
theorem dX9_isAsked_75 : decode cX9_isAsked 75 = .ok (.aload_n 0, 1) := by decide +kernel
theorem dX9_isAsked_76 : decode cX9_isAsked 76 = .ok (.getfield 89, 3) := by decide +kernel
theorem dX9_isAsked_79 : decode cX9_isAsked 79 = .ok (.iload 4, 2) := by decide +kernel
theorem dX9_isAsked_81 : decode cX9_isAsked 81 = .ok (.iaload, 1) := by decide +kernel
theorem dX9_isAsked_82 : decode cX9_isAsked 82 = .ok (.aload_n 0, 1) := by decide +kernel
theorem dX9_isAsked_83 : decode cX9_isAsked 83 = .ok (.getfield 65, 3) := by decide +kernel
theorem dX9_isAsked_86 : decode cX9_isAsked 86 = .ok (.iload_n 1, 1) := by decide +kernel
theorem dX9_isAsked_87 : decode cX9_isAsked 87 = .ok (.iaload, 1) := by decide +kernel
theorem dX9_isAsked_88 : decode cX9_isAsked 88 = .ok (.if_icmp .ne 7, 3) := by decide +kernel
theorem dX9_isAsked_91 : decode cX9_isAsked 91 = .ok (.iconst 1, 1) := by decide +kernel
theorem dX9_isAsked_92 : decode cX9_isAsked 92 = .ok (.goto 4, 3) := by decide +kernel
theorem dX9_isAsked_95 : decode cX9_isAsked 95 = .ok (.iconst 0, 1) := by decide +kernel
theorem dX9_isAsked_96 : decode cX9_isAsked 96 = .ok (.istore_n 3, 1) := by decide +kernel
theorem dX9_isAsked_97 : decode cX9_isAsked 97 = .ok (.iinc 4 1, 3) := by decide +kernel
theorem dX9_isAsked_100 : decode cX9_isAsked 100 = .ok (.goto (-89), 3) := by decide +kernel
theorem dX9_isAsked_103 : decode cX9_isAsked 103 = .ok (.iload_n 3, 1) := by decide +kernel
theorem dX9_isAsked_104 : decode cX9_isAsked 104 = .ok (.ireturn, 1) := by decide +kernel
theorem dX9_lapses_0 : decode cX9_lapses 0 = .ok (.aload_n 0, 1) := by decide +kernel
theorem dX9_lapses_1 : decode cX9_lapses 1 = .ok (.getfield 148, 3) := by decide +kernel
theorem dX9_lapses_4 : decode cX9_lapses 4 = .ok (.iconst 1, 1) := by decide +kernel
theorem dX9_lapses_5 : decode cX9_lapses 5 = .ok (.isub, 1) := by decide +kernel
theorem dX9_lapses_6 : decode cX9_lapses 6 = .ok (.istore_n 1, 1) := by decide +kernel
theorem dX9_lapses_7 : decode cX9_lapses 7 = .ok (.iload_n 1, 1) := by decide +kernel
theorem dX9_lapses_8 : decode cX9_lapses 8 = .ok (.ifCond .lt 120, 3) := by decide +kernel
theorem dX9_lapses_11 : decode cX9_lapses 11 = .ok (.aload_n 0, 1) := by decide +kernel
theorem dX9_lapses_12 : decode cX9_lapses 12 = .ok (.getfield 77, 3) := by decide +kernel
theorem dX9_lapses_15 : decode cX9_lapses 15 = .ok (.iload_n 1, 1) := by decide +kernel
theorem dX9_lapses_16 : decode cX9_lapses 16 = .ok (.aload_n 0, 1) := by decide +kernel
theorem dX9_lapses_17 : decode cX9_lapses 17 = .ok (.iload_n 1, 1) := by decide +kernel
theorem dX9_lapses_18 : decode cX9_lapses 18 = .ok (.invokevirtual 158, 3) := by decide +kernel
theorem dX9_lapses_21 : decode cX9_lapses 21 = .ok (.ifCond .le 15, 3) := by decide +kernel
theorem dX9_lapses_24 : decode cX9_lapses 24 = .ok (.aload_n 0, 1) := by decide +kernel
theorem dX9_lapses_25 : decode cX9_lapses 25 = .ok (.iload_n 1, 1) := by decide +kernel
theorem dX9_lapses_26 : decode cX9_lapses 26 = .ok (.invokevirtual 208, 3) := by decide +kernel
theorem dX9_lapses_29 : decode cX9_lapses 29 = .ok (.ifCond .eq 7, 3) := by decide +kernel
theorem dX9_lapses_32 : decode cX9_lapses 32 = .ok (.iconst 1, 1) := by decide +kernel
theorem dX9_lapses_33 : decode cX9_lapses 33 = .ok (.goto 4, 3) := by decide +kernel
theorem dX9_lapses_36 : decode cX9_lapses 36 = .ok (.iconst 0, 1) := by decide +kernel
