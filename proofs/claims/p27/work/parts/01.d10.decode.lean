theorem dX8_sellFromPound_25 : decode cX8_sellFromPound 25 = .ok (.aload_n 2, 1) := by decide +kernel
theorem dX8_sellFromPound_26 : decode cX8_sellFromPound 26 = .ok (.aload_n 0, 1) := by decide +kernel
theorem dX8_sellFromPound_27 : decode cX8_sellFromPound 27 = .ok (.getfield 91, 3) := by decide +kernel
theorem dX8_sellFromPound_30 : decode cX8_sellFromPound 30 = .ok (.invokevirtual 345, 3) := by decide +kernel
theorem dX8_sellFromPound_33 : decode cX8_sellFromPound 33 = .ok (.bipush 31, 2) := by decide +kernel
theorem dX8_sellFromPound_35 : decode cX8_sellFromPound 35 = .ok (.if_icmp .lt 62, 3) := by decide +kernel
theorem dX8_sellFromPound_38 : decode cX8_sellFromPound 38 = .ok (.aload_n 2, 1) := by decide +kernel
theorem dX8_sellFromPound_39 : decode cX8_sellFromPound 39 = .ok (.invokevirtual 185, 3) := by decide +kernel
theorem dX8_sellFromPound_42 : decode cX8_sellFromPound 42 = .ok (.istore_n 3, 1) := by decide +kernel
theorem dX8_sellFromPound_43 : decode cX8_sellFromPound 43 = .ok (.iload_n 3, 1) := by decide +kernel
theorem dX8_sellFromPound_44 : decode cX8_sellFromPound 44 = .ok (.aload_n 2, 1) := by decide +kernel
theorem dX8_sellFromPound_45 : decode cX8_sellFromPound 45 = .ok (.aload_n 0, 1) := by decide +kernel
theorem dX8_sellFromPound_46 : decode cX8_sellFromPound 46 = .ok (.getfield 91, 3) := by decide +kernel
theorem dX8_sellFromPound_49 : decode cX8_sellFromPound 49 = .ok (.invokevirtual 225, 3) := by decide +kernel
theorem dX8_sellFromPound_52 : decode cX8_sellFromPound 52 = .ok (.invokestatic 348, 3) := by decide +kernel
theorem dX8_sellFromPound_55 : decode cX8_sellFromPound 55 = .ok (.istore 4, 2) := by decide +kernel
theorem dX8_sellFromPound_57 : decode cX8_sellFromPound 57 = .ok (.aload_n 0, 1) := by decide +kernel
theorem dX8_sellFromPound_58 : decode cX8_sellFromPound 58 = .ok (.getfield 17, 3) := by decide +kernel
theorem dX8_sellFromPound_61 : decode cX8_sellFromPound 61 = .ok (.aload_n 2, 1) := by decide +kernel
theorem dX8_sellFromPound_62 : decode cX8_sellFromPound 62 = .ok (.getfield 169, 3) := by decide +kernel
theorem dX8_sellFromPound_65 : decode cX8_sellFromPound 65 = .ok (.aaload, 1) := by decide +kernel
theorem dX8_sellFromPound_66 : decode cX8_sellFromPound 66 = .ok (.dup, 1) := by decide +kernel
theorem dX8_sellFromPound_67 : decode cX8_sellFromPound 67 = .ok (.getfield 228, 3) := by decide +kernel
theorem dX8_sellFromPound_70 : decode cX8_sellFromPound 70 = .ok (.iload_n 3, 1) := by decide +kernel
theorem dX8_sellFromPound_71 : decode cX8_sellFromPound 71 = .ok (.iload 4, 2) := by decide +kernel
theorem dX8_sellFromPound_73 : decode cX8_sellFromPound 73 = .ok (.isub, 1) := by decide +kernel
theorem dX8_sellFromPound_74 : decode cX8_sellFromPound 74 = .ok (.iadd, 1) := by decide +kernel
theorem dX8_sellFromPound_75 : decode cX8_sellFromPound 75 = .ok (.putfield 228, 3) := by decide +kernel
theorem dX8_sellFromPound_78 : decode cX8_sellFromPound 78 = .ok (.aload_n 0, 1) := by decide +kernel
theorem dX8_sellFromPound_79 : decode cX8_sellFromPound 79 = .ok (.getfield 24, 3) := by decide +kernel
theorem dX8_sellFromPound_82 : decode cX8_sellFromPound 82 = .ok (.dup, 1) := by decide +kernel
theorem dX8_sellFromPound_83 : decode cX8_sellFromPound 83 = .ok (.getfield 228, 3) := by decide +kernel
theorem dX8_sellFromPound_86 : decode cX8_sellFromPound 86 = .ok (.iload 4, 2) := by decide +kernel
theorem dX8_sellFromPound_88 : decode cX8_sellFromPound 88 = .ok (.iadd, 1) := by decide +kernel
theorem dX8_sellFromPound_89 : decode cX8_sellFromPound 89 = .ok (.putfield 228, 3) := by decide +kernel
theorem dX8_sellFromPound_92 : decode cX8_sellFromPound 92 = .ok (.aload_n 2, 1) := by decide +kernel
theorem dX8_sellFromPound_93 : decode cX8_sellFromPound 93 = .ok (.iconst 2, 1) := by decide +kernel
theorem dX8_sellFromPound_94 : decode cX8_sellFromPound 94 = .ok (.putfield 160, 3) := by decide +kernel
theorem dX8_sellFromPound_97 : decode cX8_sellFromPound 97 = .ok (.iinc 1 1, 3) := by decide +kernel
theorem dX8_sellFromPound_100 : decode cX8_sellFromPound 100 = .ok (.goto (-98), 3) := by decide +kernel
theorem dX8_sellFromPound_103 : decode cX8_sellFromPound 103 = .ok (.return_, 1) := by decide +kernel
theorem dX8_findUsed_0 : decode cX8_findUsed 0 = .ok (.iconst 0, 1) := by decide +kernel
theorem dX8_findUsed_1 : decode cX8_findUsed 1 = .ok (.istore_n 1, 1) := by decide +kernel
theorem dX8_findUsed_2 : decode cX8_findUsed 2 = .ok (.iload_n 1, 1) := by decide +kernel
theorem dX8_findUsed_3 : decode cX8_findUsed 3 = .ok (.aload_n 0, 1) := by decide +kernel
theorem dX8_findUsed_4 : decode cX8_findUsed 4 = .ok (.getfield 85, 3) := by decide +kernel
theorem dX8_findUsed_7 : decode cX8_findUsed 7 = .ok (.if_icmp .ge 78, 3) := by decide +kernel
theorem dX8_findUsed_10 : decode cX8_findUsed 10 = .ok (.aload_n 0, 1) := by decide +kernel
theorem dX8_findUsed_11 : decode cX8_findUsed 11 = .ok (.getfield 34, 3) := by decide +kernel
theorem dX8_findUsed_14 : decode cX8_findUsed 14 = .ok (.iload_n 1, 1) := by decide +kernel
theorem dX8_findUsed_15 : decode cX8_findUsed 15 = .ok (.aaload, 1) := by decide +kernel
theorem dX8_findUsed_16 : decode cX8_findUsed 16 = .ok (.astore_n 2, 1) := by decide +kernel
theorem dX8_findUsed_17 : decode cX8_findUsed 17 = .ok (.aload_n 2, 1) := by decide +kernel
theorem dX8_findUsed_18 : decode cX8_findUsed 18 = .ok (.aload_n 0, 1) := by decide +kernel
theorem dX8_findUsed_19 : decode cX8_findUsed 19 = .ok (.getfield 91, 3) := by decide +kernel
theorem dX8_findUsed_22 : decode cX8_findUsed 22 = .ok (.invokevirtual 143, 3) := by decide +kernel
theorem dX8_findUsed_25 : decode cX8_findUsed 25 = .ok (.ifCond .eq 54, 3) := by decide +kernel
theorem dX8_findUsed_28 : decode cX8_findUsed 28 = .ok (.aload_n 0, 1) := by decide +kernel
theorem dX8_findUsed_29 : decode cX8_findUsed 29 = .ok (.aload_n 2, 1) := by decide +kernel
theorem dX8_findUsed_30 : decode cX8_findUsed 30 = .ok (.invokevirtual 351, 3) := by decide +kernel
theorem dX8_findUsed_33 : decode cX8_findUsed 33 = .ok (.ifCond .eq 46, 3) := by decide +kernel
theorem dX8_findUsed_36 : decode cX8_findUsed 36 = .ok (.aload_n 0, 1) := by decide +kernel
theorem dX8_findUsed_37 : decode cX8_findUsed 37 = .ok (.iload_n 1, 1) := by decide +kernel
theorem dX8_findUsed_38 : decode cX8_findUsed 38 = .ok (.invokevirtual 146, 3) := by decide +kernel
theorem dX8_findUsed_41 : decode cX8_findUsed 41 = .ok (.ifCond .le 38, 3) := by decide +kernel
theorem dX8_findUsed_44 : decode cX8_findUsed 44 = .ok (.aload_n 2, 1) := by decide +kernel
theorem dX8_findUsed_45 : decode cX8_findUsed 45 = .ok (.aload_n 0, 1) := by decide +kernel
theorem dX8_findUsed_46 : decode cX8_findUsed 46 = .ok (.getfield 91, 3) := by decide +kernel
theorem dX8_findUsed_49 : decode cX8_findUsed 49 = .ok (.putfield 269, 3) := by decide +kernel
theorem dX8_findUsed_52 : decode cX8_findUsed 52 = .ok (.aload_n 0, 1) := by decide +kernel
theorem dX8_findUsed_53 : decode cX8_findUsed 53 = .ok (.aload_n 2, 1) := by decide +kernel
theorem dX8_findUsed_54 : decode cX8_findUsed 54 = .ok (.getfield 266, 3) := by decide +kernel
theorem dX8_findUsed_57 : decode cX8_findUsed 57 = .ok (.invokevirtual 253, 3) := by decide +kernel
theorem dX8_findUsed_60 : decode cX8_findUsed 60 = .ok (.ifCond .eq 19, 3) := by decide +kernel
theorem dX8_findUsed_63 : decode cX8_findUsed 63 = .ok (.aload_n 0, 1) := by decide +kernel
theorem dX8_findUsed_64 : decode cX8_findUsed 64 = .ok (.getfield 34, 3) := by decide +kernel
theorem dX8_findUsed_67 : decode cX8_findUsed 67 = .ok (.aload_n 2, 1) := by decide +kernel
theorem dX8_findUsed_68 : decode cX8_findUsed 68 = .ok (.getfield 266, 3) := by decide +kernel
theorem dX8_findUsed_71 : decode cX8_findUsed 71 = .ok (.aaload, 1) := by decide +kernel
theorem dX8_findUsed_72 : decode cX8_findUsed 72 = .ok (.aload_n 0, 1) := by decide +kernel
theorem dX8_findUsed_73 : decode cX8_findUsed 73 = .ok (.getfield 91, 3) := by decide +kernel
theorem dX8_findUsed_76 : decode cX8_findUsed 76 = .ok (.putfield 269, 3) := by decide +kernel
theorem dX8_findUsed_79 : decode cX8_findUsed 79 = .ok (.iinc 1 1, 3) := by decide +kernel
theorem dX8_findUsed_82 : decode cX8_findUsed 82 = .ok (.goto (-80), 3) := by decide +kernel
theorem dX8_findUsed_85 : decode cX8_findUsed 85 = .ok (.return_, 1) := by decide +kernel
theorem dX8_hasHerdFor_0 : decode cX8_hasHerdFor 0 = .ok (.aload_n 0, 1) := by decide +kernel
theorem dX8_hasHerdFor_1 : decode cX8_hasHerdFor 1 = .ok (.aload_n 1, 1) := by decide +kernel
theorem dX8_hasHerdFor_2 : decode cX8_hasHerdFor 2 = .ok (.invokevirtual 256, 3) := by decide +kernel
theorem dX8_hasHerdFor_5 : decode cX8_hasHerdFor 5 = .ok (.istore_n 2, 1) := by decide +kernel
theorem dX8_hasHerdFor_6 : decode cX8_hasHerdFor 6 = .ok (.iconst 0, 1) := by decide +kernel
theorem dX8_hasHerdFor_7 : decode cX8_hasHerdFor 7 = .ok (.istore_n 3, 1) := by decide +kernel
theorem dX8_hasHerdFor_8 : decode cX8_hasHerdFor 8 = .ok (.iload_n 3, 1) := by decide +kernel
theorem dX8_hasHerdFor_9 : decode cX8_hasHerdFor 9 = .ok (.aload_n 0, 1) := by decide +kernel
theorem dX8_hasHerdFor_10 : decode cX8_hasHerdFor 10 = .ok (.getfield 88, 3) := by decide +kernel
theorem dX8_hasHerdFor_13 : decode cX8_hasHerdFor 13 = .ok (.if_icmp .ge 37, 3) := by decide +kernel
theorem dX8_hasHerdFor_16 : decode cX8_hasHerdFor 16 = .ok (.aload_n 0, 1) := by decide +kernel
theorem dX8_hasHerdFor_17 : decode cX8_hasHerdFor 17 = .ok (.getfield 40, 3) := by decide +kernel
theorem dX8_hasHerdFor_20 : decode cX8_hasHerdFor 20 = .ok (.iload_n 3, 1) := by decide +kernel
theorem dX8_hasHerdFor_21 : decode cX8_hasHerdFor 21 = .ok (.aaload, 1) := by decide +kernel
theorem dX8_hasHerdFor_22 : decode cX8_hasHerdFor 22 = .ok (.getfield 169, 3) := by decide +kernel
theorem dX8_hasHerdFor_25 : decode cX8_hasHerdFor 25 = .ok (.iload_n 2, 1) := by decide +kernel
theorem dX8_hasHerdFor_26 : decode cX8_hasHerdFor 26 = .ok (.if_icmp .ne 18, 3) := by decide +kernel
theorem dX8_hasHerdFor_29 : decode cX8_hasHerdFor 29 = .ok (.aload_n 1, 1) := by decide +kernel
theorem dX8_hasHerdFor_30 : decode cX8_hasHerdFor 30 = .ok (.aload_n 0, 1) := by decide +kernel
theorem dX8_hasHerdFor_31 : decode cX8_hasHerdFor 31 = .ok (.getfield 40, 3) := by decide +kernel
theorem dX8_hasHerdFor_34 : decode cX8_hasHerdFor 34 = .ok (.iload_n 3, 1) := by decide +kernel
theorem dX8_hasHerdFor_35 : decode cX8_hasHerdFor 35 = .ok (.aaload, 1) := by decide +kernel
theorem dX8_hasHerdFor_36 : decode cX8_hasHerdFor 36 = .ok (.invokevirtual 355, 3) := by decide +kernel
theorem dX8_hasHerdFor_39 : decode cX8_hasHerdFor 39 = .ok (.ifCond .eq 5, 3) := by decide +kernel
theorem dX8_hasHerdFor_42 : decode cX8_hasHerdFor 42 = .ok (.iconst 1, 1) := by decide +kernel
theorem dX8_hasHerdFor_43 : decode cX8_hasHerdFor 43 = .ok (.ireturn, 1) := by decide +kernel
theorem dX8_hasHerdFor_44 : decode cX8_hasHerdFor 44 = .ok (.iinc 3 1, 3) := by decide +kernel
theorem dX8_hasHerdFor_47 : decode cX8_hasHerdFor 47 = .ok (.goto (-39), 3) := by decide +kernel
theorem dX8_hasHerdFor_50 : decode cX8_hasHerdFor 50 = .ok (.iconst 0, 1) := by decide +kernel
theorem dX8_hasHerdFor_51 : decode cX8_hasHerdFor 51 = .ok (.ireturn, 1) := by decide +kernel
theorem dX8_lapse_0 : decode cX8_lapse 0 = .ok (.iconst 0, 1) := by decide +kernel
theorem dX8_lapse_1 : decode cX8_lapse 1 = .ok (.istore_n 1, 1) := by decide +kernel
theorem dX8_lapse_2 : decode cX8_lapse 2 = .ok (.iload_n 1, 1) := by decide +kernel
theorem dX8_lapse_3 : decode cX8_lapse 3 = .ok (.aload_n 0, 1) := by decide +kernel
theorem dX8_lapse_4 : decode cX8_lapse 4 = .ok (.getfield 85, 3) := by decide +kernel
theorem dX8_lapse_7 : decode cX8_lapse 7 = .ok (.if_icmp .ge 80, 3) := by decide +kernel
theorem dX8_lapse_10 : decode cX8_lapse 10 = .ok (.aload_n 0, 1) := by decide +kernel
theorem dX8_lapse_11 : decode cX8_lapse 11 = .ok (.getfield 34, 3) := by decide +kernel
theorem dX8_lapse_14 : decode cX8_lapse 14 = .ok (.iload_n 1, 1) := by decide +kernel
theorem dX8_lapse_15 : decode cX8_lapse 15 = .ok (.aaload, 1) := by decide +kernel
theorem dX8_lapse_16 : decode cX8_lapse 16 = .ok (.astore_n 2, 1) := by decide +kernel
theorem dX8_lapse_17 : decode cX8_lapse 17 = .ok (.aload_n 0, 1) := by decide +kernel
theorem dX8_lapse_18 : decode cX8_lapse 18 = .ok (.getfield 91, 3) := by decide +kernel
theorem dX8_lapse_21 : decode cX8_lapse 21 = .ok (.aload_n 2, 1) := by decide +kernel
theorem dX8_lapse_22 : decode cX8_lapse 22 = .ok (.getfield 259, 3) := by decide +kernel
theorem dX8_lapse_25 : decode cX8_lapse 25 = .ok (.isub, 1) := by decide +kernel
theorem dX8_lapse_26 : decode cX8_lapse 26 = .ok (.bipush 100, 2) := by decide +kernel
theorem dX8_lapse_28 : decode cX8_lapse 28 = .ok (.if_icmp .lt 7, 3) := by decide +kernel
theorem dX8_lapse_31 : decode cX8_lapse 31 = .ok (.iconst 1, 1) := by decide +kernel
theorem dX8_lapse_32 : decode cX8_lapse 32 = .ok (.goto 4, 3) := by decide +kernel
theorem dX8_lapse_35 : decode cX8_lapse 35 = .ok (.iconst 0, 1) := by decide +kernel
theorem dX8_lapse_36 : decode cX8_lapse 36 = .ok (.istore_n 3, 1) := by decide +kernel
theorem dX8_lapse_37 : decode cX8_lapse 37 = .ok (.iload_n 3, 1) := by decide +kernel
theorem dX8_lapse_38 : decode cX8_lapse 38 = .ok (.ifCond .eq 43, 3) := by decide +kernel
theorem dX8_lapse_41 : decode cX8_lapse 41 = .ok (.aload_n 2, 1) := by decide +kernel
theorem dX8_lapse_42 : decode cX8_lapse 42 = .ok (.aload_n 0, 1) := by decide +kernel
theorem dX8_lapse_43 : decode cX8_lapse 43 = .ok (.getfield 91, 3) := by decide +kernel
theorem dX8_lapse_46 : decode cX8_lapse 46 = .ok (.invokevirtual 143, 3) := by decide +kernel
theorem dX8_lapse_49 : decode cX8_lapse 49 = .ok (.ifCond .eq 32, 3) := by decide +kernel
theorem dX8_lapse_52 : decode cX8_lapse 52 = .ok (.aload_n 2, 1) := by decide +kernel
theorem dX8_lapse_53 : decode cX8_lapse 53 = .ok (.getfield 269, 3) := by decide +kernel
theorem dX8_lapse_56 : decode cX8_lapse 56 = .ok (.aload_n 0, 1) := by decide +kernel
theorem dX8_lapse_57 : decode cX8_lapse 57 = .ok (.getfield 91, 3) := by decide +kernel
theorem dX8_lapse_60 : decode cX8_lapse 60 = .ok (.bipush 100, 2) := by decide +kernel
theorem dX8_lapse_62 : decode cX8_lapse 62 = .ok (.isub, 1) := by decide +kernel
theorem dX8_lapse_63 : decode cX8_lapse 63 = .ok (.if_icmp .gt 18, 3) := by decide +kernel
theorem dX8_lapse_66 : decode cX8_lapse 66 = .ok (.aload_n 2, 1) := by decide +kernel
theorem dX8_lapse_67 : decode cX8_lapse 67 = .ok (.iconst 1, 1) := by decide +kernel
theorem dX8_lapse_68 : decode cX8_lapse 68 = .ok (.putfield 262, 3) := by decide +kernel
theorem dX8_lapse_71 : decode cX8_lapse 71 = .ok (.aload_n 0, 1) := by decide +kernel
theorem dX8_lapse_72 : decode cX8_lapse 72 = .ok (.dup, 1) := by decide +kernel
theorem dX8_lapse_73 : decode cX8_lapse 73 = .ok (.getfield 97, 3) := by decide +kernel
theorem dX8_lapse_76 : decode cX8_lapse 76 = .ok (.iconst 1, 1) := by decide +kernel
theorem dX8_lapse_77 : decode cX8_lapse 77 = .ok (.iadd, 1) := by decide +kernel
theorem dX8_lapse_78 : decode cX8_lapse 78 = .ok (.putfield 97, 3) := by decide +kernel
theorem dX8_lapse_81 : decode cX8_lapse 81 = .ok (.iinc 1 1, 3) := by decide +kernel
theorem dX8_lapse_84 : decode cX8_lapse 84 = .ok (.goto (-82), 3) := by decide +kernel
theorem dX8_lapse_87 : decode cX8_lapse 87 = .ok (.return_, 1) := by decide +kernel
theorem dX8_shareHay_0 : decode cX8_shareHay 0 = .ok (.iconst 0, 1) := by decide +kernel
theorem dX8_shareHay_1 : decode cX8_shareHay 1 = .ok (.istore_n 3, 1) := by decide +kernel
theorem dX8_shareHay_2 : decode cX8_shareHay 2 = .ok (.iconst 0, 1) := by decide +kernel
theorem dX8_shareHay_3 : decode cX8_shareHay 3 = .ok (.istore 4, 2) := by decide +kernel
theorem dX8_shareHay_5 : decode cX8_shareHay 5 = .ok (.iload 4, 2) := by decide +kernel
theorem dX8_shareHay_7 : decode cX8_shareHay 7 = .ok (.aload_n 0, 1) := by decide +kernel
theorem dX8_shareHay_8 : decode cX8_shareHay 8 = .ok (.getfield 79, 3) := by decide +kernel
theorem dX8_shareHay_11 : decode cX8_shareHay 11 = .ok (.if_icmp .ge 22, 3) := by decide +kernel
theorem dX8_shareHay_14 : decode cX8_shareHay 14 = .ok (.iload_n 3, 1) := by decide +kernel
theorem dX8_shareHay_15 : decode cX8_shareHay 15 = .ok (.aload_n 0, 1) := by decide +kernel
theorem dX8_shareHay_16 : decode cX8_shareHay 16 = .ok (.iload 4, 2) := by decide +kernel
theorem dX8_shareHay_18 : decode cX8_shareHay 18 = .ok (.invokevirtual 284, 3) := by decide +kernel
theorem dX8_shareHay_21 : decode cX8_shareHay 21 = .ok (.iload_n 1, 1) := by decide +kernel
theorem dX8_shareHay_22 : decode cX8_shareHay 22 = .ok (.invokevirtual 359, 3) := by decide +kernel
theorem dX8_shareHay_25 : decode cX8_shareHay 25 = .ok (.iadd, 1) := by decide +kernel
theorem dX8_shareHay_26 : decode cX8_shareHay 26 = .ok (.istore_n 3, 1) := by decide +kernel
theorem dX8_shareHay_27 : decode cX8_shareHay 27 = .ok (.iinc 4 1, 3) := by decide +kernel
theorem dX8_shareHay_30 : decode cX8_shareHay 30 = .ok (.goto (-25), 3) := by decide +kernel
theorem dX8_shareHay_33 : decode cX8_shareHay 33 = .ok (.iload_n 2, 1) := by decide +kernel
theorem dX8_shareHay_34 : decode cX8_shareHay 34 = .ok (.istore 4, 2) := by decide +kernel
theorem dX8_shareHay_36 : decode cX8_shareHay 36 = .ok (.iconst 0, 1) := by decide +kernel
theorem dX8_shareHay_37 : decode cX8_shareHay 37 = .ok (.istore 5, 2) := by decide +kernel
theorem dX8_shareHay_39 : decode cX8_shareHay 39 = .ok (.iload 5, 2) := by decide +kernel
theorem dX8_shareHay_41 : decode cX8_shareHay 41 = .ok (.aload_n 0, 1) := by decide +kernel
theorem dX8_shareHay_42 : decode cX8_shareHay 42 = .ok (.getfield 79, 3) := by decide +kernel
theorem dX8_shareHay_45 : decode cX8_shareHay 45 = .ok (.if_icmp .ge 57, 3) := by decide +kernel
theorem dX8_shareHay_48 : decode cX8_shareHay 48 = .ok (.iload_n 3, 1) := by decide +kernel
theorem dX8_shareHay_49 : decode cX8_shareHay 49 = .ok (.ifCond .le 53, 3) := by decide +kernel
theorem dX8_shareHay_52 : decode cX8_shareHay 52 = .ok (.iload_n 2, 1) := by decide +kernel
theorem dX8_shareHay_53 : decode cX8_shareHay 53 = .ok (.i2l, 1) := by decide +kernel
theorem dX8_shareHay_54 : decode cX8_shareHay 54 = .ok (.aload_n 0, 1) := by decide +kernel
theorem dX8_shareHay_55 : decode cX8_shareHay 55 = .ok (.iload 5, 2) := by decide +kernel
theorem dX8_shareHay_57 : decode cX8_shareHay 57 = .ok (.invokevirtual 284, 3) := by decide +kernel
theorem dX8_shareHay_60 : decode cX8_shareHay 60 = .ok (.iload_n 1, 1) := by decide +kernel
theorem dX8_shareHay_61 : decode cX8_shareHay 61 = .ok (.invokevirtual 359, 3) := by decide +kernel
theorem dX8_shareHay_64 : decode cX8_shareHay 64 = .ok (.i2l, 1) := by decide +kernel
theorem dX8_shareHay_65 : decode cX8_shareHay 65 = .ok (.lmul, 1) := by decide +kernel
theorem dX8_shareHay_66 : decode cX8_shareHay 66 = .ok (.iload_n 3, 1) := by decide +kernel
theorem dX8_shareHay_67 : decode cX8_shareHay 67 = .ok (.i2l, 1) := by decide +kernel
theorem dX8_shareHay_68 : decode cX8_shareHay 68 = .ok (.ldiv, 1) := by decide +kernel
theorem dX8_shareHay_69 : decode cX8_shareHay 69 = .ok (.l2i, 1) := by decide +kernel
theorem dX8_shareHay_70 : decode cX8_shareHay 70 = .ok (.istore 6, 2) := by decide +kernel
theorem dX8_shareHay_72 : decode cX8_shareHay 72 = .ok (.aload_n 0, 1) := by decide +kernel
theorem dX8_shareHay_73 : decode cX8_shareHay 73 = .ok (.getfield 17, 3) := by decide +kernel
theorem dX8_shareHay_76 : decode cX8_shareHay 76 = .ok (.iload 5, 2) := by decide +kernel
theorem dX8_shareHay_78 : decode cX8_shareHay 78 = .ok (.aaload, 1) := by decide +kernel
theorem dX8_shareHay_79 : decode cX8_shareHay 79 = .ok (.dup, 1) := by decide +kernel
theorem dX8_shareHay_80 : decode cX8_shareHay 80 = .ok (.getfield 281, 3) := by decide +kernel
theorem dX8_shareHay_83 : decode cX8_shareHay 83 = .ok (.iload 6, 2) := by decide +kernel
theorem dX8_shareHay_85 : decode cX8_shareHay 85 = .ok (.iadd, 1) := by decide +kernel
theorem dX8_shareHay_86 : decode cX8_shareHay 86 = .ok (.putfield 281, 3) := by decide +kernel
theorem dX8_shareHay_89 : decode cX8_shareHay 89 = .ok (.iload 4, 2) := by decide +kernel
theorem dX8_shareHay_91 : decode cX8_shareHay 91 = .ok (.iload 6, 2) := by decide +kernel
theorem dX8_shareHay_93 : decode cX8_shareHay 93 = .ok (.isub, 1) := by decide +kernel
theorem dX8_shareHay_94 : decode cX8_shareHay 94 = .ok (.istore 4, 2) := by decide +kernel
theorem dX8_shareHay_96 : decode cX8_shareHay 96 = .ok (.iinc 5 1, 3) := by decide +kernel
theorem dX8_shareHay_99 : decode cX8_shareHay 99 = .ok (.goto (-60), 3) := by decide +kernel
theorem dX8_shareHay_102 : decode cX8_shareHay 102 = .ok (.aload_n 0, 1) := by decide +kernel
theorem dX8_shareHay_103 : decode cX8_shareHay 103 = .ok (.getfield 24, 3) := by decide +kernel
theorem dX8_shareHay_106 : decode cX8_shareHay 106 = .ok (.dup, 1) := by decide +kernel
theorem dX8_shareHay_107 : decode cX8_shareHay 107 = .ok (.getfield 281, 3) := by decide +kernel
theorem dX8_shareHay_110 : decode cX8_shareHay 110 = .ok (.iload 4, 2) := by decide +kernel
theorem dX8_shareHay_112 : decode cX8_shareHay 112 = .ok (.iadd, 1) := by decide +kernel
theorem dX8_shareHay_113 : decode cX8_shareHay 113 = .ok (.putfield 281, 3) := by decide +kernel
theorem dX8_shareHay_116 : decode cX8_shareHay 116 = .ok (.return_, 1) := by decide +kernel
theorem dX8_openPieces_0 : decode cX8_openPieces 0 = .ok (.iconst 0, 1) := by decide +kernel
theorem dX8_openPieces_1 : decode cX8_openPieces 1 = .ok (.istore_n 2, 1) := by decide +kernel
theorem dX8_openPieces_2 : decode cX8_openPieces 2 = .ok (.iconst 0, 1) := by decide +kernel
theorem dX8_openPieces_3 : decode cX8_openPieces 3 = .ok (.istore_n 3, 1) := by decide +kernel
theorem dX8_openPieces_4 : decode cX8_openPieces 4 = .ok (.iload_n 3, 1) := by decide +kernel
theorem dX8_openPieces_5 : decode cX8_openPieces 5 = .ok (.aload_n 0, 1) := by decide +kernel
theorem dX8_openPieces_6 : decode cX8_openPieces 6 = .ok (.getfield 75, 3) := by decide +kernel
theorem dX8_openPieces_9 : decode cX8_openPieces 9 = .ok (.if_icmp .ge 28, 3) := by decide +kernel
theorem dX8_openPieces_12 : decode cX8_openPieces 12 = .ok (.aload_n 0, 1) := by decide +kernel
theorem dX8_openPieces_13 : decode cX8_openPieces 13 = .ok (.getfield 11, 3) := by decide +kernel
theorem dX8_openPieces_16 : decode cX8_openPieces 16 = .ok (.iload_n 3, 1) := by decide +kernel
theorem dX8_openPieces_17 : decode cX8_openPieces 17 = .ok (.aaload, 1) := by decide +kernel
theorem dX8_openPieces_18 : decode cX8_openPieces 18 = .ok (.iload_n 1, 1) := by decide +kernel
theorem dX8_openPieces_19 : decode cX8_openPieces 19 = .ok (.invokevirtual 166, 3) := by decide +kernel
theorem dX8_openPieces_22 : decode cX8_openPieces 22 = .ok (.ifCond .ne 9, 3) := by decide +kernel
theorem dX8_openPieces_25 : decode cX8_openPieces 25 = .ok (.iload_n 2, 1) := by decide +kernel
theorem dX8_openPieces_26 : decode cX8_openPieces 26 = .ok (.iconst 1, 1) := by decide +kernel
theorem dX8_openPieces_27 : decode cX8_openPieces 27 = .ok (.iload_n 3, 1) := by decide +kernel
theorem dX8_openPieces_28 : decode cX8_openPieces 28 = .ok (.ishl, 1) := by decide +kernel
theorem dX8_openPieces_29 : decode cX8_openPieces 29 = .ok (.ior, 1) := by decide +kernel
theorem dX8_openPieces_30 : decode cX8_openPieces 30 = .ok (.istore_n 2, 1) := by decide +kernel
theorem dX8_openPieces_31 : decode cX8_openPieces 31 = .ok (.iinc 3 1, 3) := by decide +kernel
theorem dX8_openPieces_34 : decode cX8_openPieces 34 = .ok (.goto (-30), 3) := by decide +kernel
theorem dX8_openPieces_37 : decode cX8_openPieces 37 = .ok (.iload_n 2, 1) := by decide +kernel
theorem dX8_openPieces_38 : decode cX8_openPieces 38 = .ok (.ireturn, 1) := by decide +kernel
theorem dX8_reckonTurns_0 : decode cX8_reckonTurns 0 = .ok (.iconst 0, 1) := by decide +kernel
theorem dX8_reckonTurns_1 : decode cX8_reckonTurns 1 = .ok (.istore_n 1, 1) := by decide +kernel
theorem dX8_reckonTurns_2 : decode cX8_reckonTurns 2 = .ok (.iload_n 1, 1) := by decide +kernel
theorem dX8_reckonTurns_3 : decode cX8_reckonTurns 3 = .ok (.aload_n 0, 1) := by decide +kernel
theorem dX8_reckonTurns_4 : decode cX8_reckonTurns 4 = .ok (.getfield 68, 3) := by decide +kernel
theorem dX8_reckonTurns_7 : decode cX8_reckonTurns 7 = .ok (.getfield 362, 3) := by decide +kernel
theorem dX8_reckonTurns_10 : decode cX8_reckonTurns 10 = .ok (.if_icmp .ge 38, 3) := by decide +kernel
theorem dX8_reckonTurns_13 : decode cX8_reckonTurns 13 = .ok (.aload_n 0, 1) := by decide +kernel
theorem dX8_reckonTurns_14 : decode cX8_reckonTurns 14 = .ok (.getfield 68, 3) := by decide +kernel
theorem dX8_reckonTurns_17 : decode cX8_reckonTurns 17 = .ok (.getfield 365, 3) := by decide +kernel
theorem dX8_reckonTurns_20 : decode cX8_reckonTurns 20 = .ok (.iload_n 1, 1) := by decide +kernel
theorem dX8_reckonTurns_21 : decode cX8_reckonTurns 21 = .ok (.aload_n 0, 1) := by decide +kernel
theorem dX8_reckonTurns_22 : decode cX8_reckonTurns 22 = .ok (.aload_n 0, 1) := by decide +kernel
theorem dX8_reckonTurns_23 : decode cX8_reckonTurns 23 = .ok (.getfield 91, 3) := by decide +kernel
theorem dX8_reckonTurns_26 : decode cX8_reckonTurns 26 = .ok (.iconst 1, 1) := by decide +kernel
theorem dX8_reckonTurns_27 : decode cX8_reckonTurns 27 = .ok (.iadd, 1) := by decide +kernel
theorem dX8_reckonTurns_28 : decode cX8_reckonTurns 28 = .ok (.iload_n 1, 1) := by decide +kernel
theorem dX8_reckonTurns_29 : decode cX8_reckonTurns 29 = .ok (.aload_n 0, 1) := by decide +kernel
theorem dX8_reckonTurns_30 : decode cX8_reckonTurns 30 = .ok (.getfield 68, 3) := by decide +kernel
theorem dX8_reckonTurns_33 : decode cX8_reckonTurns 33 = .ok (.getfield 368, 3) := by decide +kernel
theorem dX8_reckonTurns_36 : decode cX8_reckonTurns 36 = .ok (.imul, 1) := by decide +kernel
theorem dX8_reckonTurns_37 : decode cX8_reckonTurns 37 = .ok (.iadd, 1) := by decide +kernel
theorem dX8_reckonTurns_38 : decode cX8_reckonTurns 38 = .ok (.invokevirtual 231, 3) := by decide +kernel
theorem dX8_reckonTurns_41 : decode cX8_reckonTurns 41 = .ok (.iastore, 1) := by decide +kernel
theorem dX8_reckonTurns_42 : decode cX8_reckonTurns 42 = .ok (.iinc 1 1, 3) := by decide +kernel
theorem dX8_reckonTurns_45 : decode cX8_reckonTurns 45 = .ok (.goto (-43), 3) := by decide +kernel
theorem dX8_reckonTurns_48 : decode cX8_reckonTurns 48 = .ok (.iconst 0, 1) := by decide +kernel
theorem dX8_reckonTurns_49 : decode cX8_reckonTurns 49 = .ok (.istore_n 1, 1) := by decide +kernel
theorem dX8_reckonTurns_50 : decode cX8_reckonTurns 50 = .ok (.iload_n 1, 1) := by decide +kernel
theorem dX8_reckonTurns_51 : decode cX8_reckonTurns 51 = .ok (.aload_n 0, 1) := by decide +kernel
theorem dX8_reckonTurns_52 : decode cX8_reckonTurns 52 = .ok (.getfield 75, 3) := by decide +kernel
theorem dX8_reckonTurns_55 : decode cX8_reckonTurns 55 = .ok (.if_icmp .ge 53, 3) := by decide +kernel
theorem dX8_reckonTurns_58 : decode cX8_reckonTurns 58 = .ok (.iconst 0, 1) := by decide +kernel
theorem dX8_reckonTurns_59 : decode cX8_reckonTurns 59 = .ok (.istore_n 2, 1) := by decide +kernel
theorem dX8_reckonTurns_60 : decode cX8_reckonTurns 60 = .ok (.iload_n 2, 1) := by decide +kernel
theorem dX8_reckonTurns_61 : decode cX8_reckonTurns 61 = .ok (.aload_n 0, 1) := by decide +kernel
theorem dX8_reckonTurns_62 : decode cX8_reckonTurns 62 = .ok (.getfield 68, 3) := by decide +kernel
theorem dX8_reckonTurns_65 : decode cX8_reckonTurns 65 = .ok (.invokevirtual 371, 3) := by decide +kernel
theorem dX8_reckonTurns_68 : decode cX8_reckonTurns 68 = .ok (.if_icmp .ge 34, 3) := by decide +kernel
theorem dX8_reckonTurns_71 : decode cX8_reckonTurns 71 = .ok (.aload_n 0, 1) := by decide +kernel
theorem dX8_reckonTurns_72 : decode cX8_reckonTurns 72 = .ok (.getfield 68, 3) := by decide +kernel
theorem dX8_reckonTurns_75 : decode cX8_reckonTurns 75 = .ok (.getfield 374, 3) := by decide +kernel
theorem dX8_reckonTurns_78 : decode cX8_reckonTurns 78 = .ok (.iload_n 1, 1) := by decide +kernel
theorem dX8_reckonTurns_79 : decode cX8_reckonTurns 79 = .ok (.aaload, 1) := by decide +kernel
theorem dX8_reckonTurns_80 : decode cX8_reckonTurns 80 = .ok (.iload_n 2, 1) := by decide +kernel
theorem dX8_reckonTurns_81 : decode cX8_reckonTurns 81 = .ok (.iload_n 2, 1) := by decide +kernel
theorem dX8_reckonTurns_82 : decode cX8_reckonTurns 82 = .ok (.ifCond .ne 7, 3) := by decide +kernel
