theorem dX8_over_19 : decode cX8_over 19 = .ok (.istore_n 3, 1) := by decide +kernel
theorem dX8_over_20 : decode cX8_over 20 = .ok (.aload_n 0, 1) := by decide +kernel
theorem dX8_over_21 : decode cX8_over 21 = .ok (.iload_n 1, 1) := by decide +kernel
theorem dX8_over_22 : decode cX8_over 22 = .ok (.aload_n 0, 1) := by decide +kernel
theorem dX8_over_23 : decode cX8_over 23 = .ok (.getfield 94, 3) := by decide +kernel
theorem dX8_over_26 : decode cX8_over 26 = .ok (.iconst 1, 1) := by decide +kernel
theorem dX8_over_27 : decode cX8_over 27 = .ok (.iadd, 1) := by decide +kernel
theorem dX8_over_28 : decode cX8_over 28 = .ok (.invokevirtual 181, 3) := by decide +kernel
theorem dX8_over_31 : decode cX8_over 31 = .ok (.istore 4, 2) := by decide +kernel
theorem dX8_over_33 : decode cX8_over 33 = .ok (.iconst 0, 1) := by decide +kernel
theorem dX8_over_34 : decode cX8_over 34 = .ok (.istore 5, 2) := by decide +kernel
theorem dX8_over_36 : decode cX8_over 36 = .ok (.iload 5, 2) := by decide +kernel
theorem dX8_over_38 : decode cX8_over 38 = .ok (.iload_n 2, 1) := by decide +kernel
theorem dX8_over_39 : decode cX8_over 39 = .ok (.if_icmp .ge 52, 3) := by decide +kernel
theorem dX8_over_42 : decode cX8_over 42 = .ok (.iload 5, 2) := by decide +kernel
theorem dX8_over_44 : decode cX8_over 44 = .ok (.bipush 20, 2) := by decide +kernel
theorem dX8_over_46 : decode cX8_over 46 = .ok (.if_icmp .ge 45, 3) := by decide +kernel
theorem dX8_over_49 : decode cX8_over 49 = .ok (.iload 4, 2) := by decide +kernel
theorem dX8_over_51 : decode cX8_over 51 = .ok (.iconst (-1), 1) := by decide +kernel
theorem dX8_over_52 : decode cX8_over 52 = .ok (.if_icmp .eq 39, 3) := by decide +kernel
theorem dX8_over_55 : decode cX8_over 55 = .ok (.iload_n 3, 1) := by decide +kernel
theorem dX8_over_56 : decode cX8_over 56 = .ok (.aload_n 0, 1) := by decide +kernel
theorem dX8_over_57 : decode cX8_over 57 = .ok (.getfield 40, 3) := by decide +kernel
theorem dX8_over_60 : decode cX8_over 60 = .ok (.iload 4, 2) := by decide +kernel
theorem dX8_over_62 : decode cX8_over 62 = .ok (.aaload, 1) := by decide +kernel
theorem dX8_over_63 : decode cX8_over 63 = .ok (.invokevirtual 185, 3) := by decide +kernel
theorem dX8_over_66 : decode cX8_over 66 = .ok (.isub, 1) := by decide +kernel
theorem dX8_over_67 : decode cX8_over 67 = .ok (.istore_n 3, 1) := by decide +kernel
theorem dX8_over_68 : decode cX8_over 68 = .ok (.aload_n 0, 1) := by decide +kernel
theorem dX8_over_69 : decode cX8_over 69 = .ok (.iload_n 1, 1) := by decide +kernel
theorem dX8_over_70 : decode cX8_over 70 = .ok (.aload_n 0, 1) := by decide +kernel
theorem dX8_over_71 : decode cX8_over 71 = .ok (.getfield 40, 3) := by decide +kernel
theorem dX8_over_74 : decode cX8_over 74 = .ok (.iload 4, 2) := by decide +kernel
theorem dX8_over_76 : decode cX8_over 76 = .ok (.aaload, 1) := by decide +kernel
theorem dX8_over_77 : decode cX8_over 77 = .ok (.getfield 175, 3) := by decide +kernel
theorem dX8_over_80 : decode cX8_over 80 = .ok (.invokevirtual 181, 3) := by decide +kernel
theorem dX8_over_83 : decode cX8_over 83 = .ok (.istore 4, 2) := by decide +kernel
theorem dX8_over_85 : decode cX8_over 85 = .ok (.iinc 5 1, 3) := by decide +kernel
theorem dX8_over_88 : decode cX8_over 88 = .ok (.goto (-52), 3) := by decide +kernel
theorem dX8_over_91 : decode cX8_over 91 = .ok (.iload_n 2, 1) := by decide +kernel
theorem dX8_over_92 : decode cX8_over 92 = .ok (.ifCond .lt 27, 3) := by decide +kernel
theorem dX8_over_95 : decode cX8_over 95 = .ok (.iload 4, 2) := by decide +kernel
theorem dX8_over_97 : decode cX8_over 97 = .ok (.iconst (-1), 1) := by decide +kernel
theorem dX8_over_98 : decode cX8_over 98 = .ok (.if_icmp .eq 21, 3) := by decide +kernel
theorem dX8_over_101 : decode cX8_over 101 = .ok (.iload_n 3, 1) := by decide +kernel
theorem dX8_over_102 : decode cX8_over 102 = .ok (.aload_n 0, 1) := by decide +kernel
theorem dX8_over_103 : decode cX8_over 103 = .ok (.getfield 11, 3) := by decide +kernel
theorem dX8_over_106 : decode cX8_over 106 = .ok (.iload_n 1, 1) := by decide +kernel
theorem dX8_over_107 : decode cX8_over 107 = .ok (.aaload, 1) := by decide +kernel
theorem dX8_over_108 : decode cX8_over 108 = .ok (.getfield 189, 3) := by decide +kernel
theorem dX8_over_111 : decode cX8_over 111 = .ok (.if_icmp .le 8, 3) := by decide +kernel
theorem dX8_over_114 : decode cX8_over 114 = .ok (.iload 4, 2) := by decide +kernel
theorem dX8_over_116 : decode cX8_over 116 = .ok (.goto 5, 3) := by decide +kernel
theorem dX8_over_119 : decode cX8_over 119 = .ok (.bipush (-9), 2) := by decide +kernel
theorem dX8_over_121 : decode cX8_over 121 = .ok (.ireturn, 1) := by decide +kernel
theorem dX8_pass_0 : decode cX8_pass 0 = .ok (.iload_n 1, 1) := by decide +kernel
theorem dX8_pass_1 : decode cX8_pass 1 = .ok (.iconst 1, 1) := by decide +kernel
theorem dX8_pass_2 : decode cX8_pass 2 = .ok (.if_icmp .ge 10, 3) := by decide +kernel
theorem dX8_pass_5 : decode cX8_pass 5 = .ok (.aload_n 0, 1) := by decide +kernel
theorem dX8_pass_6 : decode cX8_pass 6 = .ok (.bipush (-4), 2) := by decide +kernel
theorem dX8_pass_8 : decode cX8_pass 8 = .ok (.invokevirtual 100, 3) := by decide +kernel
theorem dX8_pass_11 : decode cX8_pass 11 = .ok (.ireturn, 1) := by decide +kernel
theorem dX8_pass_12 : decode cX8_pass 12 = .ok (.iload_n 1, 1) := by decide +kernel
theorem dX8_pass_13 : decode cX8_pass 13 = .ok (.sipush 720, 3) := by decide +kernel
theorem dX8_pass_16 : decode cX8_pass 16 = .ok (.aload_n 0, 1) := by decide +kernel
theorem dX8_pass_17 : decode cX8_pass 17 = .ok (.getfield 91, 3) := by decide +kernel
theorem dX8_pass_20 : decode cX8_pass 20 = .ok (.isub, 1) := by decide +kernel
theorem dX8_pass_21 : decode cX8_pass 21 = .ok (.if_icmp .le 10, 3) := by decide +kernel
theorem dX8_pass_24 : decode cX8_pass 24 = .ok (.aload_n 0, 1) := by decide +kernel
theorem dX8_pass_25 : decode cX8_pass 25 = .ok (.bipush (-6), 2) := by decide +kernel
theorem dX8_pass_27 : decode cX8_pass 27 = .ok (.invokevirtual 100, 3) := by decide +kernel
theorem dX8_pass_30 : decode cX8_pass 30 = .ok (.ireturn, 1) := by decide +kernel
theorem dX8_pass_31 : decode cX8_pass 31 = .ok (.iconst 0, 1) := by decide +kernel
theorem dX8_pass_32 : decode cX8_pass 32 = .ok (.istore_n 2, 1) := by decide +kernel
theorem dX8_pass_33 : decode cX8_pass 33 = .ok (.iconst 0, 1) := by decide +kernel
theorem dX8_pass_34 : decode cX8_pass 34 = .ok (.istore_n 3, 1) := by decide +kernel
theorem dX8_pass_35 : decode cX8_pass 35 = .ok (.iload_n 3, 1) := by decide +kernel
theorem dX8_pass_36 : decode cX8_pass 36 = .ok (.iload_n 1, 1) := by decide +kernel
theorem dX8_pass_37 : decode cX8_pass 37 = .ok (.if_icmp .ge 38, 3) := by decide +kernel
theorem dX8_pass_40 : decode cX8_pass 40 = .ok (.aload_n 0, 1) := by decide +kernel
theorem dX8_pass_41 : decode cX8_pass 41 = .ok (.dup, 1) := by decide +kernel
theorem dX8_pass_42 : decode cX8_pass 42 = .ok (.getfield 91, 3) := by decide +kernel
theorem dX8_pass_45 : decode cX8_pass 45 = .ok (.iconst 1, 1) := by decide +kernel
theorem dX8_pass_46 : decode cX8_pass 46 = .ok (.iadd, 1) := by decide +kernel
theorem dX8_pass_47 : decode cX8_pass 47 = .ok (.putfield 91, 3) := by decide +kernel
theorem dX8_pass_50 : decode cX8_pass 50 = .ok (.iload_n 2, 1) := by decide +kernel
theorem dX8_pass_51 : decode cX8_pass 51 = .ok (.aload_n 0, 1) := by decide +kernel
theorem dX8_pass_52 : decode cX8_pass 52 = .ok (.invokevirtual 192, 3) := by decide +kernel
theorem dX8_pass_55 : decode cX8_pass 55 = .ok (.iadd, 1) := by decide +kernel
theorem dX8_pass_56 : decode cX8_pass 56 = .ok (.istore_n 2, 1) := by decide +kernel
theorem dX8_pass_57 : decode cX8_pass 57 = .ok (.aload_n 0, 1) := by decide +kernel
theorem dX8_pass_58 : decode cX8_pass 58 = .ok (.invokevirtual 195, 3) := by decide +kernel
theorem dX8_pass_61 : decode cX8_pass 61 = .ok (.aload_n 0, 1) := by decide +kernel
theorem dX8_pass_62 : decode cX8_pass 62 = .ok (.invokevirtual 198, 3) := by decide +kernel
theorem dX8_pass_65 : decode cX8_pass 65 = .ok (.aload_n 0, 1) := by decide +kernel
theorem dX8_pass_66 : decode cX8_pass 66 = .ok (.invokevirtual 201, 3) := by decide +kernel
theorem dX8_pass_69 : decode cX8_pass 69 = .ok (.iinc 3 1, 3) := by decide +kernel
theorem dX8_pass_72 : decode cX8_pass 72 = .ok (.goto (-37), 3) := by decide +kernel
theorem dX8_pass_75 : decode cX8_pass 75 = .ok (.iload_n 2, 1) := by decide +kernel
theorem dX8_pass_76 : decode cX8_pass 76 = .ok (.ireturn, 1) := by decide +kernel
theorem dX8_rest_0 : decode cX8_rest 0 = .ok (.aload_n 0, 1) := by decide +kernel
theorem dX8_rest_1 : decode cX8_rest 1 = .ok (.iload_n 1, 1) := by decide +kernel
theorem dX8_rest_2 : decode cX8_rest 2 = .ok (.invokevirtual 127, 3) := by decide +kernel
theorem dX8_rest_5 : decode cX8_rest 5 = .ok (.ifCond .ne 9, 3) := by decide +kernel
theorem dX8_rest_8 : decode cX8_rest 8 = .ok (.aload_n 0, 1) := by decide +kernel
theorem dX8_rest_9 : decode cX8_rest 9 = .ok (.iconst (-1), 1) := by decide +kernel
theorem dX8_rest_10 : decode cX8_rest 10 = .ok (.invokevirtual 100, 3) := by decide +kernel
theorem dX8_rest_13 : decode cX8_rest 13 = .ok (.ireturn, 1) := by decide +kernel
theorem dX8_rest_14 : decode cX8_rest 14 = .ok (.iload_n 2, 1) := by decide +kernel
theorem dX8_rest_15 : decode cX8_rest 15 = .ok (.aload_n 0, 1) := by decide +kernel
theorem dX8_rest_16 : decode cX8_rest 16 = .ok (.getfield 91, 3) := by decide +kernel
theorem dX8_rest_19 : decode cX8_rest 19 = .ok (.if_icmp .ge 10, 3) := by decide +kernel
theorem dX8_rest_22 : decode cX8_rest 22 = .ok (.aload_n 0, 1) := by decide +kernel
theorem dX8_rest_23 : decode cX8_rest 23 = .ok (.bipush (-4), 2) := by decide +kernel
theorem dX8_rest_25 : decode cX8_rest 25 = .ok (.invokevirtual 100, 3) := by decide +kernel
theorem dX8_rest_28 : decode cX8_rest 28 = .ok (.ireturn, 1) := by decide +kernel
theorem dX8_rest_29 : decode cX8_rest 29 = .ok (.iload_n 2, 1) := by decide +kernel
theorem dX8_rest_30 : decode cX8_rest 30 = .ok (.sipush 740, 3) := by decide +kernel
theorem dX8_rest_33 : decode cX8_rest 33 = .ok (.if_icmp .le 10, 3) := by decide +kernel
theorem dX8_rest_36 : decode cX8_rest 36 = .ok (.aload_n 0, 1) := by decide +kernel
theorem dX8_rest_37 : decode cX8_rest 37 = .ok (.bipush (-6), 2) := by decide +kernel
theorem dX8_rest_39 : decode cX8_rest 39 = .ok (.invokevirtual 100, 3) := by decide +kernel
theorem dX8_rest_42 : decode cX8_rest 42 = .ok (.ireturn, 1) := by decide +kernel
theorem dX8_rest_43 : decode cX8_rest 43 = .ok (.aload_n 0, 1) := by decide +kernel
theorem dX8_rest_44 : decode cX8_rest 44 = .ok (.getfield 11, 3) := by decide +kernel
theorem dX8_rest_47 : decode cX8_rest 47 = .ok (.iload_n 1, 1) := by decide +kernel
theorem dX8_rest_48 : decode cX8_rest 48 = .ok (.aaload, 1) := by decide +kernel
theorem dX8_rest_49 : decode cX8_rest 49 = .ok (.getfield 204, 3) := by decide +kernel
theorem dX8_rest_52 : decode cX8_rest 52 = .ok (.istore_n 3, 1) := by decide +kernel
theorem dX8_rest_53 : decode cX8_rest 53 = .ok (.aload_n 0, 1) := by decide +kernel
theorem dX8_rest_54 : decode cX8_rest 54 = .ok (.getfield 11, 3) := by decide +kernel
theorem dX8_rest_57 : decode cX8_rest 57 = .ok (.iload_n 1, 1) := by decide +kernel
theorem dX8_rest_58 : decode cX8_rest 58 = .ok (.aaload, 1) := by decide +kernel
theorem dX8_rest_59 : decode cX8_rest 59 = .ok (.iload_n 2, 1) := by decide +kernel
theorem dX8_rest_60 : decode cX8_rest 60 = .ok (.putfield 204, 3) := by decide +kernel
theorem dX8_rest_63 : decode cX8_rest 63 = .ok (.iload_n 3, 1) := by decide +kernel
theorem dX8_rest_64 : decode cX8_rest 64 = .ok (.ireturn, 1) := by decide +kernel
theorem dX8_cut_0 : decode cX8_cut 0 = .ok (.aload_n 0, 1) := by decide +kernel
theorem dX8_cut_1 : decode cX8_cut 1 = .ok (.iload_n 1, 1) := by decide +kernel
theorem dX8_cut_2 : decode cX8_cut 2 = .ok (.invokevirtual 127, 3) := by decide +kernel
theorem dX8_cut_5 : decode cX8_cut 5 = .ok (.ifCond .ne 9, 3) := by decide +kernel
theorem dX8_cut_8 : decode cX8_cut 8 = .ok (.aload_n 0, 1) := by decide +kernel
theorem dX8_cut_9 : decode cX8_cut 9 = .ok (.iconst (-1), 1) := by decide +kernel
theorem dX8_cut_10 : decode cX8_cut 10 = .ok (.invokevirtual 100, 3) := by decide +kernel
theorem dX8_cut_13 : decode cX8_cut 13 = .ok (.ireturn, 1) := by decide +kernel
theorem dX8_cut_14 : decode cX8_cut 14 = .ok (.aload_n 0, 1) := by decide +kernel
theorem dX8_cut_15 : decode cX8_cut 15 = .ok (.getfield 11, 3) := by decide +kernel
theorem dX8_cut_18 : decode cX8_cut 18 = .ok (.iload_n 1, 1) := by decide +kernel
theorem dX8_cut_19 : decode cX8_cut 19 = .ok (.aaload, 1) := by decide +kernel
theorem dX8_cut_20 : decode cX8_cut 20 = .ok (.astore_n 2, 1) := by decide +kernel
theorem dX8_cut_21 : decode cX8_cut 21 = .ok (.aload_n 2, 1) := by decide +kernel
theorem dX8_cut_22 : decode cX8_cut 22 = .ok (.aload_n 0, 1) := by decide +kernel
theorem dX8_cut_23 : decode cX8_cut 23 = .ok (.getfield 91, 3) := by decide +kernel
theorem dX8_cut_26 : decode cX8_cut 26 = .ok (.invokevirtual 166, 3) := by decide +kernel
theorem dX8_cut_29 : decode cX8_cut 29 = .ok (.ifCond .ne 11, 3) := by decide +kernel
theorem dX8_cut_32 : decode cX8_cut 32 = .ok (.aload_n 0, 1) := by decide +kernel
theorem dX8_cut_33 : decode cX8_cut 33 = .ok (.iload_n 1, 1) := by decide +kernel
theorem dX8_cut_34 : decode cX8_cut 34 = .ok (.invokevirtual 207, 3) := by decide +kernel
theorem dX8_cut_37 : decode cX8_cut 37 = .ok (.ifCond .le 10, 3) := by decide +kernel
theorem dX8_cut_40 : decode cX8_cut 40 = .ok (.aload_n 0, 1) := by decide +kernel
theorem dX8_cut_41 : decode cX8_cut 41 = .ok (.bipush (-3), 2) := by decide +kernel
theorem dX8_cut_43 : decode cX8_cut 43 = .ok (.invokevirtual 100, 3) := by decide +kernel
theorem dX8_cut_46 : decode cX8_cut 46 = .ok (.ireturn, 1) := by decide +kernel
theorem dX8_cut_47 : decode cX8_cut 47 = .ok (.iconst 0, 1) := by decide +kernel
theorem dX8_cut_48 : decode cX8_cut 48 = .ok (.aload_n 2, 1) := by decide +kernel
theorem dX8_cut_49 : decode cX8_cut 49 = .ok (.getfield 210, 3) := by decide +kernel
theorem dX8_cut_52 : decode cX8_cut 52 = .ok (.bipush 100, 2) := by decide +kernel
theorem dX8_cut_54 : decode cX8_cut 54 = .ok (.isub, 1) := by decide +kernel
theorem dX8_cut_55 : decode cX8_cut 55 = .ok (.invokestatic 213, 3) := by decide +kernel
theorem dX8_cut_58 : decode cX8_cut 58 = .ok (.istore_n 3, 1) := by decide +kernel
theorem dX8_cut_59 : decode cX8_cut 59 = .ok (.aload_n 2, 1) := by decide +kernel
theorem dX8_cut_60 : decode cX8_cut 60 = .ok (.dup, 1) := by decide +kernel
theorem dX8_cut_61 : decode cX8_cut 61 = .ok (.getfield 210, 3) := by decide +kernel
theorem dX8_cut_64 : decode cX8_cut 64 = .ok (.iload_n 3, 1) := by decide +kernel
theorem dX8_cut_65 : decode cX8_cut 65 = .ok (.isub, 1) := by decide +kernel
theorem dX8_cut_66 : decode cX8_cut 66 = .ok (.putfield 210, 3) := by decide +kernel
theorem dX8_cut_69 : decode cX8_cut 69 = .ok (.aload_n 2, 1) := by decide +kernel
theorem dX8_cut_70 : decode cX8_cut 70 = .ok (.aload_n 0, 1) := by decide +kernel
theorem dX8_cut_71 : decode cX8_cut 71 = .ok (.getfield 91, 3) := by decide +kernel
theorem dX8_cut_74 : decode cX8_cut 74 = .ok (.bipush 20, 2) := by decide +kernel
theorem dX8_cut_76 : decode cX8_cut 76 = .ok (.iadd, 1) := by decide +kernel
theorem dX8_cut_77 : decode cX8_cut 77 = .ok (.putfield 204, 3) := by decide +kernel
theorem dX8_cut_80 : decode cX8_cut 80 = .ok (.aload_n 0, 1) := by decide +kernel
theorem dX8_cut_81 : decode cX8_cut 81 = .ok (.iload_n 1, 1) := by decide +kernel
theorem dX8_cut_82 : decode cX8_cut 82 = .ok (.iload_n 3, 1) := by decide +kernel
theorem dX8_cut_83 : decode cX8_cut 83 = .ok (.invokevirtual 218, 3) := by decide +kernel
theorem dX8_cut_86 : decode cX8_cut 86 = .ok (.iload_n 3, 1) := by decide +kernel
theorem dX8_cut_87 : decode cX8_cut 87 = .ok (.ireturn, 1) := by decide +kernel
theorem dX8_pound_0 : decode cX8_pound 0 = .ok (.aload_n 0, 1) := by decide +kernel
theorem dX8_pound_1 : decode cX8_pound 1 = .ok (.iload_n 1, 1) := by decide +kernel
theorem dX8_pound_2 : decode cX8_pound 2 = .ok (.invokevirtual 157, 3) := by decide +kernel
theorem dX8_pound_5 : decode cX8_pound 5 = .ok (.ifCond .ne 9, 3) := by decide +kernel
theorem dX8_pound_8 : decode cX8_pound 8 = .ok (.aload_n 0, 1) := by decide +kernel
theorem dX8_pound_9 : decode cX8_pound 9 = .ok (.iconst (-1), 1) := by decide +kernel
theorem dX8_pound_10 : decode cX8_pound 10 = .ok (.invokevirtual 100, 3) := by decide +kernel
theorem dX8_pound_13 : decode cX8_pound 13 = .ok (.ireturn, 1) := by decide +kernel
theorem dX8_pound_14 : decode cX8_pound 14 = .ok (.aload_n 0, 1) := by decide +kernel
theorem dX8_pound_15 : decode cX8_pound 15 = .ok (.getfield 40, 3) := by decide +kernel
theorem dX8_pound_18 : decode cX8_pound 18 = .ok (.iload_n 1, 1) := by decide +kernel
theorem dX8_pound_19 : decode cX8_pound 19 = .ok (.aaload, 1) := by decide +kernel
theorem dX8_pound_20 : decode cX8_pound 20 = .ok (.astore_n 2, 1) := by decide +kernel
theorem dX8_pound_21 : decode cX8_pound 21 = .ok (.aload_n 2, 1) := by decide +kernel
theorem dX8_pound_22 : decode cX8_pound 22 = .ok (.getfield 163, 3) := by decide +kernel
theorem dX8_pound_25 : decode cX8_pound 25 = .ok (.iconst (-1), 1) := by decide +kernel
theorem dX8_pound_26 : decode cX8_pound 26 = .ok (.if_icmp .eq 14, 3) := by decide +kernel
theorem dX8_pound_29 : decode cX8_pound 29 = .ok (.aload_n 0, 1) := by decide +kernel
theorem dX8_pound_30 : decode cX8_pound 30 = .ok (.aload_n 2, 1) := by decide +kernel
theorem dX8_pound_31 : decode cX8_pound 31 = .ok (.getfield 169, 3) := by decide +kernel
theorem dX8_pound_34 : decode cX8_pound 34 = .ok (.invokevirtual 172, 3) := by decide +kernel
theorem dX8_pound_37 : decode cX8_pound 37 = .ok (.ifCond .ne 10, 3) := by decide +kernel
theorem dX8_pound_40 : decode cX8_pound 40 = .ok (.aload_n 0, 1) := by decide +kernel
theorem dX8_pound_41 : decode cX8_pound 41 = .ok (.bipush (-3), 2) := by decide +kernel
theorem dX8_pound_43 : decode cX8_pound 43 = .ok (.invokevirtual 100, 3) := by decide +kernel
theorem dX8_pound_46 : decode cX8_pound 46 = .ok (.ireturn, 1) := by decide +kernel
theorem dX8_pound_47 : decode cX8_pound 47 = .ok (.aload_n 2, 1) := by decide +kernel
theorem dX8_pound_48 : decode cX8_pound 48 = .ok (.iconst (-1), 1) := by decide +kernel
theorem dX8_pound_49 : decode cX8_pound 49 = .ok (.putfield 163, 3) := by decide +kernel
theorem dX8_pound_52 : decode cX8_pound 52 = .ok (.aload_n 2, 1) := by decide +kernel
theorem dX8_pound_53 : decode cX8_pound 53 = .ok (.iconst 1, 1) := by decide +kernel
theorem dX8_pound_54 : decode cX8_pound 54 = .ok (.putfield 160, 3) := by decide +kernel
theorem dX8_pound_57 : decode cX8_pound 57 = .ok (.aload_n 2, 1) := by decide +kernel
theorem dX8_pound_58 : decode cX8_pound 58 = .ok (.aload_n 0, 1) := by decide +kernel
theorem dX8_pound_59 : decode cX8_pound 59 = .ok (.getfield 91, 3) := by decide +kernel
theorem dX8_pound_62 : decode cX8_pound 62 = .ok (.putfield 222, 3) := by decide +kernel
theorem dX8_pound_65 : decode cX8_pound 65 = .ok (.iconst 1, 1) := by decide +kernel
theorem dX8_pound_66 : decode cX8_pound 66 = .ok (.ireturn, 1) := by decide +kernel
theorem dX8_free_0 : decode cX8_free 0 = .ok (.aload_n 0, 1) := by decide +kernel
theorem dX8_free_1 : decode cX8_free 1 = .ok (.iload_n 1, 1) := by decide +kernel
theorem dX8_free_2 : decode cX8_free 2 = .ok (.invokevirtual 157, 3) := by decide +kernel
theorem dX8_free_5 : decode cX8_free 5 = .ok (.ifCond .ne 9, 3) := by decide +kernel
theorem dX8_free_8 : decode cX8_free 8 = .ok (.aload_n 0, 1) := by decide +kernel
theorem dX8_free_9 : decode cX8_free 9 = .ok (.iconst (-1), 1) := by decide +kernel
theorem dX8_free_10 : decode cX8_free 10 = .ok (.invokevirtual 100, 3) := by decide +kernel
theorem dX8_free_13 : decode cX8_free 13 = .ok (.ireturn, 1) := by decide +kernel
theorem dX8_free_14 : decode cX8_free 14 = .ok (.aload_n 0, 1) := by decide +kernel
theorem dX8_free_15 : decode cX8_free 15 = .ok (.getfield 40, 3) := by decide +kernel
theorem dX8_free_18 : decode cX8_free 18 = .ok (.iload_n 1, 1) := by decide +kernel
theorem dX8_free_19 : decode cX8_free 19 = .ok (.aaload, 1) := by decide +kernel
theorem dX8_free_20 : decode cX8_free 20 = .ok (.astore_n 2, 1) := by decide +kernel
theorem dX8_free_21 : decode cX8_free 21 = .ok (.aload_n 2, 1) := by decide +kernel
theorem dX8_free_22 : decode cX8_free 22 = .ok (.getfield 160, 3) := by decide +kernel
theorem dX8_free_25 : decode cX8_free 25 = .ok (.iconst 1, 1) := by decide +kernel
theorem dX8_free_26 : decode cX8_free 26 = .ok (.if_icmp .eq 10, 3) := by decide +kernel
theorem dX8_free_29 : decode cX8_free 29 = .ok (.aload_n 0, 1) := by decide +kernel
theorem dX8_free_30 : decode cX8_free 30 = .ok (.bipush (-3), 2) := by decide +kernel
theorem dX8_free_32 : decode cX8_free 32 = .ok (.invokevirtual 100, 3) := by decide +kernel
theorem dX8_free_35 : decode cX8_free 35 = .ok (.ireturn, 1) := by decide +kernel
theorem dX8_free_36 : decode cX8_free 36 = .ok (.aload_n 2, 1) := by decide +kernel
theorem dX8_free_37 : decode cX8_free 37 = .ok (.aload_n 0, 1) := by decide +kernel
theorem dX8_free_38 : decode cX8_free 38 = .ok (.getfield 91, 3) := by decide +kernel
theorem dX8_free_41 : decode cX8_free 41 = .ok (.invokevirtual 225, 3) := by decide +kernel
theorem dX8_free_44 : decode cX8_free 44 = .ok (.istore_n 3, 1) := by decide +kernel
theorem dX8_free_45 : decode cX8_free 45 = .ok (.aload_n 0, 1) := by decide +kernel
theorem dX8_free_46 : decode cX8_free 46 = .ok (.getfield 17, 3) := by decide +kernel
theorem dX8_free_49 : decode cX8_free 49 = .ok (.aload_n 2, 1) := by decide +kernel
theorem dX8_free_50 : decode cX8_free 50 = .ok (.getfield 169, 3) := by decide +kernel
theorem dX8_free_53 : decode cX8_free 53 = .ok (.aaload, 1) := by decide +kernel
theorem dX8_free_54 : decode cX8_free 54 = .ok (.astore 4, 2) := by decide +kernel
theorem dX8_free_56 : decode cX8_free 56 = .ok (.aload 4, 2) := by decide +kernel
theorem dX8_free_58 : decode cX8_free 58 = .ok (.getfield 228, 3) := by decide +kernel
theorem dX8_free_61 : decode cX8_free 61 = .ok (.iload_n 3, 1) := by decide +kernel
theorem dX8_free_62 : decode cX8_free 62 = .ok (.if_icmp .ge 10, 3) := by decide +kernel
theorem dX8_free_65 : decode cX8_free 65 = .ok (.aload_n 0, 1) := by decide +kernel
theorem dX8_free_66 : decode cX8_free 66 = .ok (.bipush (-5), 2) := by decide +kernel
theorem dX8_free_68 : decode cX8_free 68 = .ok (.invokevirtual 100, 3) := by decide +kernel
theorem dX8_free_71 : decode cX8_free 71 = .ok (.ireturn, 1) := by decide +kernel
theorem dX8_free_72 : decode cX8_free 72 = .ok (.aload 4, 2) := by decide +kernel
theorem dX8_free_74 : decode cX8_free 74 = .ok (.dup, 1) := by decide +kernel
theorem dX8_free_75 : decode cX8_free 75 = .ok (.getfield 228, 3) := by decide +kernel
theorem dX8_free_78 : decode cX8_free 78 = .ok (.iload_n 3, 1) := by decide +kernel
theorem dX8_free_79 : decode cX8_free 79 = .ok (.isub, 1) := by decide +kernel
theorem dX8_free_80 : decode cX8_free 80 = .ok (.putfield 228, 3) := by decide +kernel
theorem dX8_free_83 : decode cX8_free 83 = .ok (.aload_n 0, 1) := by decide +kernel
theorem dX8_free_84 : decode cX8_free 84 = .ok (.getfield 24, 3) := by decide +kernel
theorem dX8_free_87 : decode cX8_free 87 = .ok (.dup, 1) := by decide +kernel
theorem dX8_free_88 : decode cX8_free 88 = .ok (.getfield 228, 3) := by decide +kernel
theorem dX8_free_91 : decode cX8_free 91 = .ok (.iload_n 3, 1) := by decide +kernel
theorem dX8_free_92 : decode cX8_free 92 = .ok (.iadd, 1) := by decide +kernel
theorem dX8_free_93 : decode cX8_free 93 = .ok (.putfield 228, 3) := by decide +kernel
theorem dX8_free_96 : decode cX8_free 96 = .ok (.aload_n 2, 1) := by decide +kernel
theorem dX8_free_97 : decode cX8_free 97 = .ok (.iconst 0, 1) := by decide +kernel
theorem dX8_free_98 : decode cX8_free 98 = .ok (.putfield 160, 3) := by decide +kernel
theorem dX8_free_101 : decode cX8_free 101 = .ok (.iload_n 3, 1) := by decide +kernel
theorem dX8_free_102 : decode cX8_free 102 = .ok (.ireturn, 1) := by decide +kernel
theorem dX8_plan_0 : decode cX8_plan 0 = .ok (.aload_n 0, 1) := by decide +kernel
theorem dX8_plan_1 : decode cX8_plan 1 = .ok (.iload_n 1, 1) := by decide +kernel
theorem dX8_plan_2 : decode cX8_plan 2 = .ok (.invokevirtual 157, 3) := by decide +kernel
theorem dX8_plan_5 : decode cX8_plan 5 = .ok (.ifCond .eq 21, 3) := by decide +kernel
theorem dX8_plan_8 : decode cX8_plan 8 = .ok (.iload_n 1, 1) := by decide +kernel
theorem dX8_plan_9 : decode cX8_plan 9 = .ok (.iload_n 2, 1) := by decide +kernel
theorem dX8_plan_10 : decode cX8_plan 10 = .ok (.if_icmp .eq 16, 3) := by decide +kernel
theorem dX8_plan_13 : decode cX8_plan 13 = .ok (.iload_n 2, 1) := by decide +kernel
theorem dX8_plan_14 : decode cX8_plan 14 = .ok (.iconst (-1), 1) := by decide +kernel
theorem dX8_plan_15 : decode cX8_plan 15 = .ok (.if_icmp .eq 17, 3) := by decide +kernel
theorem dX8_plan_18 : decode cX8_plan 18 = .ok (.aload_n 0, 1) := by decide +kernel
theorem dX8_plan_19 : decode cX8_plan 19 = .ok (.iload_n 2, 1) := by decide +kernel
theorem dX8_plan_20 : decode cX8_plan 20 = .ok (.invokevirtual 157, 3) := by decide +kernel
theorem dX8_plan_23 : decode cX8_plan 23 = .ok (.ifCond .ne 9, 3) := by decide +kernel
theorem dX8_plan_26 : decode cX8_plan 26 = .ok (.aload_n 0, 1) := by decide +kernel
theorem dX8_plan_27 : decode cX8_plan 27 = .ok (.iconst (-1), 1) := by decide +kernel
