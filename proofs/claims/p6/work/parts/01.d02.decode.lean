theorem dX9_isAsked_44 : decode cX9_isAsked 44 = .ok (.aload_n 0, 1) := by decide +kernel
theorem dX9_isAsked_45 : decode cX9_isAsked 45 = .ok (.getfield 50, 3) := by decide +kernel
theorem dX9_isAsked_48 : decode cX9_isAsked 48 = .ok (.iload_n 1, 1) := by decide +kernel
theorem dX9_isAsked_49 : decode cX9_isAsked 49 = .ok (.iaload, 1) := by decide +kernel
theorem dX9_isAsked_50 : decode cX9_isAsked 50 = .ok (.iconst 2, 1) := by decide +kernel
theorem dX9_isAsked_51 : decode cX9_isAsked 51 = .ok (.if_icmp .ne 14, 3) := by decide +kernel
theorem dX9_isAsked_54 : decode cX9_isAsked 54 = .ok (.aload_n 0, 1) := by decide +kernel
theorem dX9_isAsked_55 : decode cX9_isAsked 55 = .ok (.getfield 83, 3) := by decide +kernel
theorem dX9_isAsked_58 : decode cX9_isAsked 58 = .ok (.iload 4, 2) := by decide +kernel
theorem dX9_isAsked_60 : decode cX9_isAsked 60 = .ok (.iaload, 1) := by decide +kernel
theorem dX9_isAsked_61 : decode cX9_isAsked 61 = .ok (.iconst 2, 1) := by decide +kernel
theorem dX9_isAsked_62 : decode cX9_isAsked 62 = .ok (.if_icmp .ne 33, 3) := by decide +kernel
theorem dX9_isAsked_65 : decode cX9_isAsked 65 = .ok (.aload_n 0, 1) := by decide +kernel
theorem dX9_isAsked_66 : decode cX9_isAsked 66 = .ok (.getfield 50, 3) := by decide +kernel
theorem dX9_isAsked_69 : decode cX9_isAsked 69 = .ok (.iload_n 1, 1) := by decide +kernel
theorem dX9_isAsked_70 : decode cX9_isAsked 70 = .ok (.iaload, 1) := by decide +kernel
theorem dX9_isAsked_71 : decode cX9_isAsked 71 = .ok (.iconst 3, 1) := by decide +kernel
theorem dX9_isAsked_72 : decode cX9_isAsked 72 = .ok (.if_icmp .ne 19, 3) := by decide +kernel
theorem dX9_isAsked_75 : decode cX9_isAsked 75 = .ok (.aload_n 0, 1) := by decide +kernel
theorem dX9_isAsked_76 : decode cX9_isAsked 76 = .ok (.getfield 89, 3) := by decide +kernel
theorem dX9_isAsked_79 : decode cX9_isAsked 79 = .ok (.iload 4, 2) := by decide +kernel
theorem dX9_isAsked_81 : decode cX9_isAsked 81 = .ok (.iaload, 1) := by decide +kernel
theorem dX9_isAsked_82 : decode cX9_isAsked 82 = .ok (.aload_n 0, 1) := by decide +kernel
theorem dX9_isAsked_83 : decode cX9_isAsked 83 = .ok (.getfield 65, 3) := by decide +kernel
theorem dX9_isAsked_86 : decode cX9_isAsked 86 = .ok (.iload_n 1, 1) := by decide +kernel
theorem dX9_isAsked_87 : decode cX9_isAsked 87 = .ok (.iaload, 1) := by decide +kernel
theorem dX9_isAsked_88 : decode cX9_isAsked 88 = .ok (.if_icmp .ne 7, 3) := by decide +kernel
theorem dX9_isAsked_91 : decode cX9_isAsked 91 = .ok (.iconst 1, 1) := by decide +kernel
theorem dX9_isAsked_92 : decode cX9_isAsked 92 = .ok (.goto 4, 3) := by decide +kernel
theorem dX9_isAsked_95 : decode cX9_isAsked 95 = .ok (.iconst 0, 1) := by decide +kernel
theorem dX9_isAsked_96 : decode cX9_isAsked 96 = .ok (.istore_n 3, 1) := by decide +kernel
theorem dX9_isAsked_97 : decode cX9_isAsked 97 = .ok (.iinc 4 1, 3) := by decide +kernel
theorem dX9_isAsked_100 : decode cX9_isAsked 100 = .ok (.goto (-89), 3) := by decide +kernel
theorem dX9_isAsked_103 : decode cX9_isAsked 103 = .ok (.iload_n 3, 1) := by decide +kernel
theorem dX9_isAsked_104 : decode cX9_isAsked 104 = .ok (.ireturn, 1) := by decide +kernel
theorem dX9_rest_0 : decode cX9_rest 0 = .ok (.iload_n 1, 1) := by decide +kernel
theorem dX9_rest_1 : decode cX9_rest 1 = .ok (.aload_n 0, 1) := by decide +kernel
theorem dX9_rest_2 : decode cX9_rest 2 = .ok (.getfield 127, 3) := by decide +kernel
theorem dX9_rest_5 : decode cX9_rest 5 = .ok (.invokestatic 134, 3) := by decide +kernel
theorem dX9_rest_8 : decode cX9_rest 8 = .ok (.ifCond .ne 9, 3) := by decide +kernel
theorem dX9_rest_11 : decode cX9_rest 11 = .ok (.aload_n 0, 1) := by decide +kernel
theorem dX9_rest_12 : decode cX9_rest 12 = .ok (.iconst (-1), 1) := by decide +kernel
theorem dX9_rest_13 : decode cX9_rest 13 = .ok (.invokevirtual 122, 3) := by decide +kernel
theorem dX9_rest_16 : decode cX9_rest 16 = .ok (.ireturn, 1) := by decide +kernel
theorem dX9_rest_17 : decode cX9_rest 17 = .ok (.iload_n 2, 1) := by decide +kernel
theorem dX9_rest_18 : decode cX9_rest 18 = .ok (.aload_n 0, 1) := by decide +kernel
theorem dX9_rest_19 : decode cX9_rest 19 = .ok (.getfield 141, 3) := by decide +kernel
theorem dX9_rest_22 : decode cX9_rest 22 = .ok (.if_icmp .ge 10, 3) := by decide +kernel
theorem dX9_rest_25 : decode cX9_rest 25 = .ok (.aload_n 0, 1) := by decide +kernel
theorem dX9_rest_26 : decode cX9_rest 26 = .ok (.bipush (-4), 2) := by decide +kernel
theorem dX9_rest_28 : decode cX9_rest 28 = .ok (.invokevirtual 122, 3) := by decide +kernel
theorem dX9_rest_31 : decode cX9_rest 31 = .ok (.ireturn, 1) := by decide +kernel
theorem dX9_rest_32 : decode cX9_rest 32 = .ok (.iload_n 2, 1) := by decide +kernel
theorem dX9_rest_33 : decode cX9_rest 33 = .ok (.sipush 740, 3) := by decide +kernel
theorem dX9_rest_36 : decode cX9_rest 36 = .ok (.if_icmp .le 10, 3) := by decide +kernel
theorem dX9_rest_39 : decode cX9_rest 39 = .ok (.aload_n 0, 1) := by decide +kernel
theorem dX9_rest_40 : decode cX9_rest 40 = .ok (.bipush (-6), 2) := by decide +kernel
theorem dX9_rest_42 : decode cX9_rest 42 = .ok (.invokevirtual 122, 3) := by decide +kernel
theorem dX9_rest_45 : decode cX9_rest 45 = .ok (.ireturn, 1) := by decide +kernel
theorem dX9_rest_46 : decode cX9_rest 46 = .ok (.aload_n 0, 1) := by decide +kernel
theorem dX9_rest_47 : decode cX9_rest 47 = .ok (.getfield 22, 3) := by decide +kernel
theorem dX9_rest_50 : decode cX9_rest 50 = .ok (.iload_n 1, 1) := by decide +kernel
theorem dX9_rest_51 : decode cX9_rest 51 = .ok (.iaload, 1) := by decide +kernel
theorem dX9_rest_52 : decode cX9_rest 52 = .ok (.istore_n 3, 1) := by decide +kernel
theorem dX9_rest_53 : decode cX9_rest 53 = .ok (.aload_n 0, 1) := by decide +kernel
theorem dX9_rest_54 : decode cX9_rest 54 = .ok (.getfield 22, 3) := by decide +kernel
theorem dX9_rest_57 : decode cX9_rest 57 = .ok (.iload_n 1, 1) := by decide +kernel
theorem dX9_rest_58 : decode cX9_rest 58 = .ok (.iload_n 2, 1) := by decide +kernel
theorem dX9_rest_59 : decode cX9_rest 59 = .ok (.iastore, 1) := by decide +kernel
theorem dX9_rest_60 : decode cX9_rest 60 = .ok (.iload_n 3, 1) := by decide +kernel
theorem dX9_rest_61 : decode cX9_rest 61 = .ok (.ireturn, 1) := by decide +kernel
theorem dX9_counts_0 : decode cX9_counts 0 = .ok (.aload_n 0, 1) := by decide +kernel
theorem dX9_counts_1 : decode cX9_counts 1 = .ok (.getfield 50, 3) := by decide +kernel
theorem dX9_counts_4 : decode cX9_counts 4 = .ok (.iload_n 1, 1) := by decide +kernel
theorem dX9_counts_5 : decode cX9_counts 5 = .ok (.iaload, 1) := by decide +kernel
theorem dX9_counts_6 : decode cX9_counts 6 = .ok (.iconst 2, 1) := by decide +kernel
theorem dX9_counts_7 : decode cX9_counts 7 = .ok (.if_icmp .eq 23, 3) := by decide +kernel
theorem dX9_counts_10 : decode cX9_counts 10 = .ok (.aload_n 0, 1) := by decide +kernel
theorem dX9_counts_11 : decode cX9_counts 11 = .ok (.getfield 50, 3) := by decide +kernel
theorem dX9_counts_14 : decode cX9_counts 14 = .ok (.iload_n 1, 1) := by decide +kernel
theorem dX9_counts_15 : decode cX9_counts 15 = .ok (.iaload, 1) := by decide +kernel
theorem dX9_counts_16 : decode cX9_counts 16 = .ok (.iconst 3, 1) := by decide +kernel
theorem dX9_counts_17 : decode cX9_counts 17 = .ok (.if_icmp .ne 17, 3) := by decide +kernel
theorem dX9_counts_20 : decode cX9_counts 20 = .ok (.aload_n 0, 1) := by decide +kernel
theorem dX9_counts_21 : decode cX9_counts 21 = .ok (.getfield 65, 3) := by decide +kernel
theorem dX9_counts_24 : decode cX9_counts 24 = .ok (.iload_n 1, 1) := by decide +kernel
theorem dX9_counts_25 : decode cX9_counts 25 = .ok (.iaload, 1) := by decide +kernel
theorem dX9_counts_26 : decode cX9_counts 26 = .ok (.iload_n 2, 1) := by decide +kernel
theorem dX9_counts_27 : decode cX9_counts 27 = .ok (.if_icmp .eq 7, 3) := by decide +kernel
theorem dX9_counts_30 : decode cX9_counts 30 = .ok (.iconst 0, 1) := by decide +kernel
theorem dX9_counts_31 : decode cX9_counts 31 = .ok (.goto 8, 3) := by decide +kernel
theorem dX9_counts_34 : decode cX9_counts 34 = .ok (.aload_n 0, 1) := by decide +kernel
theorem dX9_counts_35 : decode cX9_counts 35 = .ok (.iload_n 1, 1) := by decide +kernel
theorem dX9_counts_36 : decode cX9_counts 36 = .ok (.invokevirtual 158, 3) := by decide +kernel
theorem dX9_counts_39 : decode cX9_counts 39 = .ok (.ireturn, 1) := by decide +kernel
theorem dX9_feeOf_0 : decode cX9_feeOf 0 = .ok (.aload_n 0, 1) := by decide +kernel
theorem dX9_feeOf_1 : decode cX9_feeOf 1 = .ok (.getfield 98, 3) := by decide +kernel
theorem dX9_feeOf_4 : decode cX9_feeOf 4 = .ok (.iload_n 1, 1) := by decide +kernel
theorem dX9_feeOf_5 : decode cX9_feeOf 5 = .ok (.iaload, 1) := by decide +kernel
theorem dX9_feeOf_6 : decode cX9_feeOf 6 = .ok (.iconst 1, 1) := by decide +kernel
theorem dX9_feeOf_7 : decode cX9_feeOf 7 = .ok (.if_icmp .ne 26, 3) := by decide +kernel
theorem dX9_feeOf_10 : decode cX9_feeOf 10 = .ok (.aload_n 0, 1) := by decide +kernel
theorem dX9_feeOf_11 : decode cX9_feeOf 11 = .ok (.getfield 141, 3) := by decide +kernel
theorem dX9_feeOf_14 : decode cX9_feeOf 14 = .ok (.aload_n 0, 1) := by decide +kernel
theorem dX9_feeOf_15 : decode cX9_feeOf 15 = .ok (.getfield 101, 3) := by decide +kernel
theorem dX9_feeOf_18 : decode cX9_feeOf 18 = .ok (.iload_n 1, 1) := by decide +kernel
theorem dX9_feeOf_19 : decode cX9_feeOf 19 = .ok (.iaload, 1) := by decide +kernel
theorem dX9_feeOf_20 : decode cX9_feeOf 20 = .ok (.isub, 1) := by decide +kernel
theorem dX9_feeOf_21 : decode cX9_feeOf 21 = .ok (.iconst 1, 1) := by decide +kernel
theorem dX9_feeOf_22 : decode cX9_feeOf 22 = .ok (.iadd, 1) := by decide +kernel
theorem dX9_feeOf_23 : decode cX9_feeOf 23 = .ok (.aload_n 0, 1) := by decide +kernel
theorem dX9_feeOf_24 : decode cX9_feeOf 24 = .ok (.getfield 86, 3) := by decide +kernel
theorem dX9_feeOf_27 : decode cX9_feeOf 27 = .ok (.iload_n 1, 1) := by decide +kernel
theorem dX9_feeOf_28 : decode cX9_feeOf 28 = .ok (.iaload, 1) := by decide +kernel
theorem dX9_feeOf_29 : decode cX9_feeOf 29 = .ok (.imul, 1) := by decide +kernel
theorem dX9_feeOf_30 : decode cX9_feeOf 30 = .ok (.goto 4, 3) := by decide +kernel
theorem dX9_feeOf_33 : decode cX9_feeOf 33 = .ok (.iconst 0, 1) := by decide +kernel
theorem dX9_feeOf_34 : decode cX9_feeOf 34 = .ok (.ireturn, 1) := by decide +kernel
theorem dX9_mayTake_0 : decode cX9_mayTake 0 = .ok (.aload_n 0, 1) := by decide +kernel
theorem dX9_mayTake_1 : decode cX9_mayTake 1 = .ok (.getfield 141, 3) := by decide +kernel
theorem dX9_mayTake_4 : decode cX9_mayTake 4 = .ok (.iconst 1, 1) := by decide +kernel
theorem dX9_mayTake_5 : decode cX9_mayTake 5 = .ok (.iadd, 1) := by decide +kernel
theorem dX9_mayTake_6 : decode cX9_mayTake 6 = .ok (.iload_n 1, 1) := by decide +kernel
theorem dX9_mayTake_7 : decode cX9_mayTake 7 = .ok (.iload_n 3, 1) := by decide +kernel
theorem dX9_mayTake_8 : decode cX9_mayTake 8 = .ok (.imul, 1) := by decide +kernel
theorem dX9_mayTake_9 : decode cX9_mayTake 9 = .ok (.iadd, 1) := by decide +kernel
theorem dX9_mayTake_10 : decode cX9_mayTake 10 = .ok (.aload_n 0, 1) := by decide +kernel
theorem dX9_mayTake_11 : decode cX9_mayTake 11 = .ok (.getfield 22, 3) := by decide +kernel
theorem dX9_mayTake_14 : decode cX9_mayTake 14 = .ok (.iload_n 2, 1) := by decide +kernel
theorem dX9_mayTake_15 : decode cX9_mayTake 15 = .ok (.iaload, 1) := by decide +kernel
theorem dX9_mayTake_16 : decode cX9_mayTake 16 = .ok (.if_icmp .le 7, 3) := by decide +kernel
theorem dX9_mayTake_19 : decode cX9_mayTake 19 = .ok (.iconst 1, 1) := by decide +kernel
theorem dX9_mayTake_20 : decode cX9_mayTake 20 = .ok (.goto 4, 3) := by decide +kernel
theorem dX9_mayTake_23 : decode cX9_mayTake 23 = .ok (.iconst 0, 1) := by decide +kernel
theorem dX9_mayTake_24 : decode cX9_mayTake 24 = .ok (.ireturn, 1) := by decide +kernel
theorem dX9_rightOf_0 : decode cX9_rightOf 0 = .ok (.iload_n 1, 1) := by decide +kernel
theorem dX9_rightOf_1 : decode cX9_rightOf 1 = .ok (.aload_n 0, 1) := by decide +kernel
theorem dX9_rightOf_2 : decode cX9_rightOf 2 = .ok (.getfield 148, 3) := by decide +kernel
theorem dX9_rightOf_5 : decode cX9_rightOf 5 = .ok (.invokestatic 134, 3) := by decide +kernel
theorem dX9_rightOf_8 : decode cX9_rightOf 8 = .ok (.ifCond .ne 9, 3) := by decide +kernel
theorem dX9_rightOf_11 : decode cX9_rightOf 11 = .ok (.aload_n 0, 1) := by decide +kernel
theorem dX9_rightOf_12 : decode cX9_rightOf 12 = .ok (.iconst (-1), 1) := by decide +kernel
theorem dX9_rightOf_13 : decode cX9_rightOf 13 = .ok (.invokevirtual 122, 3) := by decide +kernel
theorem dX9_rightOf_16 : decode cX9_rightOf 16 = .ok (.ireturn, 1) := by decide +kernel
theorem dX9_rightOf_17 : decode cX9_rightOf 17 = .ok (.iload_n 2, 1) := by decide +kernel
theorem dX9_rightOf_18 : decode cX9_rightOf 18 = .ok (.tableswitch 126 0 8 #[50, 57, 63, 69, 76, 83, 98, 112, 119], 50) := by decide +kernel
theorem dX9_rightOf_68 : decode cX9_rightOf 68 = .ok (.aload_n 0, 1) := by decide +kernel
theorem dX9_rightOf_69 : decode cX9_rightOf 69 = .ok (.getfield 50, 3) := by decide +kernel
theorem dX9_rightOf_72 : decode cX9_rightOf 72 = .ok (.iload_n 1, 1) := by decide +kernel
theorem dX9_rightOf_73 : decode cX9_rightOf 73 = .ok (.iaload, 1) := by decide +kernel
theorem dX9_rightOf_74 : decode cX9_rightOf 74 = .ok (.ireturn, 1) := by decide +kernel
theorem dX9_rightOf_75 : decode cX9_rightOf 75 = .ok (.aload_n 0, 1) := by decide +kernel
theorem dX9_rightOf_76 : decode cX9_rightOf 76 = .ok (.iload_n 1, 1) := by decide +kernel
theorem dX9_rightOf_77 : decode cX9_rightOf 77 = .ok (.invokevirtual 155, 3) := by decide +kernel
theorem dX9_rightOf_80 : decode cX9_rightOf 80 = .ok (.ireturn, 1) := by decide +kernel
theorem dX9_rightOf_81 : decode cX9_rightOf 81 = .ok (.aload_n 0, 1) := by decide +kernel
theorem dX9_rightOf_82 : decode cX9_rightOf 82 = .ok (.iload_n 1, 1) := by decide +kernel
theorem dX9_rightOf_83 : decode cX9_rightOf 83 = .ok (.invokevirtual 158, 3) := by decide +kernel
theorem dX9_rightOf_86 : decode cX9_rightOf 86 = .ok (.ireturn, 1) := by decide +kernel
theorem dX9_rightOf_87 : decode cX9_rightOf 87 = .ok (.aload_n 0, 1) := by decide +kernel
theorem dX9_rightOf_88 : decode cX9_rightOf 88 = .ok (.getfield 59, 3) := by decide +kernel
theorem dX9_rightOf_91 : decode cX9_rightOf 91 = .ok (.iload_n 1, 1) := by decide +kernel
theorem dX9_rightOf_92 : decode cX9_rightOf 92 = .ok (.iaload, 1) := by decide +kernel
theorem dX9_rightOf_93 : decode cX9_rightOf 93 = .ok (.ireturn, 1) := by decide +kernel
theorem dX9_rightOf_94 : decode cX9_rightOf 94 = .ok (.aload_n 0, 1) := by decide +kernel
theorem dX9_rightOf_95 : decode cX9_rightOf 95 = .ok (.getfield 62, 3) := by decide +kernel
theorem dX9_rightOf_98 : decode cX9_rightOf 98 = .ok (.iload_n 1, 1) := by decide +kernel
theorem dX9_rightOf_99 : decode cX9_rightOf 99 = .ok (.iaload, 1) := by decide +kernel
theorem dX9_rightOf_100 : decode cX9_rightOf 100 = .ok (.ireturn, 1) := by decide +kernel
theorem dX9_rightOf_101 : decode cX9_rightOf 101 = .ok (.aload_n 0, 1) := by decide +kernel
theorem dX9_rightOf_102 : decode cX9_rightOf 102 = .ok (.getfield 74, 3) := by decide +kernel
theorem dX9_rightOf_105 : decode cX9_rightOf 105 = .ok (.iload_n 1, 1) := by decide +kernel
theorem dX9_rightOf_106 : decode cX9_rightOf 106 = .ok (.baload, 1) := by decide +kernel
theorem dX9_rightOf_107 : decode cX9_rightOf 107 = .ok (.ifCond .eq 7, 3) := by decide +kernel
theorem dX9_rightOf_110 : decode cX9_rightOf 110 = .ok (.iconst 1, 1) := by decide +kernel
theorem dX9_rightOf_111 : decode cX9_rightOf 111 = .ok (.goto 4, 3) := by decide +kernel
theorem dX9_rightOf_114 : decode cX9_rightOf 114 = .ok (.iconst 0, 1) := by decide +kernel
theorem dX9_rightOf_115 : decode cX9_rightOf 115 = .ok (.ireturn, 1) := by decide +kernel
theorem dX9_rightOf_116 : decode cX9_rightOf 116 = .ok (.aload_n 0, 1) := by decide +kernel
theorem dX9_rightOf_117 : decode cX9_rightOf 117 = .ok (.iload_n 1, 1) := by decide +kernel
theorem dX9_rightOf_118 : decode cX9_rightOf 118 = .ok (.invokevirtual 144, 3) := by decide +kernel
theorem dX9_rightOf_121 : decode cX9_rightOf 121 = .ok (.ifCond .eq 7, 3) := by decide +kernel
theorem dX9_rightOf_124 : decode cX9_rightOf 124 = .ok (.iconst 1, 1) := by decide +kernel
theorem dX9_rightOf_125 : decode cX9_rightOf 125 = .ok (.goto 4, 3) := by decide +kernel
theorem dX9_rightOf_128 : decode cX9_rightOf 128 = .ok (.iconst 0, 1) := by decide +kernel
theorem dX9_rightOf_129 : decode cX9_rightOf 129 = .ok (.ireturn, 1) := by decide +kernel
theorem dX9_rightOf_130 : decode cX9_rightOf 130 = .ok (.aload_n 0, 1) := by decide +kernel
theorem dX9_rightOf_131 : decode cX9_rightOf 131 = .ok (.getfield 68, 3) := by decide +kernel
theorem dX9_rightOf_134 : decode cX9_rightOf 134 = .ok (.iload_n 1, 1) := by decide +kernel
theorem dX9_rightOf_135 : decode cX9_rightOf 135 = .ok (.iaload, 1) := by decide +kernel
theorem dX9_rightOf_136 : decode cX9_rightOf 136 = .ok (.ireturn, 1) := by decide +kernel
theorem dX9_rightOf_137 : decode cX9_rightOf 137 = .ok (.aload_n 0, 1) := by decide +kernel
theorem dX9_rightOf_138 : decode cX9_rightOf 138 = .ok (.getfield 71, 3) := by decide +kernel
theorem dX9_rightOf_141 : decode cX9_rightOf 141 = .ok (.iload_n 1, 1) := by decide +kernel
theorem dX9_rightOf_142 : decode cX9_rightOf 142 = .ok (.iaload, 1) := by decide +kernel
theorem dX9_rightOf_143 : decode cX9_rightOf 143 = .ok (.ireturn, 1) := by decide +kernel
theorem dX9_rightOf_144 : decode cX9_rightOf 144 = .ok (.aload_n 0, 1) := by decide +kernel
theorem dX9_rightOf_145 : decode cX9_rightOf 145 = .ok (.bipush (-2), 2) := by decide +kernel
theorem dX9_rightOf_147 : decode cX9_rightOf 147 = .ok (.invokevirtual 122, 3) := by decide +kernel
theorem dX9_rightOf_150 : decode cX9_rightOf 150 = .ok (.ireturn, 1) := by decide +kernel
theorem dX9_herdOf_0 : decode cX9_herdOf 0 = .ok (.iload_n 1, 1) := by decide +kernel
theorem dX9_herdOf_1 : decode cX9_herdOf 1 = .ok (.aload_n 0, 1) := by decide +kernel
theorem dX9_herdOf_2 : decode cX9_herdOf 2 = .ok (.getfield 164, 3) := by decide +kernel
theorem dX9_herdOf_5 : decode cX9_herdOf 5 = .ok (.invokestatic 134, 3) := by decide +kernel
theorem dX9_herdOf_8 : decode cX9_herdOf 8 = .ok (.ifCond .ne 9, 3) := by decide +kernel
theorem dX9_herdOf_11 : decode cX9_herdOf 11 = .ok (.aload_n 0, 1) := by decide +kernel
theorem dX9_herdOf_12 : decode cX9_herdOf 12 = .ok (.iconst (-1), 1) := by decide +kernel
theorem dX9_herdOf_13 : decode cX9_herdOf 13 = .ok (.invokevirtual 122, 3) := by decide +kernel
theorem dX9_herdOf_16 : decode cX9_herdOf 16 = .ok (.ireturn, 1) := by decide +kernel
theorem dX9_herdOf_17 : decode cX9_herdOf 17 = .ok (.iload_n 2, 1) := by decide +kernel
theorem dX9_herdOf_18 : decode cX9_herdOf 18 = .ok (.tableswitch 90 0 6 #[42, 49, 56, 63, 70, 77, 84], 42) := by decide +kernel
theorem dX9_herdOf_60 : decode cX9_herdOf 60 = .ok (.aload_n 0, 1) := by decide +kernel
theorem dX9_herdOf_61 : decode cX9_herdOf 61 = .ok (.getfield 80, 3) := by decide +kernel
theorem dX9_herdOf_64 : decode cX9_herdOf 64 = .ok (.iload_n 1, 1) := by decide +kernel
theorem dX9_herdOf_65 : decode cX9_herdOf 65 = .ok (.iaload, 1) := by decide +kernel
theorem dX9_herdOf_66 : decode cX9_herdOf 66 = .ok (.ireturn, 1) := by decide +kernel
theorem dX9_herdOf_67 : decode cX9_herdOf 67 = .ok (.aload_n 0, 1) := by decide +kernel
theorem dX9_herdOf_68 : decode cX9_herdOf 68 = .ok (.getfield 83, 3) := by decide +kernel
theorem dX9_herdOf_71 : decode cX9_herdOf 71 = .ok (.iload_n 1, 1) := by decide +kernel
theorem dX9_herdOf_72 : decode cX9_herdOf 72 = .ok (.iaload, 1) := by decide +kernel
theorem dX9_herdOf_73 : decode cX9_herdOf 73 = .ok (.ireturn, 1) := by decide +kernel
theorem dX9_herdOf_74 : decode cX9_herdOf 74 = .ok (.aload_n 0, 1) := by decide +kernel
theorem dX9_herdOf_75 : decode cX9_herdOf 75 = .ok (.getfield 86, 3) := by decide +kernel
theorem dX9_herdOf_78 : decode cX9_herdOf 78 = .ok (.iload_n 1, 1) := by decide +kernel
theorem dX9_herdOf_79 : decode cX9_herdOf 79 = .ok (.iaload, 1) := by decide +kernel
theorem dX9_herdOf_80 : decode cX9_herdOf 80 = .ok (.ireturn, 1) := by decide +kernel
theorem dX9_herdOf_81 : decode cX9_herdOf 81 = .ok (.aload_n 0, 1) := by decide +kernel
theorem dX9_herdOf_82 : decode cX9_herdOf 82 = .ok (.getfield 89, 3) := by decide +kernel
theorem dX9_herdOf_85 : decode cX9_herdOf 85 = .ok (.iload_n 1, 1) := by decide +kernel
theorem dX9_herdOf_86 : decode cX9_herdOf 86 = .ok (.iaload, 1) := by decide +kernel
theorem dX9_herdOf_87 : decode cX9_herdOf 87 = .ok (.ireturn, 1) := by decide +kernel
theorem dX9_herdOf_88 : decode cX9_herdOf 88 = .ok (.aload_n 0, 1) := by decide +kernel
theorem dX9_herdOf_89 : decode cX9_herdOf 89 = .ok (.getfield 95, 3) := by decide +kernel
theorem dX9_herdOf_92 : decode cX9_herdOf 92 = .ok (.iload_n 1, 1) := by decide +kernel
theorem dX9_herdOf_93 : decode cX9_herdOf 93 = .ok (.iaload, 1) := by decide +kernel
theorem dX9_herdOf_94 : decode cX9_herdOf 94 = .ok (.ireturn, 1) := by decide +kernel
theorem dX9_herdOf_95 : decode cX9_herdOf 95 = .ok (.aload_n 0, 1) := by decide +kernel
theorem dX9_herdOf_96 : decode cX9_herdOf 96 = .ok (.getfield 98, 3) := by decide +kernel
theorem dX9_herdOf_99 : decode cX9_herdOf 99 = .ok (.iload_n 1, 1) := by decide +kernel
theorem dX9_herdOf_100 : decode cX9_herdOf 100 = .ok (.iaload, 1) := by decide +kernel
theorem dX9_herdOf_101 : decode cX9_herdOf 101 = .ok (.ireturn, 1) := by decide +kernel
theorem dX9_herdOf_102 : decode cX9_herdOf 102 = .ok (.aload_n 0, 1) := by decide +kernel
theorem dX9_herdOf_103 : decode cX9_herdOf 103 = .ok (.iload_n 1, 1) := by decide +kernel
theorem dX9_herdOf_104 : decode cX9_herdOf 104 = .ok (.invokevirtual 239, 3) := by decide +kernel
theorem dX9_herdOf_107 : decode cX9_herdOf 107 = .ok (.ireturn, 1) := by decide +kernel
theorem dX9_herdOf_108 : decode cX9_herdOf 108 = .ok (.aload_n 0, 1) := by decide +kernel
theorem dX9_herdOf_109 : decode cX9_herdOf 109 = .ok (.bipush (-2), 2) := by decide +kernel
theorem dX9_herdOf_111 : decode cX9_herdOf 111 = .ok (.invokevirtual 122, 3) := by decide +kernel
theorem dX9_herdOf_114 : decode cX9_herdOf 114 = .ok (.ireturn, 1) := by decide +kernel
