theorem dX9_pound_63 : decode cX9_pound 63 = .ok (.iload_n 1, 1) := by decide +kernel
theorem dX9_pound_64 : decode cX9_pound 64 = .ok (.aload_n 0, 1) := by decide +kernel
theorem dX9_pound_65 : decode cX9_pound 65 = .ok (.getfield 141, 3) := by decide +kernel
theorem dX9_pound_68 : decode cX9_pound 68 = .ok (.iastore, 1) := by decide +kernel
theorem dX9_pound_69 : decode cX9_pound 69 = .ok (.iconst 1, 1) := by decide +kernel
theorem dX9_pound_70 : decode cX9_pound 70 = .ok (.ireturn, 1) := by decide +kernel
theorem dX9_feeOf_0 : decode cX9_feeOf 0 = .ok (.aload_n 0, 1) := by decide +kernel
theorem dX9_feeOf_1 : decode cX9_feeOf 1 = .ok (.getfield 98, 3) := by decide +kernel
theorem dX9_feeOf_4 : decode cX9_feeOf 4 = .ok (.iload_n 1, 1) := by decide +kernel
theorem dX9_feeOf_5 : decode cX9_feeOf 5 = .ok (.iaload, 1) := by decide +kernel
theorem dX9_feeOf_6 : decode cX9_feeOf 6 = .ok (.iconst 1, 1) := by decide +kernel
theorem dX9_feeOf_7 : decode cX9_feeOf 7 = .ok (.if_icmp .ne 26, 3) := by decide +kernel
theorem dX9_feeOf_10 : decode cX9_feeOf 10 = .ok (.aload_n 0, 1) := by decide +kernel
theorem dX9_feeOf_11 : decode cX9_feeOf 11 = .ok (.getfield 141, 3) := by decide +kernel
theorem dX9_feeOf_14 : decode cX9_feeOf 14 = .ok (.aload_n 0, 1) := by decide +kernel
theorem dX9_feeOf_15 : decode cX9_feeOf 15 = .ok (.getfield 101, 3) := by decide +kernel
theorem dX9_feeOf_18 : decode cX9_feeOf 18 = .ok (.iload_n 1, 1) := by decide +kernel
theorem dX9_feeOf_19 : decode cX9_feeOf 19 = .ok (.iaload, 1) := by decide +kernel
theorem dX9_feeOf_20 : decode cX9_feeOf 20 = .ok (.isub, 1) := by decide +kernel
theorem dX9_feeOf_21 : decode cX9_feeOf 21 = .ok (.iconst 1, 1) := by decide +kernel
theorem dX9_feeOf_22 : decode cX9_feeOf 22 = .ok (.iadd, 1) := by decide +kernel
theorem dX9_feeOf_23 : decode cX9_feeOf 23 = .ok (.aload_n 0, 1) := by decide +kernel
theorem dX9_feeOf_24 : decode cX9_feeOf 24 = .ok (.getfield 86, 3) := by decide +kernel
theorem dX9_feeOf_27 : decode cX9_feeOf 27 = .ok (.iload_n 1, 1) := by decide +kernel
theorem dX9_feeOf_28 : decode cX9_feeOf 28 = .ok (.iaload, 1) := by decide +kernel
theorem dX9_feeOf_29 : decode cX9_feeOf 29 = .ok (.imul, 1) := by decide +kernel
theorem dX9_feeOf_30 : decode cX9_feeOf 30 = .ok (.goto 4, 3) := by decide +kernel
theorem dX9_feeOf_33 : decode cX9_feeOf 33 = .ok (.iconst 0, 1) := by decide +kernel
theorem dX9_feeOf_34 : decode cX9_feeOf 34 = .ok (.ireturn, 1) := by decide +kernel
theorem dX9_free_0 : decode cX9_free 0 = .ok (.iload_n 1, 1) := by decide +kernel
theorem dX9_free_1 : decode cX9_free 1 = .ok (.aload_n 0, 1) := by decide +kernel
theorem dX9_free_2 : decode cX9_free 2 = .ok (.getfield 164, 3) := by decide +kernel
theorem dX9_free_5 : decode cX9_free 5 = .ok (.invokestatic 134, 3) := by decide +kernel
theorem dX9_free_8 : decode cX9_free 8 = .ok (.ifCond .ne 9, 3) := by decide +kernel
theorem dX9_free_11 : decode cX9_free 11 = .ok (.aload_n 0, 1) := by decide +kernel
theorem dX9_free_12 : decode cX9_free 12 = .ok (.iconst (-1), 1) := by decide +kernel
theorem dX9_free_13 : decode cX9_free 13 = .ok (.invokevirtual 122, 3) := by decide +kernel
theorem dX9_free_16 : decode cX9_free 16 = .ok (.ireturn, 1) := by decide +kernel
theorem dX9_free_17 : decode cX9_free 17 = .ok (.aload_n 0, 1) := by decide +kernel
theorem dX9_free_18 : decode cX9_free 18 = .ok (.getfield 98, 3) := by decide +kernel
theorem dX9_free_21 : decode cX9_free 21 = .ok (.iload_n 1, 1) := by decide +kernel
theorem dX9_free_22 : decode cX9_free 22 = .ok (.iaload, 1) := by decide +kernel
theorem dX9_free_23 : decode cX9_free 23 = .ok (.iconst 1, 1) := by decide +kernel
theorem dX9_free_24 : decode cX9_free 24 = .ok (.if_icmp .eq 10, 3) := by decide +kernel
theorem dX9_free_27 : decode cX9_free 27 = .ok (.aload_n 0, 1) := by decide +kernel
theorem dX9_free_28 : decode cX9_free 28 = .ok (.bipush (-3), 2) := by decide +kernel
theorem dX9_free_30 : decode cX9_free 30 = .ok (.invokevirtual 122, 3) := by decide +kernel
theorem dX9_free_33 : decode cX9_free 33 = .ok (.ireturn, 1) := by decide +kernel
theorem dX9_free_34 : decode cX9_free 34 = .ok (.aload_n 0, 1) := by decide +kernel
theorem dX9_free_35 : decode cX9_free 35 = .ok (.iload_n 1, 1) := by decide +kernel
theorem dX9_free_36 : decode cX9_free 36 = .ok (.invokevirtual 239, 3) := by decide +kernel
theorem dX9_free_39 : decode cX9_free 39 = .ok (.istore_n 2, 1) := by decide +kernel
theorem dX9_free_40 : decode cX9_free 40 = .ok (.iload_n 2, 1) := by decide +kernel
theorem dX9_free_41 : decode cX9_free 41 = .ok (.aload_n 0, 1) := by decide +kernel
theorem dX9_free_42 : decode cX9_free 42 = .ok (.getfield 32, 3) := by decide +kernel
theorem dX9_free_45 : decode cX9_free 45 = .ok (.aload_n 0, 1) := by decide +kernel
theorem dX9_free_46 : decode cX9_free 46 = .ok (.getfield 80, 3) := by decide +kernel
theorem dX9_free_49 : decode cX9_free 49 = .ok (.iload_n 1, 1) := by decide +kernel
theorem dX9_free_50 : decode cX9_free 50 = .ok (.iaload, 1) := by decide +kernel
theorem dX9_free_51 : decode cX9_free 51 = .ok (.iaload, 1) := by decide +kernel
theorem dX9_free_52 : decode cX9_free 52 = .ok (.if_icmp .le 10, 3) := by decide +kernel
theorem dX9_free_55 : decode cX9_free 55 = .ok (.aload_n 0, 1) := by decide +kernel
theorem dX9_free_56 : decode cX9_free 56 = .ok (.bipush (-5), 2) := by decide +kernel
theorem dX9_free_58 : decode cX9_free 58 = .ok (.invokevirtual 122, 3) := by decide +kernel
theorem dX9_free_61 : decode cX9_free 61 = .ok (.ireturn, 1) := by decide +kernel
theorem dX9_free_62 : decode cX9_free 62 = .ok (.aload_n 0, 1) := by decide +kernel
theorem dX9_free_63 : decode cX9_free 63 = .ok (.getfield 32, 3) := by decide +kernel
theorem dX9_free_66 : decode cX9_free 66 = .ok (.aload_n 0, 1) := by decide +kernel
theorem dX9_free_67 : decode cX9_free 67 = .ok (.getfield 80, 3) := by decide +kernel
theorem dX9_free_70 : decode cX9_free 70 = .ok (.iload_n 1, 1) := by decide +kernel
theorem dX9_free_71 : decode cX9_free 71 = .ok (.iaload, 1) := by decide +kernel
theorem dX9_free_72 : decode cX9_free 72 = .ok (.dup2, 1) := by decide +kernel
theorem dX9_free_73 : decode cX9_free 73 = .ok (.iaload, 1) := by decide +kernel
theorem dX9_free_74 : decode cX9_free 74 = .ok (.iload_n 2, 1) := by decide +kernel
theorem dX9_free_75 : decode cX9_free 75 = .ok (.isub, 1) := by decide +kernel
theorem dX9_free_76 : decode cX9_free 76 = .ok (.iastore, 1) := by decide +kernel
theorem dX9_free_77 : decode cX9_free 77 = .ok (.aload_n 0, 1) := by decide +kernel
theorem dX9_free_78 : decode cX9_free 78 = .ok (.dup, 1) := by decide +kernel
theorem dX9_free_79 : decode cX9_free 79 = .ok (.getfield 205, 3) := by decide +kernel
theorem dX9_free_82 : decode cX9_free 82 = .ok (.iload_n 2, 1) := by decide +kernel
theorem dX9_free_83 : decode cX9_free 83 = .ok (.iadd, 1) := by decide +kernel
theorem dX9_free_84 : decode cX9_free 84 = .ok (.putfield 205, 3) := by decide +kernel
theorem dX9_free_87 : decode cX9_free 87 = .ok (.aload_n 0, 1) := by decide +kernel
theorem dX9_free_88 : decode cX9_free 88 = .ok (.getfield 98, 3) := by decide +kernel
theorem dX9_free_91 : decode cX9_free 91 = .ok (.iload_n 1, 1) := by decide +kernel
theorem dX9_free_92 : decode cX9_free 92 = .ok (.iconst 0, 1) := by decide +kernel
theorem dX9_free_93 : decode cX9_free 93 = .ok (.iastore, 1) := by decide +kernel
theorem dX9_free_94 : decode cX9_free 94 = .ok (.iload_n 2, 1) := by decide +kernel
theorem dX9_free_95 : decode cX9_free 95 = .ok (.ireturn, 1) := by decide +kernel
theorem dX9_mayTake_0 : decode cX9_mayTake 0 = .ok (.aload_n 0, 1) := by decide +kernel
theorem dX9_mayTake_1 : decode cX9_mayTake 1 = .ok (.getfield 141, 3) := by decide +kernel
theorem dX9_mayTake_4 : decode cX9_mayTake 4 = .ok (.iconst 1, 1) := by decide +kernel
theorem dX9_mayTake_5 : decode cX9_mayTake 5 = .ok (.iadd, 1) := by decide +kernel
theorem dX9_mayTake_6 : decode cX9_mayTake 6 = .ok (.iload_n 1, 1) := by decide +kernel
theorem dX9_mayTake_7 : decode cX9_mayTake 7 = .ok (.iload_n 3, 1) := by decide +kernel
theorem dX9_mayTake_8 : decode cX9_mayTake 8 = .ok (.imul, 1) := by decide +kernel
theorem dX9_mayTake_9 : decode cX9_mayTake 9 = .ok (.iadd, 1) := by decide +kernel
theorem dX9_mayTake_10 : decode cX9_mayTake 10 = .ok (.aload_n 0, 1) := by decide +kernel
theorem dX9_mayTake_11 : decode cX9_mayTake 11 = .ok (.getfield 22, 3) := by decide +kernel
theorem dX9_mayTake_14 : decode cX9_mayTake 14 = .ok (.iload_n 2, 1) := by decide +kernel
theorem dX9_mayTake_15 : decode cX9_mayTake 15 = .ok (.iaload, 1) := by decide +kernel
theorem dX9_mayTake_16 : decode cX9_mayTake 16 = .ok (.if_icmp .le 7, 3) := by decide +kernel
theorem dX9_mayTake_19 : decode cX9_mayTake 19 = .ok (.iconst 1, 1) := by decide +kernel
theorem dX9_mayTake_20 : decode cX9_mayTake 20 = .ok (.goto 4, 3) := by decide +kernel
theorem dX9_mayTake_23 : decode cX9_mayTake 23 = .ok (.iconst 0, 1) := by decide +kernel
theorem dX9_mayTake_24 : decode cX9_mayTake 24 = .ok (.ireturn, 1) := by decide +kernel
theorem dX9_plan_0 : decode cX9_plan 0 = .ok (.iload_n 1, 1) := by decide +kernel
theorem dX9_plan_1 : decode cX9_plan 1 = .ok (.aload_n 0, 1) := by decide +kernel
theorem dX9_plan_2 : decode cX9_plan 2 = .ok (.getfield 164, 3) := by decide +kernel
theorem dX9_plan_5 : decode cX9_plan 5 = .ok (.invokestatic 134, 3) := by decide +kernel
theorem dX9_plan_8 : decode cX9_plan 8 = .ok (.ifCond .eq 24, 3) := by decide +kernel
theorem dX9_plan_11 : decode cX9_plan 11 = .ok (.iload_n 2, 1) := by decide +kernel
theorem dX9_plan_12 : decode cX9_plan 12 = .ok (.iconst (-1), 1) := by decide +kernel
theorem dX9_plan_13 : decode cX9_plan 13 = .ok (.if_icmp .eq 14, 3) := by decide +kernel
theorem dX9_plan_16 : decode cX9_plan 16 = .ok (.iload_n 2, 1) := by decide +kernel
theorem dX9_plan_17 : decode cX9_plan 17 = .ok (.aload_n 0, 1) := by decide +kernel
theorem dX9_plan_18 : decode cX9_plan 18 = .ok (.getfield 164, 3) := by decide +kernel
theorem dX9_plan_21 : decode cX9_plan 21 = .ok (.invokestatic 134, 3) := by decide +kernel
theorem dX9_plan_24 : decode cX9_plan 24 = .ok (.ifCond .eq 8, 3) := by decide +kernel
theorem dX9_plan_27 : decode cX9_plan 27 = .ok (.iload_n 1, 1) := by decide +kernel
theorem dX9_plan_28 : decode cX9_plan 28 = .ok (.iload_n 2, 1) := by decide +kernel
theorem dX9_plan_29 : decode cX9_plan 29 = .ok (.if_icmp .ne 9, 3) := by decide +kernel
theorem dX9_plan_32 : decode cX9_plan 32 = .ok (.aload_n 0, 1) := by decide +kernel
theorem dX9_plan_33 : decode cX9_plan 33 = .ok (.iconst (-1), 1) := by decide +kernel
theorem dX9_plan_34 : decode cX9_plan 34 = .ok (.invokevirtual 122, 3) := by decide +kernel
theorem dX9_plan_37 : decode cX9_plan 37 = .ok (.ireturn, 1) := by decide +kernel
theorem dX9_plan_38 : decode cX9_plan 38 = .ok (.iload_n 2, 1) := by decide +kernel
theorem dX9_plan_39 : decode cX9_plan 39 = .ok (.iconst (-1), 1) := by decide +kernel
theorem dX9_plan_40 : decode cX9_plan 40 = .ok (.if_icmp .ne 7, 3) := by decide +kernel
theorem dX9_plan_43 : decode cX9_plan 43 = .ok (.iconst 1, 1) := by decide +kernel
theorem dX9_plan_44 : decode cX9_plan 44 = .ok (.goto 4, 3) := by decide +kernel
theorem dX9_plan_47 : decode cX9_plan 47 = .ok (.iconst 2, 1) := by decide +kernel
theorem dX9_plan_48 : decode cX9_plan 48 = .ok (.istore 5, 2) := by decide +kernel
theorem dX9_plan_50 : decode cX9_plan 50 = .ok (.iload_n 3, 1) := by decide +kernel
theorem dX9_plan_51 : decode cX9_plan 51 = .ok (.iconst 1, 1) := by decide +kernel
theorem dX9_plan_52 : decode cX9_plan 52 = .ok (.if_icmp .lt 31, 3) := by decide +kernel
theorem dX9_plan_55 : decode cX9_plan 55 = .ok (.iload_n 3, 1) := by decide +kernel
theorem dX9_plan_56 : decode cX9_plan 56 = .ok (.iload 5, 2) := by decide +kernel
theorem dX9_plan_58 : decode cX9_plan 58 = .ok (.iconst 1, 1) := by decide +kernel
theorem dX9_plan_59 : decode cX9_plan 59 = .ok (.if_icmp .ne 7, 3) := by decide +kernel
theorem dX9_plan_62 : decode cX9_plan 62 = .ok (.iconst 4, 1) := by decide +kernel
theorem dX9_plan_63 : decode cX9_plan 63 = .ok (.goto 4, 3) := by decide +kernel
theorem dX9_plan_66 : decode cX9_plan 66 = .ok (.iconst 2, 1) := by decide +kernel
theorem dX9_plan_67 : decode cX9_plan 67 = .ok (.if_icmp .gt 16, 3) := by decide +kernel
theorem dX9_plan_70 : decode cX9_plan 70 = .ok (.iload 4, 2) := by decide +kernel
theorem dX9_plan_72 : decode cX9_plan 72 = .ok (.iconst 1, 1) := by decide +kernel
theorem dX9_plan_73 : decode cX9_plan 73 = .ok (.if_icmp .lt 10, 3) := by decide +kernel
theorem dX9_plan_76 : decode cX9_plan 76 = .ok (.iload 4, 2) := by decide +kernel
theorem dX9_plan_78 : decode cX9_plan 78 = .ok (.bipush 10, 2) := by decide +kernel
theorem dX9_plan_80 : decode cX9_plan 80 = .ok (.if_icmp .le 10, 3) := by decide +kernel
theorem dX9_plan_83 : decode cX9_plan 83 = .ok (.aload_n 0, 1) := by decide +kernel
theorem dX9_plan_84 : decode cX9_plan 84 = .ok (.bipush (-2), 2) := by decide +kernel
theorem dX9_plan_86 : decode cX9_plan 86 = .ok (.invokevirtual 122, 3) := by decide +kernel
theorem dX9_plan_89 : decode cX9_plan 89 = .ok (.ireturn, 1) := by decide +kernel
theorem dX9_plan_90 : decode cX9_plan 90 = .ok (.aload_n 0, 1) := by decide +kernel
theorem dX9_plan_91 : decode cX9_plan 91 = .ok (.getfield 98, 3) := by decide +kernel
theorem dX9_plan_94 : decode cX9_plan 94 = .ok (.iload_n 1, 1) := by decide +kernel
theorem dX9_plan_95 : decode cX9_plan 95 = .ok (.iaload, 1) := by decide +kernel
theorem dX9_plan_96 : decode cX9_plan 96 = .ok (.ifCond .ne 22, 3) := by decide +kernel
theorem dX9_plan_99 : decode cX9_plan 99 = .ok (.iload 5, 2) := by decide +kernel
theorem dX9_plan_101 : decode cX9_plan 101 = .ok (.iconst 1, 1) := by decide +kernel
theorem dX9_plan_102 : decode cX9_plan 102 = .ok (.if_icmp .eq 12, 3) := by decide +kernel
theorem dX9_plan_105 : decode cX9_plan 105 = .ok (.aload_n 0, 1) := by decide +kernel
theorem dX9_plan_106 : decode cX9_plan 106 = .ok (.getfield 98, 3) := by decide +kernel
theorem dX9_plan_109 : decode cX9_plan 109 = .ok (.iload_n 2, 1) := by decide +kernel
theorem dX9_plan_110 : decode cX9_plan 110 = .ok (.iaload, 1) := by decide +kernel
theorem dX9_plan_111 : decode cX9_plan 111 = .ok (.ifCond .ne 7, 3) := by decide +kernel
theorem dX9_plan_114 : decode cX9_plan 114 = .ok (.iconst 1, 1) := by decide +kernel
theorem dX9_plan_115 : decode cX9_plan 115 = .ok (.goto 4, 3) := by decide +kernel
theorem dX9_plan_118 : decode cX9_plan 118 = .ok (.iconst 0, 1) := by decide +kernel
theorem dX9_plan_119 : decode cX9_plan 119 = .ok (.istore 6, 2) := by decide +kernel
theorem dX9_plan_121 : decode cX9_plan 121 = .ok (.iconst 0, 1) := by decide +kernel
theorem dX9_plan_122 : decode cX9_plan 122 = .ok (.istore 7, 2) := by decide +kernel
theorem dX9_plan_124 : decode cX9_plan 124 = .ok (.iload 7, 2) := by decide +kernel
theorem dX9_plan_126 : decode cX9_plan 126 = .ok (.iload_n 3, 1) := by decide +kernel
theorem dX9_plan_127 : decode cX9_plan 127 = .ok (.if_icmp .ge 64, 3) := by decide +kernel
theorem dX9_plan_130 : decode cX9_plan 130 = .ok (.iload 6, 2) := by decide +kernel
theorem dX9_plan_132 : decode cX9_plan 132 = .ok (.ifCond .eq 59, 3) := by decide +kernel
theorem dX9_plan_135 : decode cX9_plan 135 = .ok (.iconst 0, 1) := by decide +kernel
theorem dX9_plan_136 : decode cX9_plan 136 = .ok (.istore 8, 2) := by decide +kernel
theorem dX9_plan_138 : decode cX9_plan 138 = .ok (.iconst 0, 1) := by decide +kernel
theorem dX9_plan_139 : decode cX9_plan 139 = .ok (.istore 9, 2) := by decide +kernel
theorem dX9_plan_141 : decode cX9_plan 141 = .ok (.iload 9, 2) := by decide +kernel
theorem dX9_plan_143 : decode cX9_plan 143 = .ok (.aload_n 0, 1) := by decide +kernel
theorem dX9_plan_144 : decode cX9_plan 144 = .ok (.getfield 127, 3) := by decide +kernel
theorem dX9_plan_147 : decode cX9_plan 147 = .ok (.if_icmp .ge 34, 3) := by decide +kernel
theorem dX9_plan_150 : decode cX9_plan 150 = .ok (.iload 8, 2) := by decide +kernel
theorem dX9_plan_152 : decode cX9_plan 152 = .ok (.ifCond .ne 16, 3) := by decide +kernel
theorem dX9_plan_155 : decode cX9_plan 155 = .ok (.aload_n 0, 1) := by decide +kernel
theorem dX9_plan_156 : decode cX9_plan 156 = .ok (.iload 7, 2) := by decide +kernel
theorem dX9_plan_158 : decode cX9_plan 158 = .ok (.iload 9, 2) := by decide +kernel
theorem dX9_plan_160 : decode cX9_plan 160 = .ok (.iload 4, 2) := by decide +kernel
theorem dX9_plan_162 : decode cX9_plan 162 = .ok (.invokevirtual 242, 3) := by decide +kernel
theorem dX9_plan_165 : decode cX9_plan 165 = .ok (.ifCond .eq 7, 3) := by decide +kernel
theorem dX9_plan_168 : decode cX9_plan 168 = .ok (.iconst 1, 1) := by decide +kernel
theorem dX9_plan_169 : decode cX9_plan 169 = .ok (.goto 4, 3) := by decide +kernel
theorem dX9_plan_172 : decode cX9_plan 172 = .ok (.iconst 0, 1) := by decide +kernel
theorem dX9_plan_173 : decode cX9_plan 173 = .ok (.istore 8, 2) := by decide +kernel
theorem dX9_plan_175 : decode cX9_plan 175 = .ok (.iinc 9 1, 3) := by decide +kernel
theorem dX9_plan_178 : decode cX9_plan 178 = .ok (.goto (-37), 3) := by decide +kernel
theorem dX9_plan_181 : decode cX9_plan 181 = .ok (.iload 8, 2) := by decide +kernel
theorem dX9_plan_183 : decode cX9_plan 183 = .ok (.istore 6, 2) := by decide +kernel
theorem dX9_plan_185 : decode cX9_plan 185 = .ok (.iinc 7 1, 3) := by decide +kernel
theorem dX9_plan_188 : decode cX9_plan 188 = .ok (.goto (-64), 3) := by decide +kernel
theorem dX9_plan_191 : decode cX9_plan 191 = .ok (.iload 6, 2) := by decide +kernel
theorem dX9_plan_193 : decode cX9_plan 193 = .ok (.ifCond .ne 10, 3) := by decide +kernel
theorem dX9_plan_196 : decode cX9_plan 196 = .ok (.aload_n 0, 1) := by decide +kernel
theorem dX9_plan_197 : decode cX9_plan 197 = .ok (.bipush (-3), 2) := by decide +kernel
theorem dX9_plan_199 : decode cX9_plan 199 = .ok (.invokevirtual 122, 3) := by decide +kernel
theorem dX9_plan_202 : decode cX9_plan 202 = .ok (.ireturn, 1) := by decide +kernel
theorem dX9_plan_203 : decode cX9_plan 203 = .ok (.aload_n 0, 1) := by decide +kernel
theorem dX9_plan_204 : decode cX9_plan 204 = .ok (.getfield 141, 3) := by decide +kernel
theorem dX9_plan_207 : decode cX9_plan 207 = .ok (.iload_n 3, 1) := by decide +kernel
theorem dX9_plan_208 : decode cX9_plan 208 = .ok (.iload 4, 2) := by decide +kernel
theorem dX9_plan_210 : decode cX9_plan 210 = .ok (.imul, 1) := by decide +kernel
theorem dX9_plan_211 : decode cX9_plan 211 = .ok (.iadd, 1) := by decide +kernel
theorem dX9_plan_212 : decode cX9_plan 212 = .ok (.sipush 720, 3) := by decide +kernel
theorem dX9_plan_215 : decode cX9_plan 215 = .ok (.if_icmp .le 10, 3) := by decide +kernel
theorem dX9_plan_218 : decode cX9_plan 218 = .ok (.aload_n 0, 1) := by decide +kernel
theorem dX9_plan_219 : decode cX9_plan 219 = .ok (.bipush (-6), 2) := by decide +kernel
theorem dX9_plan_221 : decode cX9_plan 221 = .ok (.invokevirtual 122, 3) := by decide +kernel
theorem dX9_plan_224 : decode cX9_plan 224 = .ok (.ireturn, 1) := by decide +kernel
theorem dX9_plan_225 : decode cX9_plan 225 = .ok (.iload 5, 2) := by decide +kernel
theorem dX9_plan_227 : decode cX9_plan 227 = .ok (.iload_n 3, 1) := by decide +kernel
theorem dX9_plan_228 : decode cX9_plan 228 = .ok (.imul, 1) := by decide +kernel
theorem dX9_plan_229 : decode cX9_plan 229 = .ok (.istore 7, 2) := by decide +kernel
theorem dX9_plan_231 : decode cX9_plan 231 = .ok (.iconst (-1), 1) := by decide +kernel
theorem dX9_plan_232 : decode cX9_plan 232 = .ok (.istore 8, 2) := by decide +kernel
theorem dX9_plan_234 : decode cX9_plan 234 = .ok (.iconst 0, 1) := by decide +kernel
theorem dX9_plan_235 : decode cX9_plan 235 = .ok (.istore 9, 2) := by decide +kernel
theorem dX9_plan_237 : decode cX9_plan 237 = .ok (.iload 9, 2) := by decide +kernel
theorem dX9_plan_239 : decode cX9_plan 239 = .ok (.iload 7, 2) := by decide +kernel
theorem dX9_plan_241 : decode cX9_plan 241 = .ok (.if_icmp .ge 17, 3) := by decide +kernel
theorem dX9_plan_244 : decode cX9_plan 244 = .ok (.aload_n 0, 1) := by decide +kernel
theorem dX9_plan_245 : decode cX9_plan 245 = .ok (.getfield 116, 3) := by decide +kernel
theorem dX9_plan_248 : decode cX9_plan 248 = .ok (.iload 9, 2) := by decide +kernel
theorem dX9_plan_250 : decode cX9_plan 250 = .ok (.iconst 0, 1) := by decide +kernel
theorem dX9_plan_251 : decode cX9_plan 251 = .ok (.iastore, 1) := by decide +kernel
theorem dX9_plan_252 : decode cX9_plan 252 = .ok (.iinc 9 1, 3) := by decide +kernel
theorem dX9_plan_255 : decode cX9_plan 255 = .ok (.goto (-18), 3) := by decide +kernel
theorem dX9_plan_258 : decode cX9_plan 258 = .ok (.iconst 1, 1) := by decide +kernel
theorem dX9_plan_259 : decode cX9_plan 259 = .ok (.istore 9, 2) := by decide +kernel
theorem dX9_plan_261 : decode cX9_plan 261 = .ok (.iload 9, 2) := by decide +kernel
theorem dX9_plan_263 : decode cX9_plan 263 = .ok (.ifCond .eq 192, 3) := by decide +kernel
theorem dX9_plan_266 : decode cX9_plan 266 = .ok (.iconst 1, 1) := by decide +kernel
theorem dX9_plan_267 : decode cX9_plan 267 = .ok (.istore 10, 2) := by decide +kernel
theorem dX9_plan_269 : decode cX9_plan 269 = .ok (.iconst 0, 1) := by decide +kernel
theorem dX9_plan_270 : decode cX9_plan 270 = .ok (.istore 11, 2) := by decide +kernel
theorem dX9_plan_272 : decode cX9_plan 272 = .ok (.iload 11, 2) := by decide +kernel
theorem dX9_plan_274 : decode cX9_plan 274 = .ok (.iload 7, 2) := by decide +kernel
theorem dX9_plan_276 : decode cX9_plan 276 = .ok (.if_icmp .ge 34, 3) := by decide +kernel
theorem dX9_plan_279 : decode cX9_plan 279 = .ok (.iload 10, 2) := by decide +kernel
theorem dX9_plan_281 : decode cX9_plan 281 = .ok (.ifCond .eq 29, 3) := by decide +kernel
theorem dX9_plan_284 : decode cX9_plan 284 = .ok (.aload_n 0, 1) := by decide +kernel
theorem dX9_plan_285 : decode cX9_plan 285 = .ok (.iload 11, 2) := by decide +kernel
theorem dX9_plan_287 : decode cX9_plan 287 = .ok (.iload 5, 2) := by decide +kernel
theorem dX9_plan_289 : decode cX9_plan 289 = .ok (.idiv, 1) := by decide +kernel
theorem dX9_plan_290 : decode cX9_plan 290 = .ok (.aload_n 0, 1) := by decide +kernel
theorem dX9_plan_291 : decode cX9_plan 291 = .ok (.getfield 116, 3) := by decide +kernel
theorem dX9_plan_294 : decode cX9_plan 294 = .ok (.iload 11, 2) := by decide +kernel
theorem dX9_plan_296 : decode cX9_plan 296 = .ok (.iaload, 1) := by decide +kernel
theorem dX9_plan_297 : decode cX9_plan 297 = .ok (.iload 4, 2) := by decide +kernel
theorem dX9_plan_299 : decode cX9_plan 299 = .ok (.invokevirtual 242, 3) := by decide +kernel
theorem dX9_plan_302 : decode cX9_plan 302 = .ok (.istore 10, 2) := by decide +kernel
theorem dX9_plan_304 : decode cX9_plan 304 = .ok (.iinc 11 1, 3) := by decide +kernel
theorem dX9_plan_307 : decode cX9_plan 307 = .ok (.goto (-35), 3) := by decide +kernel
theorem dX9_plan_310 : decode cX9_plan 310 = .ok (.iload 10, 2) := by decide +kernel
theorem dX9_plan_312 : decode cX9_plan 312 = .ok (.ifCond .eq 17, 3) := by decide +kernel
theorem dX9_plan_315 : decode cX9_plan 315 = .ok (.aload_n 0, 1) := by decide +kernel
theorem dX9_plan_316 : decode cX9_plan 316 = .ok (.iload_n 1, 1) := by decide +kernel
theorem dX9_plan_317 : decode cX9_plan 317 = .ok (.iload_n 2, 1) := by decide +kernel
theorem dX9_plan_318 : decode cX9_plan 318 = .ok (.iload 5, 2) := by decide +kernel
theorem dX9_plan_320 : decode cX9_plan 320 = .ok (.iload_n 3, 1) := by decide +kernel
theorem dX9_plan_321 : decode cX9_plan 321 = .ok (.iload 4, 2) := by decide +kernel
theorem dX9_plan_323 : decode cX9_plan 323 = .ok (.invokevirtual 246, 3) := by decide +kernel
theorem dX9_plan_326 : decode cX9_plan 326 = .ok (.goto 4, 3) := by decide +kernel
theorem dX9_plan_329 : decode cX9_plan 329 = .ok (.iconst (-1), 1) := by decide +kernel
theorem dX9_plan_330 : decode cX9_plan 330 = .ok (.istore 11, 2) := by decide +kernel
theorem dX9_plan_332 : decode cX9_plan 332 = .ok (.iload 10, 2) := by decide +kernel
theorem dX9_plan_334 : decode cX9_plan 334 = .ok (.ifCond .eq 49, 3) := by decide +kernel
theorem dX9_plan_337 : decode cX9_plan 337 = .ok (.iload 8, 2) := by decide +kernel
theorem dX9_plan_339 : decode cX9_plan 339 = .ok (.ifCond .lt 10, 3) := by decide +kernel
theorem dX9_plan_342 : decode cX9_plan 342 = .ok (.iload 11, 2) := by decide +kernel
theorem dX9_plan_344 : decode cX9_plan 344 = .ok (.iload 8, 2) := by decide +kernel
theorem dX9_plan_346 : decode cX9_plan 346 = .ok (.if_icmp .ge 37, 3) := by decide +kernel
theorem dX9_plan_349 : decode cX9_plan 349 = .ok (.iload 11, 2) := by decide +kernel
theorem dX9_plan_351 : decode cX9_plan 351 = .ok (.istore 8, 2) := by decide +kernel
theorem dX9_plan_353 : decode cX9_plan 353 = .ok (.iconst 0, 1) := by decide +kernel
theorem dX9_plan_354 : decode cX9_plan 354 = .ok (.istore 12, 2) := by decide +kernel
theorem dX9_plan_356 : decode cX9_plan 356 = .ok (.iload 12, 2) := by decide +kernel
theorem dX9_plan_358 : decode cX9_plan 358 = .ok (.iload 7, 2) := by decide +kernel
theorem dX9_plan_360 : decode cX9_plan 360 = .ok (.if_icmp .ge 23, 3) := by decide +kernel
theorem dX9_plan_363 : decode cX9_plan 363 = .ok (.aload_n 0, 1) := by decide +kernel
theorem dX9_plan_364 : decode cX9_plan 364 = .ok (.getfield 119, 3) := by decide +kernel
theorem dX9_plan_367 : decode cX9_plan 367 = .ok (.iload 12, 2) := by decide +kernel
theorem dX9_plan_369 : decode cX9_plan 369 = .ok (.aload_n 0, 1) := by decide +kernel
theorem dX9_plan_370 : decode cX9_plan 370 = .ok (.getfield 116, 3) := by decide +kernel
theorem dX9_plan_373 : decode cX9_plan 373 = .ok (.iload 12, 2) := by decide +kernel
theorem dX9_plan_375 : decode cX9_plan 375 = .ok (.iaload, 1) := by decide +kernel
theorem dX9_plan_376 : decode cX9_plan 376 = .ok (.iastore, 1) := by decide +kernel
