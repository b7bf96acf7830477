theorem dX9_cut_162 : decode cX9_cut 162 = .ok (.getfield 131, 3) := by decide +kernel
theorem dX9_cut_165 : decode cX9_cut 165 = .ok (.if_icmp .ge 95, 3) := by decide +kernel
theorem dX9_cut_168 : decode cX9_cut 168 = .ok (.lload 4, 2) := by decide +kernel
theorem dX9_cut_170 : decode cX9_cut 170 = .ok (.lconst 0, 1) := by decide +kernel
theorem dX9_cut_171 : decode cX9_cut 171 = .ok (.lcmp, 1) := by decide +kernel
theorem dX9_cut_172 : decode cX9_cut 172 = .ok (.ifCond .le 88, 3) := by decide +kernel
theorem dX9_cut_175 : decode cX9_cut 175 = .ok (.lconst 0, 1) := by decide +kernel
theorem dX9_cut_176 : decode cX9_cut 176 = .ok (.lstore 8, 2) := by decide +kernel
theorem dX9_cut_178 : decode cX9_cut 178 = .ok (.iconst 0, 1) := by decide +kernel
theorem dX9_cut_179 : decode cX9_cut 179 = .ok (.istore 10, 2) := by decide +kernel
theorem dX9_cut_181 : decode cX9_cut 181 = .ok (.iload 10, 2) := by decide +kernel
theorem dX9_cut_183 : decode cX9_cut 183 = .ok (.aload_n 0, 1) := by decide +kernel
theorem dX9_cut_184 : decode cX9_cut 184 = .ok (.getfield 148, 3) := by decide +kernel
theorem dX9_cut_187 : decode cX9_cut 187 = .ok (.if_icmp .ge 37, 3) := by decide +kernel
theorem dX9_cut_190 : decode cX9_cut 190 = .ok (.lload 8, 2) := by decide +kernel
theorem dX9_cut_192 : decode cX9_cut 192 = .ok (.aload_n 0, 1) := by decide +kernel
theorem dX9_cut_193 : decode cX9_cut 193 = .ok (.iload 10, 2) := by decide +kernel
theorem dX9_cut_195 : decode cX9_cut 195 = .ok (.invokevirtual 155, 3) := by decide +kernel
theorem dX9_cut_198 : decode cX9_cut 198 = .ok (.iload 7, 2) := by decide +kernel
theorem dX9_cut_200 : decode cX9_cut 200 = .ok (.if_icmp .ne 14, 3) := by decide +kernel
theorem dX9_cut_203 : decode cX9_cut 203 = .ok (.aload_n 0, 1) := by decide +kernel
theorem dX9_cut_204 : decode cX9_cut 204 = .ok (.iload 10, 2) := by decide +kernel
theorem dX9_cut_206 : decode cX9_cut 206 = .ok (.iload_n 1, 1) := by decide +kernel
theorem dX9_cut_207 : decode cX9_cut 207 = .ok (.invokevirtual 233, 3) := by decide +kernel
theorem dX9_cut_210 : decode cX9_cut 210 = .ok (.i2l, 1) := by decide +kernel
theorem dX9_cut_211 : decode cX9_cut 211 = .ok (.goto 4, 3) := by decide +kernel
theorem dX9_cut_214 : decode cX9_cut 214 = .ok (.lconst 0, 1) := by decide +kernel
theorem dX9_cut_215 : decode cX9_cut 215 = .ok (.ladd, 1) := by decide +kernel
theorem dX9_cut_216 : decode cX9_cut 216 = .ok (.lstore 8, 2) := by decide +kernel
theorem dX9_cut_218 : decode cX9_cut 218 = .ok (.iinc 10 1, 3) := by decide +kernel
theorem dX9_cut_221 : decode cX9_cut 221 = .ok (.goto (-40), 3) := by decide +kernel
theorem dX9_cut_224 : decode cX9_cut 224 = .ok (.iload_n 3, 1) := by decide +kernel
theorem dX9_cut_225 : decode cX9_cut 225 = .ok (.i2l, 1) := by decide +kernel
theorem dX9_cut_226 : decode cX9_cut 226 = .ok (.lload 8, 2) := by decide +kernel
theorem dX9_cut_228 : decode cX9_cut 228 = .ok (.lmul, 1) := by decide +kernel
theorem dX9_cut_229 : decode cX9_cut 229 = .ok (.lload 4, 2) := by decide +kernel
theorem dX9_cut_231 : decode cX9_cut 231 = .ok (.ldiv, 1) := by decide +kernel
theorem dX9_cut_232 : decode cX9_cut 232 = .ok (.l2i, 1) := by decide +kernel
theorem dX9_cut_233 : decode cX9_cut 233 = .ok (.istore 10, 2) := by decide +kernel
theorem dX9_cut_235 : decode cX9_cut 235 = .ok (.aload_n 0, 1) := by decide +kernel
theorem dX9_cut_236 : decode cX9_cut 236 = .ok (.getfield 35, 3) := by decide +kernel
theorem dX9_cut_239 : decode cX9_cut 239 = .ok (.iload 7, 2) := by decide +kernel
theorem dX9_cut_241 : decode cX9_cut 241 = .ok (.dup2, 1) := by decide +kernel
theorem dX9_cut_242 : decode cX9_cut 242 = .ok (.iaload, 1) := by decide +kernel
theorem dX9_cut_243 : decode cX9_cut 243 = .ok (.iload 10, 2) := by decide +kernel
theorem dX9_cut_245 : decode cX9_cut 245 = .ok (.iadd, 1) := by decide +kernel
theorem dX9_cut_246 : decode cX9_cut 246 = .ok (.iastore, 1) := by decide +kernel
theorem dX9_cut_247 : decode cX9_cut 247 = .ok (.iload 6, 2) := by decide +kernel
theorem dX9_cut_249 : decode cX9_cut 249 = .ok (.iload 10, 2) := by decide +kernel
theorem dX9_cut_251 : decode cX9_cut 251 = .ok (.isub, 1) := by decide +kernel
theorem dX9_cut_252 : decode cX9_cut 252 = .ok (.istore 6, 2) := by decide +kernel
theorem dX9_cut_254 : decode cX9_cut 254 = .ok (.iinc 7 1, 3) := by decide +kernel
theorem dX9_cut_257 : decode cX9_cut 257 = .ok (.goto (-98), 3) := by decide +kernel
theorem dX9_cut_260 : decode cX9_cut 260 = .ok (.aload_n 0, 1) := by decide +kernel
theorem dX9_cut_261 : decode cX9_cut 261 = .ok (.dup, 1) := by decide +kernel
theorem dX9_cut_262 : decode cX9_cut 262 = .ok (.getfield 236, 3) := by decide +kernel
theorem dX9_cut_265 : decode cX9_cut 265 = .ok (.iload 6, 2) := by decide +kernel
theorem dX9_cut_267 : decode cX9_cut 267 = .ok (.iadd, 1) := by decide +kernel
theorem dX9_cut_268 : decode cX9_cut 268 = .ok (.putfield 236, 3) := by decide +kernel
theorem dX9_cut_271 : decode cX9_cut 271 = .ok (.iload_n 3, 1) := by decide +kernel
theorem dX9_cut_272 : decode cX9_cut 272 = .ok (.ireturn, 1) := by decide +kernel
theorem dX9_counts_0 : decode cX9_counts 0 = .ok (.aload_n 0, 1) := by decide +kernel
theorem dX9_counts_1 : decode cX9_counts 1 = .ok (.getfield 50, 3) := by decide +kernel
theorem dX9_counts_4 : decode cX9_counts 4 = .ok (.iload_n 1, 1) := by decide +kernel
theorem dX9_counts_5 : decode cX9_counts 5 = .ok (.iaload, 1) := by decide +kernel
theorem dX9_counts_6 : decode cX9_counts 6 = .ok (.iconst 2, 1) := by decide +kernel
theorem dX9_counts_7 : decode cX9_counts 7 = .ok (.if_icmp .eq 23, 3) := by decide +kernel
theorem dX9_counts_10 : decode cX9_counts 10 = .ok (.aload_n 0, 1) := by decide +kernel
theorem dX9_counts_11 : decode cX9_counts 11 = .ok (.getfield 50, 3) := by decide +kernel
theorem dX9_counts_14 : decode cX9_counts 14 = .ok (.iload_n 1, 1) := by decide +kernel
theorem dX9_counts_15 : decode cX9_counts 15 = .ok (.iaload, 1) := by decide +kernel
theorem dX9_counts_16 : decode cX9_counts 16 = .ok (.iconst 3, 1) := by decide +kernel
theorem dX9_counts_17 : decode cX9_counts 17 = .ok (.if_icmp .ne 17, 3) := by decide +kernel
theorem dX9_counts_20 : decode cX9_counts 20 = .ok (.aload_n 0, 1) := by decide +kernel
theorem dX9_counts_21 : decode cX9_counts 21 = .ok (.getfield 65, 3) := by decide +kernel
theorem dX9_counts_24 : decode cX9_counts 24 = .ok (.iload_n 1, 1) := by decide +kernel
theorem dX9_counts_25 : decode cX9_counts 25 = .ok (.iaload, 1) := by decide +kernel
theorem dX9_counts_26 : decode cX9_counts 26 = .ok (.iload_n 2, 1) := by decide +kernel
theorem dX9_counts_27 : decode cX9_counts 27 = .ok (.if_icmp .eq 7, 3) := by decide +kernel
theorem dX9_counts_30 : decode cX9_counts 30 = .ok (.iconst 0, 1) := by decide +kernel
theorem dX9_counts_31 : decode cX9_counts 31 = .ok (.goto 8, 3) := by decide +kernel
theorem dX9_counts_34 : decode cX9_counts 34 = .ok (.aload_n 0, 1) := by decide +kernel
theorem dX9_counts_35 : decode cX9_counts 35 = .ok (.iload_n 1, 1) := by decide +kernel
theorem dX9_counts_36 : decode cX9_counts 36 = .ok (.invokevirtual 158, 3) := by decide +kernel
theorem dX9_counts_39 : decode cX9_counts 39 = .ok (.ireturn, 1) := by decide +kernel
theorem dX9_pound_0 : decode cX9_pound 0 = .ok (.iload_n 1, 1) := by decide +kernel
theorem dX9_pound_1 : decode cX9_pound 1 = .ok (.aload_n 0, 1) := by decide +kernel
theorem dX9_pound_2 : decode cX9_pound 2 = .ok (.getfield 164, 3) := by decide +kernel
theorem dX9_pound_5 : decode cX9_pound 5 = .ok (.invokestatic 134, 3) := by decide +kernel
theorem dX9_pound_8 : decode cX9_pound 8 = .ok (.ifCond .ne 9, 3) := by decide +kernel
theorem dX9_pound_11 : decode cX9_pound 11 = .ok (.aload_n 0, 1) := by decide +kernel
theorem dX9_pound_12 : decode cX9_pound 12 = .ok (.iconst (-1), 1) := by decide +kernel
theorem dX9_pound_13 : decode cX9_pound 13 = .ok (.invokevirtual 122, 3) := by decide +kernel
theorem dX9_pound_16 : decode cX9_pound 16 = .ok (.ireturn, 1) := by decide +kernel
theorem dX9_pound_17 : decode cX9_pound 17 = .ok (.aload_n 0, 1) := by decide +kernel
theorem dX9_pound_18 : decode cX9_pound 18 = .ok (.iload_n 1, 1) := by decide +kernel
theorem dX9_pound_19 : decode cX9_pound 19 = .ok (.invokevirtual 167, 3) := by decide +kernel
theorem dX9_pound_22 : decode cX9_pound 22 = .ok (.ifCond .eq 16, 3) := by decide +kernel
theorem dX9_pound_25 : decode cX9_pound 25 = .ok (.aload_n 0, 1) := by decide +kernel
theorem dX9_pound_26 : decode cX9_pound 26 = .ok (.aload_n 0, 1) := by decide +kernel
theorem dX9_pound_27 : decode cX9_pound 27 = .ok (.getfield 80, 3) := by decide +kernel
theorem dX9_pound_30 : decode cX9_pound 30 = .ok (.iload_n 1, 1) := by decide +kernel
theorem dX9_pound_31 : decode cX9_pound 31 = .ok (.iaload, 1) := by decide +kernel
theorem dX9_pound_32 : decode cX9_pound 32 = .ok (.invokevirtual 185, 3) := by decide +kernel
theorem dX9_pound_35 : decode cX9_pound 35 = .ok (.ifCond .ne 10, 3) := by decide +kernel
theorem dX9_pound_38 : decode cX9_pound 38 = .ok (.aload_n 0, 1) := by decide +kernel
theorem dX9_pound_39 : decode cX9_pound 39 = .ok (.bipush (-3), 2) := by decide +kernel
theorem dX9_pound_41 : decode cX9_pound 41 = .ok (.invokevirtual 122, 3) := by decide +kernel
theorem dX9_pound_44 : decode cX9_pound 44 = .ok (.ireturn, 1) := by decide +kernel
theorem dX9_pound_45 : decode cX9_pound 45 = .ok (.aload_n 0, 1) := by decide +kernel
theorem dX9_pound_46 : decode cX9_pound 46 = .ok (.getfield 89, 3) := by decide +kernel
theorem dX9_pound_49 : decode cX9_pound 49 = .ok (.iload_n 1, 1) := by decide +kernel
theorem dX9_pound_50 : decode cX9_pound 50 = .ok (.iconst (-1), 1) := by decide +kernel
theorem dX9_pound_51 : decode cX9_pound 51 = .ok (.iastore, 1) := by decide +kernel
theorem dX9_pound_52 : decode cX9_pound 52 = .ok (.aload_n 0, 1) := by decide +kernel
theorem dX9_pound_53 : decode cX9_pound 53 = .ok (.getfield 98, 3) := by decide +kernel
theorem dX9_pound_56 : decode cX9_pound 56 = .ok (.iload_n 1, 1) := by decide +kernel
theorem dX9_pound_57 : decode cX9_pound 57 = .ok (.iconst 1, 1) := by decide +kernel
theorem dX9_pound_58 : decode cX9_pound 58 = .ok (.iastore, 1) := by decide +kernel
theorem dX9_pound_59 : decode cX9_pound 59 = .ok (.aload_n 0, 1) := by decide +kernel
theorem dX9_pound_60 : decode cX9_pound 60 = .ok (.getfield 101, 3) := by decide +kernel
theorem dX9_pound_63 : decode cX9_pound 63 = .ok (.iload_n 1, 1) := by decide +kernel
theorem dX9_pound_64 : decode cX9_pound 64 = .ok (.aload_n 0, 1) := by decide +kernel
theorem dX9_pound_65 : decode cX9_pound 65 = .ok (.getfield 141, 3) := by decide +kernel
theorem dX9_pound_68 : decode cX9_pound 68 = .ok (.iastore, 1) := by decide +kernel
theorem dX9_pound_69 : decode cX9_pound 69 = .ok (.iconst 1, 1) := by decide +kernel
theorem dX9_pound_70 : decode cX9_pound 70 = .ok (.ireturn, 1) := by decide +kernel
theorem dX9_feeOf_0 : decode cX9_feeOf 0 = .ok (.aload_n 0, 1) := by decide +kernel
theorem dX9_feeOf_1 : decode cX9_feeOf 1 = .ok (.getfield 98, 3) := by decide +kernel
theorem dX9_feeOf_4 : decode cX9_feeOf 4 = .ok (.iload_n 1, 1) := by decide +kernel
theorem dX9_feeOf_5 : decode cX9_feeOf 5 = .ok (.iaload, 1) := by decide +kernel
theorem dX9_feeOf_6 : decode cX9_feeOf 6 = .ok (.iconst 1, 1) := by decide +kernel
theorem dX9_feeOf_7 : decode cX9_feeOf 7 = .ok (.if_icmp .ne 26, 3) := by decide +kernel
theorem dX9_feeOf_10 : decode cX9_feeOf 10 = .ok (.aload_n 0, 1) := by decide +kernel
theorem dX9_feeOf_11 : decode cX9_feeOf 11 = .ok (.getfield 141, 3) := by decide +kernel
theorem dX9_feeOf_14 : decode cX9_feeOf 14 = .ok (.aload_n 0, 1) := by decide +kernel
theorem dX9_feeOf_15 : decode cX9_feeOf 15 = .ok (.getfield 101, 3) := by decide +kernel
theorem dX9_feeOf_18 : decode cX9_feeOf 18 = .ok (.iload_n 1, 1) := by decide +kernel
theorem dX9_feeOf_19 : decode cX9_feeOf 19 = .ok (.iaload, 1) := by decide +kernel
theorem dX9_feeOf_20 : decode cX9_feeOf 20 = .ok (.isub, 1) := by decide +kernel
theorem dX9_feeOf_21 : decode cX9_feeOf 21 = .ok (.iconst 1, 1) := by decide +kernel
theorem dX9_feeOf_22 : decode cX9_feeOf 22 = .ok (.iadd, 1) := by decide +kernel
theorem dX9_feeOf_23 : decode cX9_feeOf 23 = .ok (.aload_n 0, 1) := by decide +kernel
theorem dX9_feeOf_24 : decode cX9_feeOf 24 = .ok (.getfield 86, 3) := by decide +kernel
theorem dX9_feeOf_27 : decode cX9_feeOf 27 = .ok (.iload_n 1, 1) := by decide +kernel
theorem dX9_feeOf_28 : decode cX9_feeOf 28 = .ok (.iaload, 1) := by decide +kernel
theorem dX9_feeOf_29 : decode cX9_feeOf 29 = .ok (.imul, 1) := by decide +kernel
theorem dX9_feeOf_30 : decode cX9_feeOf 30 = .ok (.goto 4, 3) := by decide +kernel
theorem dX9_feeOf_33 : decode cX9_feeOf 33 = .ok (.iconst 0, 1) := by decide +kernel
theorem dX9_feeOf_34 : decode cX9_feeOf 34 = .ok (.ireturn, 1) := by decide +kernel
theorem dX9_free_0 : decode cX9_free 0 = .ok (.iload_n 1, 1) := by decide +kernel
theorem dX9_free_1 : decode cX9_free 1 = .ok (.aload_n 0, 1) := by decide +kernel
theorem dX9_free_2 : decode cX9_free 2 = .ok (.getfield 164, 3) := by decide +kernel
theorem dX9_free_5 : decode cX9_free 5 = .ok (.invokestatic 134, 3) := by decide +kernel
theorem dX9_free_8 : decode cX9_free 8 = .ok (.ifCond .ne 9, 3) := by decide +kernel
theorem dX9_free_11 : decode cX9_free 11 = .ok (.aload_n 0, 1) := by decide +kernel
theorem dX9_free_12 : decode cX9_free 12 = .ok (.iconst (-1), 1) := by decide +kernel
theorem dX9_free_13 : decode cX9_free 13 = .ok (.invokevirtual 122, 3) := by decide +kernel
theorem dX9_free_16 : decode cX9_free 16 = .ok (.ireturn, 1) := by decide +kernel
theorem dX9_free_17 : decode cX9_free 17 = .ok (.aload_n 0, 1) := by decide +kernel
theorem dX9_free_18 : decode cX9_free 18 = .ok (.getfield 98, 3) := by decide +kernel
theorem dX9_free_21 : decode cX9_free 21 = .ok (.iload_n 1, 1) := by decide +kernel
theorem dX9_free_22 : decode cX9_free 22 = .ok (.iaload, 1) := by decide +kernel
theorem dX9_free_23 : decode cX9_free 23 = .ok (.iconst 1, 1) := by decide +kernel
theorem dX9_free_24 : decode cX9_free 24 = .ok (.if_icmp .eq 10, 3) := by decide +kernel
theorem dX9_free_27 : decode cX9_free 27 = .ok (.aload_n 0, 1) := by decide +kernel
theorem dX9_free_28 : decode cX9_free 28 = .ok (.bipush (-3), 2) := by decide +kernel
theorem dX9_free_30 : decode cX9_free 30 = .ok (.invokevirtual 122, 3) := by decide +kernel
theorem dX9_free_33 : decode cX9_free 33 = .ok (.ireturn, 1) := by decide +kernel
theorem dX9_free_34 : decode cX9_free 34 = .ok (.aload_n 0, 1) := by decide +kernel
theorem dX9_free_35 : decode cX9_free 35 = .ok (.iload_n 1, 1) := by decide +kernel
theorem dX9_free_36 : decode cX9_free 36 = .ok (.invokevirtual 239, 3) := by decide +kernel
theorem dX9_free_39 : decode cX9_free 39 = .ok (.istore_n 2, 1) := by decide +kernel
theorem dX9_free_40 : decode cX9_free 40 = .ok (.iload_n 2, 1) := by decide +kernel
theorem dX9_free_41 : decode cX9_free 41 = .ok (.aload_n 0, 1) := by decide +kernel
theorem dX9_free_42 : decode cX9_free 42 = .ok (.getfield 32, 3) := by decide +kernel
theorem dX9_free_45 : decode cX9_free 45 = .ok (.aload_n 0, 1) := by decide +kernel
theorem dX9_free_46 : decode cX9_free 46 = .ok (.getfield 80, 3) := by decide +kernel
theorem dX9_free_49 : decode cX9_free 49 = .ok (.iload_n 1, 1) := by decide +kernel
theorem dX9_free_50 : decode cX9_free 50 = .ok (.iaload, 1) := by decide +kernel
theorem dX9_free_51 : decode cX9_free 51 = .ok (.iaload, 1) := by decide +kernel
theorem dX9_free_52 : decode cX9_free 52 = .ok (.if_icmp .le 10, 3) := by decide +kernel
theorem dX9_free_55 : decode cX9_free 55 = .ok (.aload_n 0, 1) := by decide +kernel
theorem dX9_free_56 : decode cX9_free 56 = .ok (.bipush (-5), 2) := by decide +kernel
theorem dX9_free_58 : decode cX9_free 58 = .ok (.invokevirtual 122, 3) := by decide +kernel
theorem dX9_free_61 : decode cX9_free 61 = .ok (.ireturn, 1) := by decide +kernel
theorem dX9_free_62 : decode cX9_free 62 = .ok (.aload_n 0, 1) := by decide +kernel
theorem dX9_free_63 : decode cX9_free 63 = .ok (.getfield 32, 3) := by decide +kernel
theorem dX9_free_66 : decode cX9_free 66 = .ok (.aload_n 0, 1) := by decide +kernel
theorem dX9_free_67 : decode cX9_free 67 = .ok (.getfield 80, 3) := by decide +kernel
theorem dX9_free_70 : decode cX9_free 70 = .ok (.iload_n 1, 1) := by decide +kernel
theorem dX9_free_71 : decode cX9_free 71 = .ok (.iaload, 1) := by decide +kernel
theorem dX9_free_72 : decode cX9_free 72 = .ok (.dup2, 1) := by decide +kernel
theorem dX9_free_73 : decode cX9_free 73 = .ok (.iaload, 1) := by decide +kernel
theorem dX9_free_74 : decode cX9_free 74 = .ok (.iload_n 2, 1) := by decide +kernel
theorem dX9_free_75 : decode cX9_free 75 = .ok (.isub, 1) := by decide +kernel
theorem dX9_free_76 : decode cX9_free 76 = .ok (.iastore, 1) := by decide +kernel
theorem dX9_free_77 : decode cX9_free 77 = .ok (.aload_n 0, 1) := by decide +kernel
theorem dX9_free_78 : decode cX9_free 78 = .ok (.dup, 1) := by decide +kernel
theorem dX9_free_79 : decode cX9_free 79 = .ok (.getfield 205, 3) := by decide +kernel
theorem dX9_free_82 : decode cX9_free 82 = .ok (.iload_n 2, 1) := by decide +kernel
theorem dX9_free_83 : decode cX9_free 83 = .ok (.iadd, 1) := by decide +kernel
theorem dX9_free_84 : decode cX9_free 84 = .ok (.putfield 205, 3) := by decide +kernel
theorem dX9_free_87 : decode cX9_free 87 = .ok (.aload_n 0, 1) := by decide +kernel
theorem dX9_free_88 : decode cX9_free 88 = .ok (.getfield 98, 3) := by decide +kernel
theorem dX9_free_91 : decode cX9_free 91 = .ok (.iload_n 1, 1) := by decide +kernel
theorem dX9_free_92 : decode cX9_free 92 = .ok (.iconst 0, 1) := by decide +kernel
theorem dX9_free_93 : decode cX9_free 93 = .ok (.iastore, 1) := by decide +kernel
theorem dX9_free_94 : decode cX9_free 94 = .ok (.iload_n 2, 1) := by decide +kernel
theorem dX9_free_95 : decode cX9_free 95 = .ok (.ireturn, 1) := by decide +kernel
theorem dX9_mayTake_0 : decode cX9_mayTake 0 = .ok (.aload_n 0, 1) := by decide +kernel
theorem dX9_mayTake_1 : decode cX9_mayTake 1 = .ok (.getfield 141, 3) := by decide +kernel
theorem dX9_mayTake_4 : decode cX9_mayTake 4 = .ok (.iconst 1, 1) := by decide +kernel
theorem dX9_mayTake_5 : decode cX9_mayTake 5 = .ok (.iadd, 1) := by decide +kernel
theorem dX9_mayTake_6 : decode cX9_mayTake 6 = .ok (.iload_n 1, 1) := by decide +kernel
theorem dX9_mayTake_7 : decode cX9_mayTake 7 = .ok (.iload_n 3, 1) := by decide +kernel
theorem dX9_mayTake_8 : decode cX9_mayTake 8 = .ok (.imul, 1) := by decide +kernel
theorem dX9_mayTake_9 : decode cX9_mayTake 9 = .ok (.iadd, 1) := by decide +kernel
theorem dX9_mayTake_10 : decode cX9_mayTake 10 = .ok (.aload_n 0, 1) := by decide +kernel
theorem dX9_mayTake_11 : decode cX9_mayTake 11 = .ok (.getfield 22, 3) := by decide +kernel
theorem dX9_mayTake_14 : decode cX9_mayTake 14 = .ok (.iload_n 2, 1) := by decide +kernel
theorem dX9_mayTake_15 : decode cX9_mayTake 15 = .ok (.iaload, 1) := by decide +kernel
theorem dX9_mayTake_16 : decode cX9_mayTake 16 = .ok (.if_icmp .le 7, 3) := by decide +kernel
theorem dX9_mayTake_19 : decode cX9_mayTake 19 = .ok (.iconst 1, 1) := by decide +kernel
theorem dX9_mayTake_20 : decode cX9_mayTake 20 = .ok (.goto 4, 3) := by decide +kernel
theorem dX9_mayTake_23 : decode cX9_mayTake 23 = .ok (.iconst 0, 1) := by decide +kernel
theorem dX9_mayTake_24 : decode cX9_mayTake 24 = .ok (.ireturn, 1) := by decide +kernel
theorem dX9_planned_0 : decode cX9_planned 0 = .ok (.iload_n 1, 1) := by decide +kernel
theorem dX9_planned_1 : decode cX9_planned 1 = .ok (.aload_n 0, 1) := by decide +kernel
theorem dX9_planned_2 : decode cX9_planned 2 = .ok (.getfield 250, 3) := by decide +kernel
theorem dX9_planned_5 : decode cX9_planned 5 = .ok (.invokestatic 134, 3) := by decide +kernel
theorem dX9_planned_8 : decode cX9_planned 8 = .ok (.ifCond .eq 30, 3) := by decide +kernel
theorem dX9_planned_11 : decode cX9_planned 11 = .ok (.iload_n 2, 1) := by decide +kernel
theorem dX9_planned_12 : decode cX9_planned 12 = .ok (.aload_n 0, 1) := by decide +kernel
theorem dX9_planned_13 : decode cX9_planned 13 = .ok (.getfield 253, 3) := by decide +kernel
theorem dX9_planned_16 : decode cX9_planned 16 = .ok (.invokestatic 134, 3) := by decide +kernel
theorem dX9_planned_19 : decode cX9_planned 19 = .ok (.ifCond .eq 19, 3) := by decide +kernel
theorem dX9_planned_22 : decode cX9_planned 22 = .ok (.aload_n 0, 1) := by decide +kernel
theorem dX9_planned_23 : decode cX9_planned 23 = .ok (.getfield 119, 3) := by decide +kernel
theorem dX9_planned_26 : decode cX9_planned 26 = .ok (.aload_n 0, 1) := by decide +kernel
theorem dX9_planned_27 : decode cX9_planned 27 = .ok (.getfield 253, 3) := by decide +kernel
theorem dX9_planned_30 : decode cX9_planned 30 = .ok (.iload_n 1, 1) := by decide +kernel
theorem dX9_planned_31 : decode cX9_planned 31 = .ok (.imul, 1) := by decide +kernel
theorem dX9_planned_32 : decode cX9_planned 32 = .ok (.iload_n 2, 1) := by decide +kernel
theorem dX9_planned_33 : decode cX9_planned 33 = .ok (.iadd, 1) := by decide +kernel
theorem dX9_planned_34 : decode cX9_planned 34 = .ok (.iaload, 1) := by decide +kernel
theorem dX9_planned_35 : decode cX9_planned 35 = .ok (.goto 5, 3) := by decide +kernel
theorem dX9_planned_38 : decode cX9_planned 38 = .ok (.bipush (-9), 2) := by decide +kernel
theorem dX9_planned_40 : decode cX9_planned 40 = .ok (.ireturn, 1) := by decide +kernel
theorem dX9_pieceOf_0 : decode cX9_pieceOf 0 = .ok (.iload_n 1, 1) := by decide +kernel
