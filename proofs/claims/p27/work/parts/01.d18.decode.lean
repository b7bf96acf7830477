theorem dX9_pass_129 : decode cX9_pass 129 = .ok (.getfield 221, 3) := by decide +kernel
theorem dX9_pass_132 : decode cX9_pass 132 = .ok (.aload_n 0, 1) := by decide +kernel
theorem dX9_pass_133 : decode cX9_pass 133 = .ok (.getfield 113, 3) := by decide +kernel
theorem dX9_pass_136 : decode cX9_pass 136 = .ok (.iload 4, 2) := by decide +kernel
theorem dX9_pass_138 : decode cX9_pass 138 = .ok (.iaload, 1) := by decide +kernel
theorem dX9_pass_139 : decode cX9_pass 139 = .ok (.iadd, 1) := by decide +kernel
theorem dX9_pass_140 : decode cX9_pass 140 = .ok (.putfield 221, 3) := by decide +kernel
theorem dX9_pass_143 : decode cX9_pass 143 = .ok (.iinc 4 1, 3) := by decide +kernel
theorem dX9_pass_146 : decode cX9_pass 146 = .ok (.goto (-45), 3) := by decide +kernel
theorem dX9_pass_149 : decode cX9_pass 149 = .ok (.iconst 0, 1) := by decide +kernel
theorem dX9_pass_150 : decode cX9_pass 150 = .ok (.istore 4, 2) := by decide +kernel
theorem dX9_pass_152 : decode cX9_pass 152 = .ok (.iload 4, 2) := by decide +kernel
theorem dX9_pass_154 : decode cX9_pass 154 = .ok (.aload_n 0, 1) := by decide +kernel
theorem dX9_pass_155 : decode cX9_pass 155 = .ok (.getfield 164, 3) := by decide +kernel
theorem dX9_pass_158 : decode cX9_pass 158 = .ok (.if_icmp .ge 36, 3) := by decide +kernel
theorem dX9_pass_161 : decode cX9_pass 161 = .ok (.aload_n 0, 1) := by decide +kernel
theorem dX9_pass_162 : decode cX9_pass 162 = .ok (.getfield 95, 3) := by decide +kernel
theorem dX9_pass_165 : decode cX9_pass 165 = .ok (.iload 4, 2) := by decide +kernel
theorem dX9_pass_167 : decode cX9_pass 167 = .ok (.dup2, 1) := by decide +kernel
theorem dX9_pass_168 : decode cX9_pass 168 = .ok (.iaload, 1) := by decide +kernel
theorem dX9_pass_169 : decode cX9_pass 169 = .ok (.aload_n 0, 1) := by decide +kernel
theorem dX9_pass_170 : decode cX9_pass 170 = .ok (.getfield 104, 3) := by decide +kernel
theorem dX9_pass_173 : decode cX9_pass 173 = .ok (.iload 4, 2) := by decide +kernel
theorem dX9_pass_175 : decode cX9_pass 175 = .ok (.iaload, 1) := by decide +kernel
theorem dX9_pass_176 : decode cX9_pass 176 = .ok (.iadd, 1) := by decide +kernel
theorem dX9_pass_177 : decode cX9_pass 177 = .ok (.iastore, 1) := by decide +kernel
theorem dX9_pass_178 : decode cX9_pass 178 = .ok (.iload_n 2, 1) := by decide +kernel
theorem dX9_pass_179 : decode cX9_pass 179 = .ok (.aload_n 0, 1) := by decide +kernel
theorem dX9_pass_180 : decode cX9_pass 180 = .ok (.getfield 104, 3) := by decide +kernel
theorem dX9_pass_183 : decode cX9_pass 183 = .ok (.iload 4, 2) := by decide +kernel
theorem dX9_pass_185 : decode cX9_pass 185 = .ok (.iaload, 1) := by decide +kernel
theorem dX9_pass_186 : decode cX9_pass 186 = .ok (.iadd, 1) := by decide +kernel
theorem dX9_pass_187 : decode cX9_pass 187 = .ok (.istore_n 2, 1) := by decide +kernel
theorem dX9_pass_188 : decode cX9_pass 188 = .ok (.iinc 4 1, 3) := by decide +kernel
theorem dX9_pass_191 : decode cX9_pass 191 = .ok (.goto (-39), 3) := by decide +kernel
theorem dX9_pass_194 : decode cX9_pass 194 = .ok (.aload_n 0, 1) := by decide +kernel
theorem dX9_pass_195 : decode cX9_pass 195 = .ok (.invokevirtual 224, 3) := by decide +kernel
theorem dX9_pass_198 : decode cX9_pass 198 = .ok (.aload_n 0, 1) := by decide +kernel
theorem dX9_pass_199 : decode cX9_pass 199 = .ok (.invokevirtual 227, 3) := by decide +kernel
theorem dX9_pass_202 : decode cX9_pass 202 = .ok (.iinc 3 1, 3) := by decide +kernel
theorem dX9_pass_205 : decode cX9_pass 205 = .ok (.goto (-170), 3) := by decide +kernel
theorem dX9_pass_208 : decode cX9_pass 208 = .ok (.aload_n 0, 1) := by decide +kernel
theorem dX9_pass_209 : decode cX9_pass 209 = .ok (.dup, 1) := by decide +kernel
theorem dX9_pass_210 : decode cX9_pass 210 = .ok (.getfield 230, 3) := by decide +kernel
theorem dX9_pass_213 : decode cX9_pass 213 = .ok (.iload_n 2, 1) := by decide +kernel
theorem dX9_pass_214 : decode cX9_pass 214 = .ok (.iadd, 1) := by decide +kernel
theorem dX9_pass_215 : decode cX9_pass 215 = .ok (.putfield 230, 3) := by decide +kernel
theorem dX9_pass_218 : decode cX9_pass 218 = .ok (.iload_n 2, 1) := by decide +kernel
theorem dX9_pass_219 : decode cX9_pass 219 = .ok (.ireturn, 1) := by decide +kernel
theorem dX9_rest_0 : decode cX9_rest 0 = .ok (.iload_n 1, 1) := by decide +kernel
theorem dX9_rest_1 : decode cX9_rest 1 = .ok (.aload_n 0, 1) := by decide +kernel
theorem dX9_rest_2 : decode cX9_rest 2 = .ok (.getfield 127, 3) := by decide +kernel
theorem dX9_rest_5 : decode cX9_rest 5 = .ok (.invokestatic 134, 3) := by decide +kernel
theorem dX9_rest_8 : decode cX9_rest 8 = .ok (.ifCond .ne 9, 3) := by decide +kernel
theorem dX9_rest_11 : decode cX9_rest 11 = .ok (.aload_n 0, 1) := by decide +kernel
theorem dX9_rest_12 : decode cX9_rest 12 = .ok (.iconst (-1), 1) := by decide +kernel
theorem dX9_rest_13 : decode cX9_rest 13 = .ok (.invokevirtual 122, 3) := by decide +kernel
theorem dX9_rest_16 : decode cX9_rest 16 = .ok (.ireturn, 1) := by decide +kernel
theorem dX9_rest_17 : decode cX9_rest 17 = .ok (.iload_n 2, 1) := by decide +kernel
theorem dX9_rest_18 : decode cX9_rest 18 = .ok (.aload_n 0, 1) := by decide +kernel
theorem dX9_rest_19 : decode cX9_rest 19 = .ok (.getfield 141, 3) := by decide +kernel
theorem dX9_rest_22 : decode cX9_rest 22 = .ok (.if_icmp .ge 10, 3) := by decide +kernel
theorem dX9_rest_25 : decode cX9_rest 25 = .ok (.aload_n 0, 1) := by decide +kernel
theorem dX9_rest_26 : decode cX9_rest 26 = .ok (.bipush (-4), 2) := by decide +kernel
theorem dX9_rest_28 : decode cX9_rest 28 = .ok (.invokevirtual 122, 3) := by decide +kernel
theorem dX9_rest_31 : decode cX9_rest 31 = .ok (.ireturn, 1) := by decide +kernel
theorem dX9_rest_32 : decode cX9_rest 32 = .ok (.iload_n 2, 1) := by decide +kernel
theorem dX9_rest_33 : decode cX9_rest 33 = .ok (.sipush 740, 3) := by decide +kernel
theorem dX9_rest_36 : decode cX9_rest 36 = .ok (.if_icmp .le 10, 3) := by decide +kernel
theorem dX9_rest_39 : decode cX9_rest 39 = .ok (.aload_n 0, 1) := by decide +kernel
theorem dX9_rest_40 : decode cX9_rest 40 = .ok (.bipush (-6), 2) := by decide +kernel
theorem dX9_rest_42 : decode cX9_rest 42 = .ok (.invokevirtual 122, 3) := by decide +kernel
theorem dX9_rest_45 : decode cX9_rest 45 = .ok (.ireturn, 1) := by decide +kernel
theorem dX9_rest_46 : decode cX9_rest 46 = .ok (.aload_n 0, 1) := by decide +kernel
theorem dX9_rest_47 : decode cX9_rest 47 = .ok (.getfield 22, 3) := by decide +kernel
theorem dX9_rest_50 : decode cX9_rest 50 = .ok (.iload_n 1, 1) := by decide +kernel
theorem dX9_rest_51 : decode cX9_rest 51 = .ok (.iaload, 1) := by decide +kernel
theorem dX9_rest_52 : decode cX9_rest 52 = .ok (.istore_n 3, 1) := by decide +kernel
theorem dX9_rest_53 : decode cX9_rest 53 = .ok (.aload_n 0, 1) := by decide +kernel
theorem dX9_rest_54 : decode cX9_rest 54 = .ok (.getfield 22, 3) := by decide +kernel
theorem dX9_rest_57 : decode cX9_rest 57 = .ok (.iload_n 1, 1) := by decide +kernel
theorem dX9_rest_58 : decode cX9_rest 58 = .ok (.iload_n 2, 1) := by decide +kernel
theorem dX9_rest_59 : decode cX9_rest 59 = .ok (.iastore, 1) := by decide +kernel
theorem dX9_rest_60 : decode cX9_rest 60 = .ok (.iload_n 3, 1) := by decide +kernel
theorem dX9_rest_61 : decode cX9_rest 61 = .ok (.ireturn, 1) := by decide +kernel
theorem dX9_cut_0 : decode cX9_cut 0 = .ok (.iload_n 1, 1) := by decide +kernel
theorem dX9_cut_1 : decode cX9_cut 1 = .ok (.aload_n 0, 1) := by decide +kernel
theorem dX9_cut_2 : decode cX9_cut 2 = .ok (.getfield 127, 3) := by decide +kernel
theorem dX9_cut_5 : decode cX9_cut 5 = .ok (.invokestatic 134, 3) := by decide +kernel
theorem dX9_cut_8 : decode cX9_cut 8 = .ok (.ifCond .ne 9, 3) := by decide +kernel
theorem dX9_cut_11 : decode cX9_cut 11 = .ok (.aload_n 0, 1) := by decide +kernel
theorem dX9_cut_12 : decode cX9_cut 12 = .ok (.iconst (-1), 1) := by decide +kernel
theorem dX9_cut_13 : decode cX9_cut 13 = .ok (.invokevirtual 122, 3) := by decide +kernel
theorem dX9_cut_16 : decode cX9_cut 16 = .ok (.ireturn, 1) := by decide +kernel
theorem dX9_cut_17 : decode cX9_cut 17 = .ok (.iconst 0, 1) := by decide +kernel
theorem dX9_cut_18 : decode cX9_cut 18 = .ok (.istore_n 2, 1) := by decide +kernel
theorem dX9_cut_19 : decode cX9_cut 19 = .ok (.iconst 0, 1) := by decide +kernel
theorem dX9_cut_20 : decode cX9_cut 20 = .ok (.istore_n 3, 1) := by decide +kernel
theorem dX9_cut_21 : decode cX9_cut 21 = .ok (.iload_n 3, 1) := by decide +kernel
theorem dX9_cut_22 : decode cX9_cut 22 = .ok (.aload_n 0, 1) := by decide +kernel
theorem dX9_cut_23 : decode cX9_cut 23 = .ok (.getfield 164, 3) := by decide +kernel
theorem dX9_cut_26 : decode cX9_cut 26 = .ok (.if_icmp .ge 37, 3) := by decide +kernel
theorem dX9_cut_29 : decode cX9_cut 29 = .ok (.iload_n 2, 1) := by decide +kernel
theorem dX9_cut_30 : decode cX9_cut 30 = .ok (.ifCond .ne 21, 3) := by decide +kernel
theorem dX9_cut_33 : decode cX9_cut 33 = .ok (.aload_n 0, 1) := by decide +kernel
theorem dX9_cut_34 : decode cX9_cut 34 = .ok (.iload_n 3, 1) := by decide +kernel
theorem dX9_cut_35 : decode cX9_cut 35 = .ok (.invokevirtual 167, 3) := by decide +kernel
theorem dX9_cut_38 : decode cX9_cut 38 = .ok (.ifCond .eq 17, 3) := by decide +kernel
theorem dX9_cut_41 : decode cX9_cut 41 = .ok (.aload_n 0, 1) := by decide +kernel
theorem dX9_cut_42 : decode cX9_cut 42 = .ok (.getfield 89, 3) := by decide +kernel
theorem dX9_cut_45 : decode cX9_cut 45 = .ok (.iload_n 3, 1) := by decide +kernel
theorem dX9_cut_46 : decode cX9_cut 46 = .ok (.iaload, 1) := by decide +kernel
theorem dX9_cut_47 : decode cX9_cut 47 = .ok (.iload_n 1, 1) := by decide +kernel
theorem dX9_cut_48 : decode cX9_cut 48 = .ok (.if_icmp .ne 7, 3) := by decide +kernel
theorem dX9_cut_51 : decode cX9_cut 51 = .ok (.iconst 1, 1) := by decide +kernel
theorem dX9_cut_52 : decode cX9_cut 52 = .ok (.goto 4, 3) := by decide +kernel
theorem dX9_cut_55 : decode cX9_cut 55 = .ok (.iconst 0, 1) := by decide +kernel
theorem dX9_cut_56 : decode cX9_cut 56 = .ok (.istore_n 2, 1) := by decide +kernel
theorem dX9_cut_57 : decode cX9_cut 57 = .ok (.iinc 3 1, 3) := by decide +kernel
theorem dX9_cut_60 : decode cX9_cut 60 = .ok (.goto (-39), 3) := by decide +kernel
theorem dX9_cut_63 : decode cX9_cut 63 = .ok (.aload_n 0, 1) := by decide +kernel
theorem dX9_cut_64 : decode cX9_cut 64 = .ok (.iload_n 1, 1) := by decide +kernel
theorem dX9_cut_65 : decode cX9_cut 65 = .ok (.invokevirtual 182, 3) := by decide +kernel
theorem dX9_cut_68 : decode cX9_cut 68 = .ok (.ifCond .ne 7, 3) := by decide +kernel
theorem dX9_cut_71 : decode cX9_cut 71 = .ok (.iload_n 2, 1) := by decide +kernel
theorem dX9_cut_72 : decode cX9_cut 72 = .ok (.ifCond .eq 10, 3) := by decide +kernel
theorem dX9_cut_75 : decode cX9_cut 75 = .ok (.aload_n 0, 1) := by decide +kernel
theorem dX9_cut_76 : decode cX9_cut 76 = .ok (.bipush (-3), 2) := by decide +kernel
theorem dX9_cut_78 : decode cX9_cut 78 = .ok (.invokevirtual 122, 3) := by decide +kernel
theorem dX9_cut_81 : decode cX9_cut 81 = .ok (.ireturn, 1) := by decide +kernel
theorem dX9_cut_82 : decode cX9_cut 82 = .ok (.iconst 0, 1) := by decide +kernel
theorem dX9_cut_83 : decode cX9_cut 83 = .ok (.aload_n 0, 1) := by decide +kernel
theorem dX9_cut_84 : decode cX9_cut 84 = .ok (.getfield 13, 3) := by decide +kernel
theorem dX9_cut_87 : decode cX9_cut 87 = .ok (.iload_n 1, 1) := by decide +kernel
theorem dX9_cut_88 : decode cX9_cut 88 = .ok (.iaload, 1) := by decide +kernel
theorem dX9_cut_89 : decode cX9_cut 89 = .ok (.bipush 100, 2) := by decide +kernel
theorem dX9_cut_91 : decode cX9_cut 91 = .ok (.isub, 1) := by decide +kernel
theorem dX9_cut_92 : decode cX9_cut 92 = .ok (.invokestatic 179, 3) := by decide +kernel
theorem dX9_cut_95 : decode cX9_cut 95 = .ok (.istore_n 3, 1) := by decide +kernel
theorem dX9_cut_96 : decode cX9_cut 96 = .ok (.aload_n 0, 1) := by decide +kernel
theorem dX9_cut_97 : decode cX9_cut 97 = .ok (.getfield 13, 3) := by decide +kernel
theorem dX9_cut_100 : decode cX9_cut 100 = .ok (.iload_n 1, 1) := by decide +kernel
theorem dX9_cut_101 : decode cX9_cut 101 = .ok (.dup2, 1) := by decide +kernel
theorem dX9_cut_102 : decode cX9_cut 102 = .ok (.iaload, 1) := by decide +kernel
theorem dX9_cut_103 : decode cX9_cut 103 = .ok (.iload_n 3, 1) := by decide +kernel
theorem dX9_cut_104 : decode cX9_cut 104 = .ok (.isub, 1) := by decide +kernel
theorem dX9_cut_105 : decode cX9_cut 105 = .ok (.iastore, 1) := by decide +kernel
theorem dX9_cut_106 : decode cX9_cut 106 = .ok (.aload_n 0, 1) := by decide +kernel
theorem dX9_cut_107 : decode cX9_cut 107 = .ok (.getfield 22, 3) := by decide +kernel
theorem dX9_cut_110 : decode cX9_cut 110 = .ok (.iload_n 1, 1) := by decide +kernel
theorem dX9_cut_111 : decode cX9_cut 111 = .ok (.aload_n 0, 1) := by decide +kernel
theorem dX9_cut_112 : decode cX9_cut 112 = .ok (.getfield 141, 3) := by decide +kernel
theorem dX9_cut_115 : decode cX9_cut 115 = .ok (.bipush 20, 2) := by decide +kernel
theorem dX9_cut_117 : decode cX9_cut 117 = .ok (.iadd, 1) := by decide +kernel
theorem dX9_cut_118 : decode cX9_cut 118 = .ok (.iastore, 1) := by decide +kernel
theorem dX9_cut_119 : decode cX9_cut 119 = .ok (.lconst 0, 1) := by decide +kernel
theorem dX9_cut_120 : decode cX9_cut 120 = .ok (.lstore 4, 2) := by decide +kernel
theorem dX9_cut_122 : decode cX9_cut 122 = .ok (.iconst 0, 1) := by decide +kernel
theorem dX9_cut_123 : decode cX9_cut 123 = .ok (.istore 6, 2) := by decide +kernel
theorem dX9_cut_125 : decode cX9_cut 125 = .ok (.iload 6, 2) := by decide +kernel
theorem dX9_cut_127 : decode cX9_cut 127 = .ok (.aload_n 0, 1) := by decide +kernel
theorem dX9_cut_128 : decode cX9_cut 128 = .ok (.getfield 148, 3) := by decide +kernel
theorem dX9_cut_131 : decode cX9_cut 131 = .ok (.if_icmp .ge 22, 3) := by decide +kernel
theorem dX9_cut_134 : decode cX9_cut 134 = .ok (.lload 4, 2) := by decide +kernel
theorem dX9_cut_136 : decode cX9_cut 136 = .ok (.aload_n 0, 1) := by decide +kernel
theorem dX9_cut_137 : decode cX9_cut 137 = .ok (.iload 6, 2) := by decide +kernel
theorem dX9_cut_139 : decode cX9_cut 139 = .ok (.iload_n 1, 1) := by decide +kernel
theorem dX9_cut_140 : decode cX9_cut 140 = .ok (.invokevirtual 233, 3) := by decide +kernel
theorem dX9_cut_143 : decode cX9_cut 143 = .ok (.i2l, 1) := by decide +kernel
theorem dX9_cut_144 : decode cX9_cut 144 = .ok (.ladd, 1) := by decide +kernel
theorem dX9_cut_145 : decode cX9_cut 145 = .ok (.lstore 4, 2) := by decide +kernel
theorem dX9_cut_147 : decode cX9_cut 147 = .ok (.iinc 6 1, 3) := by decide +kernel
theorem dX9_cut_150 : decode cX9_cut 150 = .ok (.goto (-25), 3) := by decide +kernel
theorem dX9_cut_153 : decode cX9_cut 153 = .ok (.iload_n 3, 1) := by decide +kernel
theorem dX9_cut_154 : decode cX9_cut 154 = .ok (.istore 6, 2) := by decide +kernel
theorem dX9_cut_156 : decode cX9_cut 156 = .ok (.iconst 0, 1) := by decide +kernel
theorem dX9_cut_157 : decode cX9_cut 157 = .ok (.istore 7, 2) := by decide +kernel
theorem dX9_cut_159 : decode cX9_cut 159 = .ok (.iload 7, 2) := by decide +kernel
theorem dX9_cut_161 : decode cX9_cut 161 = .ok (.aload_n 0, 1) := by decide +kernel
theorem dX9_cut_162 : decode cX9_cut 162 = .ok (.getfield 131, 3) := by decide +kernel
theorem dX9_cut_165 : decode cX9_cut 165 = .ok (.if_icmp .ge 95, 3) := by decide +kernel
theorem dX9_cut_168 : decode cX9_cut 168 = .ok (.lload 4, 2) := by decide +kernel
theorem dX9_cut_170 : decode cX9_cut 170 = .ok (.lconst 0, 1) := by decide +kernel
theorem dX9_cut_171 : decode cX9_cut 171 = .ok (.lcmp, 1) := by decide +kernel
theorem dX9_cut_172 : decode cX9_cut 172 = .ok (.ifCond .le 88, 3) := by decide +kernel
theorem dX9_cut_175 : decode cX9_cut 175 = .ok (.lconst 0, 1) := by decide +kernel
theorem dX9_cut_176 : decode cX9_cut 176 = .ok (.lstore 8, 2) := by decide +kernel
theorem dX9_cut_178 : decode cX9_cut 178 = .ok (.iconst 0, 1) := by decide +kernel
theorem dX9_cut_179 : decode cX9_cut 179 = .ok (.istore 10, 2) := by decide +kernel
theorem dX9_cut_181 : decode cX9_cut 181 = .ok (.iload 10, 2) := by decide +kernel
theorem dX9_cut_183 : decode cX9_cut 183 = .ok (.aload_n 0, 1) := by decide +kernel
theorem dX9_cut_184 : decode cX9_cut 184 = .ok (.getfield 148, 3) := by decide +kernel
theorem dX9_cut_187 : decode cX9_cut 187 = .ok (.if_icmp .ge 37, 3) := by decide +kernel
theorem dX9_cut_190 : decode cX9_cut 190 = .ok (.lload 8, 2) := by decide +kernel
theorem dX9_cut_192 : decode cX9_cut 192 = .ok (.aload_n 0, 1) := by decide +kernel
theorem dX9_cut_193 : decode cX9_cut 193 = .ok (.iload 10, 2) := by decide +kernel
theorem dX9_cut_195 : decode cX9_cut 195 = .ok (.invokevirtual 155, 3) := by decide +kernel
theorem dX9_cut_198 : decode cX9_cut 198 = .ok (.iload 7, 2) := by decide +kernel
theorem dX9_cut_200 : decode cX9_cut 200 = .ok (.if_icmp .ne 14, 3) := by decide +kernel
theorem dX9_cut_203 : decode cX9_cut 203 = .ok (.aload_n 0, 1) := by decide +kernel
theorem dX9_cut_204 : decode cX9_cut 204 = .ok (.iload 10, 2) := by decide +kernel
theorem dX9_cut_206 : decode cX9_cut 206 = .ok (.iload_n 1, 1) := by decide +kernel
theorem dX9_cut_207 : decode cX9_cut 207 = .ok (.invokevirtual 233, 3) := by decide +kernel
theorem dX9_cut_210 : decode cX9_cut 210 = .ok (.i2l, 1) := by decide +kernel
theorem dX9_cut_211 : decode cX9_cut 211 = .ok (.goto 4, 3) := by decide +kernel
theorem dX9_cut_214 : decode cX9_cut 214 = .ok (.lconst 0, 1) := by decide +kernel
theorem dX9_cut_215 : decode cX9_cut 215 = .ok (.ladd, 1) := by decide +kernel
theorem dX9_cut_216 : decode cX9_cut 216 = .ok (.lstore 8, 2) := by decide +kernel
theorem dX9_cut_218 : decode cX9_cut 218 = .ok (.iinc 10 1, 3) := by decide +kernel
theorem dX9_cut_221 : decode cX9_cut 221 = .ok (.goto (-40), 3) := by decide +kernel
theorem dX9_cut_224 : decode cX9_cut 224 = .ok (.iload_n 3, 1) := by decide +kernel
theorem dX9_cut_225 : decode cX9_cut 225 = .ok (.i2l, 1) := by decide +kernel
theorem dX9_cut_226 : decode cX9_cut 226 = .ok (.lload 8, 2) := by decide +kernel
theorem dX9_cut_228 : decode cX9_cut 228 = .ok (.lmul, 1) := by decide +kernel
theorem dX9_cut_229 : decode cX9_cut 229 = .ok (.lload 4, 2) := by decide +kernel
theorem dX9_cut_231 : decode cX9_cut 231 = .ok (.ldiv, 1) := by decide +kernel
theorem dX9_cut_232 : decode cX9_cut 232 = .ok (.l2i, 1) := by decide +kernel
theorem dX9_cut_233 : decode cX9_cut 233 = .ok (.istore 10, 2) := by decide +kernel
theorem dX9_cut_235 : decode cX9_cut 235 = .ok (.aload_n 0, 1) := by decide +kernel
theorem dX9_cut_236 : decode cX9_cut 236 = .ok (.getfield 35, 3) := by decide +kernel
theorem dX9_cut_239 : decode cX9_cut 239 = .ok (.iload 7, 2) := by decide +kernel
theorem dX9_cut_241 : decode cX9_cut 241 = .ok (.dup2, 1) := by decide +kernel
theorem dX9_cut_242 : decode cX9_cut 242 = .ok (.iaload, 1) := by decide +kernel
theorem dX9_cut_243 : decode cX9_cut 243 = .ok (.iload 10, 2) := by decide +kernel
theorem dX9_cut_245 : decode cX9_cut 245 = .ok (.iadd, 1) := by decide +kernel
theorem dX9_cut_246 : decode cX9_cut 246 = .ok (.iastore, 1) := by decide +kernel
theorem dX9_cut_247 : decode cX9_cut 247 = .ok (.iload 6, 2) := by decide +kernel
theorem dX9_cut_249 : decode cX9_cut 249 = .ok (.iload 10, 2) := by decide +kernel
theorem dX9_cut_251 : decode cX9_cut 251 = .ok (.isub, 1) := by decide +kernel
theorem dX9_cut_252 : decode cX9_cut 252 = .ok (.istore 6, 2) := by decide +kernel
theorem dX9_cut_254 : decode cX9_cut 254 = .ok (.iinc 7 1, 3) := by decide +kernel
theorem dX9_cut_257 : decode cX9_cut 257 = .ok (.goto (-98), 3) := by decide +kernel
theorem dX9_cut_260 : decode cX9_cut 260 = .ok (.aload_n 0, 1) := by decide +kernel
theorem dX9_cut_261 : decode cX9_cut 261 = .ok (.dup, 1) := by decide +kernel
theorem dX9_cut_262 : decode cX9_cut 262 = .ok (.getfield 236, 3) := by decide +kernel
theorem dX9_cut_265 : decode cX9_cut 265 = .ok (.iload 6, 2) := by decide +kernel
theorem dX9_cut_267 : decode cX9_cut 267 = .ok (.iadd, 1) := by decide +kernel
theorem dX9_cut_268 : decode cX9_cut 268 = .ok (.putfield 236, 3) := by decide +kernel
theorem dX9_cut_271 : decode cX9_cut 271 = .ok (.iload_n 3, 1) := by decide +kernel
theorem dX9_cut_272 : decode cX9_cut 272 = .ok (.ireturn, 1) := by decide +kernel
theorem dX9_counts_0 : decode cX9_counts 0 = .ok (.aload_n 0, 1) := by decide +kernel
theorem dX9_counts_1 : decode cX9_counts 1 = .ok (.getfield 50, 3) := by decide +kernel
theorem dX9_counts_4 : decode cX9_counts 4 = .ok (.iload_n 1, 1) := by decide +kernel
theorem dX9_counts_5 : decode cX9_counts 5 = .ok (.iaload, 1) := by decide +kernel
theorem dX9_counts_6 : decode cX9_counts 6 = .ok (.iconst 2, 1) := by decide +kernel
theorem dX9_counts_7 : decode cX9_counts 7 = .ok (.if_icmp .eq 23, 3) := by decide +kernel
theorem dX9_counts_10 : decode cX9_counts 10 = .ok (.aload_n 0, 1) := by decide +kernel
theorem dX9_counts_11 : decode cX9_counts 11 = .ok (.getfield 50, 3) := by decide +kernel
theorem dX9_counts_14 : decode cX9_counts 14 = .ok (.iload_n 1, 1) := by decide +kernel
theorem dX9_counts_15 : decode cX9_counts 15 = .ok (.iaload, 1) := by decide +kernel
theorem dX9_counts_16 : decode cX9_counts 16 = .ok (.iconst 3, 1) := by decide +kernel
theorem dX9_counts_17 : decode cX9_counts 17 = .ok (.if_icmp .ne 17, 3) := by decide +kernel
theorem dX9_counts_20 : decode cX9_counts 20 = .ok (.aload_n 0, 1) := by decide +kernel
theorem dX9_counts_21 : decode cX9_counts 21 = .ok (.getfield 65, 3) := by decide +kernel
theorem dX9_counts_24 : decode cX9_counts 24 = .ok (.iload_n 1, 1) := by decide +kernel
theorem dX9_counts_25 : decode cX9_counts 25 = .ok (.iaload, 1) := by decide +kernel
theorem dX9_counts_26 : decode cX9_counts 26 = .ok (.iload_n 2, 1) := by decide +kernel
theorem dX9_counts_27 : decode cX9_counts 27 = .ok (.if_icmp .eq 7, 3) := by decide +kernel
theorem dX9_counts_30 : decode cX9_counts 30 = .ok (.iconst 0, 1) := by decide +kernel
theorem dX9_counts_31 : decode cX9_counts 31 = .ok (.goto 8, 3) := by decide +kernel
theorem dX9_counts_34 : decode cX9_counts 34 = .ok (.aload_n 0, 1) := by decide +kernel
theorem dX9_counts_35 : decode cX9_counts 35 = .ok (.iload_n 1, 1) := by decide +kernel
theorem dX9_counts_36 : decode cX9_counts 36 = .ok (.invokevirtual 158, 3) := by decide +kernel
theorem dX9_counts_39 : decode cX9_counts 39 = .ok (.ireturn, 1) := by decide +kernel
theorem dX9_pound_0 : decode cX9_pound 0 = .ok (.iload_n 1, 1) := by decide +kernel
theorem dX9_pound_1 : decode cX9_pound 1 = .ok (.aload_n 0, 1) := by decide +kernel
theorem dX9_pound_2 : decode cX9_pound 2 = .ok (.getfield 164, 3) := by decide +kernel
theorem dX9_pound_5 : decode cX9_pound 5 = .ok (.invokestatic 134, 3) := by decide +kernel
theorem dX9_pound_8 : decode cX9_pound 8 = .ok (.ifCond .ne 9, 3) := by decide +kernel
theorem dX9_pound_11 : decode cX9_pound 11 = .ok (.aload_n 0, 1) := by decide +kernel
theorem dX9_pound_12 : decode cX9_pound 12 = .ok (.iconst (-1), 1) := by decide +kernel
theorem dX9_pound_13 : decode cX9_pound 13 = .ok (.invokevirtual 122, 3) := by decide +kernel
theorem dX9_pound_16 : decode cX9_pound 16 = .ok (.ireturn, 1) := by decide +kernel
theorem dX9_pound_17 : decode cX9_pound 17 = .ok (.aload_n 0, 1) := by decide +kernel
theorem dX9_pound_18 : decode cX9_pound 18 = .ok (.iload_n 1, 1) := by decide +kernel
theorem dX9_pound_19 : decode cX9_pound 19 = .ok (.invokevirtual 167, 3) := by decide +kernel
theorem dX9_pound_22 : decode cX9_pound 22 = .ok (.ifCond .eq 16, 3) := by decide +kernel
theorem dX9_pound_25 : decode cX9_pound 25 = .ok (.aload_n 0, 1) := by decide +kernel
theorem dX9_pound_26 : decode cX9_pound 26 = .ok (.aload_n 0, 1) := by decide +kernel
theorem dX9_pound_27 : decode cX9_pound 27 = .ok (.getfield 80, 3) := by decide +kernel
theorem dX9_pound_30 : decode cX9_pound 30 = .ok (.iload_n 1, 1) := by decide +kernel
theorem dX9_pound_31 : decode cX9_pound 31 = .ok (.iaload, 1) := by decide +kernel
theorem dX9_pound_32 : decode cX9_pound 32 = .ok (.invokevirtual 185, 3) := by decide +kernel
theorem dX9_pound_35 : decode cX9_pound 35 = .ok (.ifCond .ne 10, 3) := by decide +kernel
theorem dX9_pound_38 : decode cX9_pound 38 = .ok (.aload_n 0, 1) := by decide +kernel
theorem dX9_pound_39 : decode cX9_pound 39 = .ok (.bipush (-3), 2) := by decide +kernel
theorem dX9_pound_41 : decode cX9_pound 41 = .ok (.invokevirtual 122, 3) := by decide +kernel
theorem dX9_pound_44 : decode cX9_pound 44 = .ok (.ireturn, 1) := by decide +kernel
theorem dX9_pound_45 : decode cX9_pound 45 = .ok (.aload_n 0, 1) := by decide +kernel
theorem dX9_pound_46 : decode cX9_pound 46 = .ok (.getfield 89, 3) := by decide +kernel
theorem dX9_pound_49 : decode cX9_pound 49 = .ok (.iload_n 1, 1) := by decide +kernel
theorem dX9_pound_50 : decode cX9_pound 50 = .ok (.iconst (-1), 1) := by decide +kernel
theorem dX9_pound_51 : decode cX9_pound 51 = .ok (.iastore, 1) := by decide +kernel
theorem dX9_pound_52 : decode cX9_pound 52 = .ok (.aload_n 0, 1) := by decide +kernel
theorem dX9_pound_53 : decode cX9_pound 53 = .ok (.getfield 98, 3) := by decide +kernel
theorem dX9_pound_56 : decode cX9_pound 56 = .ok (.iload_n 1, 1) := by decide +kernel
theorem dX9_pound_57 : decode cX9_pound 57 = .ok (.iconst 1, 1) := by decide +kernel
theorem dX9_pound_58 : decode cX9_pound 58 = .ok (.iastore, 1) := by decide +kernel
theorem dX9_pound_59 : decode cX9_pound 59 = .ok (.aload_n 0, 1) := by decide +kernel
theorem dX9_pound_60 : decode cX9_pound 60 = .ok (.getfield 101, 3) := by decide +kernel
