theorem dX9_ownerOf_146 : decode cX9_ownerOf 146 = .ok (.istore 4, 2) := by decide +kernel
theorem dX9_ownerOf_148 : decode cX9_ownerOf 148 = .ok (.iload 4, 2) := by decide +kernel
theorem dX9_ownerOf_150 : decode cX9_ownerOf 150 = .ok (.aload_n 0, 1) := by decide +kernel
theorem dX9_ownerOf_151 : decode cX9_ownerOf 151 = .ok (.getfield 148, 3) := by decide +kernel
theorem dX9_ownerOf_154 : decode cX9_ownerOf 154 = .ok (.if_icmp .ge 32, 3) := by decide +kernel
theorem dX9_ownerOf_157 : decode cX9_ownerOf 157 = .ok (.iload_n 3, 1) := by decide +kernel
theorem dX9_ownerOf_158 : decode cX9_ownerOf 158 = .ok (.aload_n 0, 1) := by decide +kernel
theorem dX9_ownerOf_159 : decode cX9_ownerOf 159 = .ok (.iload 4, 2) := by decide +kernel
theorem dX9_ownerOf_161 : decode cX9_ownerOf 161 = .ok (.invokevirtual 155, 3) := by decide +kernel
theorem dX9_ownerOf_164 : decode cX9_ownerOf 164 = .ok (.iload_n 1, 1) := by decide +kernel
theorem dX9_ownerOf_165 : decode cX9_ownerOf 165 = .ok (.if_icmp .ne 12, 3) := by decide +kernel
theorem dX9_ownerOf_168 : decode cX9_ownerOf 168 = .ok (.aload_n 0, 1) := by decide +kernel
theorem dX9_ownerOf_169 : decode cX9_ownerOf 169 = .ok (.iload 4, 2) := by decide +kernel
theorem dX9_ownerOf_171 : decode cX9_ownerOf 171 = .ok (.invokevirtual 158, 3) := by decide +kernel
theorem dX9_ownerOf_174 : decode cX9_ownerOf 174 = .ok (.goto 4, 3) := by decide +kernel
theorem dX9_ownerOf_177 : decode cX9_ownerOf 177 = .ok (.iconst 0, 1) := by decide +kernel
theorem dX9_ownerOf_178 : decode cX9_ownerOf 178 = .ok (.iadd, 1) := by decide +kernel
theorem dX9_ownerOf_179 : decode cX9_ownerOf 179 = .ok (.istore_n 3, 1) := by decide +kernel
theorem dX9_ownerOf_180 : decode cX9_ownerOf 180 = .ok (.iinc 4 1, 3) := by decide +kernel
theorem dX9_ownerOf_183 : decode cX9_ownerOf 183 = .ok (.goto (-35), 3) := by decide +kernel
theorem dX9_ownerOf_186 : decode cX9_ownerOf 186 = .ok (.iload_n 3, 1) := by decide +kernel
theorem dX9_ownerOf_187 : decode cX9_ownerOf 187 = .ok (.ireturn, 1) := by decide +kernel
theorem dX9_ownerOf_188 : decode cX9_ownerOf 188 = .ok (.aload_n 0, 1) := by decide +kernel
theorem dX9_ownerOf_189 : decode cX9_ownerOf 189 = .ok (.bipush (-2), 2) := by decide +kernel
theorem dX9_ownerOf_191 : decode cX9_ownerOf 191 = .ok (.invokevirtual 122, 3) := by decide +kernel
theorem dX9_ownerOf_194 : decode cX9_ownerOf 194 = .ok (.ireturn, 1) := by decide +kernel
theorem dX9_count_0 : decode cX9_count 0 = .ok (.iload_n 1, 1) := by decide +kernel
theorem dX9_count_1 : decode cX9_count 1 = .ok (.bipush 10, 2) := by decide +kernel
theorem dX9_count_3 : decode cX9_count 3 = .ok (.if_icmp .le 19, 3) := by decide +kernel
theorem dX9_count_6 : decode cX9_count 6 = .ok (.iload_n 1, 1) := by decide +kernel
theorem dX9_count_7 : decode cX9_count 7 = .ok (.bipush 17, 2) := by decide +kernel
theorem dX9_count_9 : decode cX9_count 9 = .ok (.if_icmp .ge 13, 3) := by decide +kernel
theorem dX9_count_12 : decode cX9_count 12 = .ok (.aload_n 0, 1) := by decide +kernel
theorem dX9_count_13 : decode cX9_count 13 = .ok (.getfield 7, 3) := by decide +kernel
theorem dX9_count_16 : decode cX9_count 16 = .ok (.iload_n 1, 1) := by decide +kernel
theorem dX9_count_17 : decode cX9_count 17 = .ok (.bipush 10, 2) := by decide +kernel
theorem dX9_count_19 : decode cX9_count 19 = .ok (.isub, 1) := by decide +kernel
theorem dX9_count_20 : decode cX9_count 20 = .ok (.iaload, 1) := by decide +kernel
theorem dX9_count_21 : decode cX9_count 21 = .ok (.ireturn, 1) := by decide +kernel
theorem dX9_count_22 : decode cX9_count 22 = .ok (.iconst 0, 1) := by decide +kernel
theorem dX9_count_23 : decode cX9_count 23 = .ok (.istore_n 2, 1) := by decide +kernel
theorem dX9_count_24 : decode cX9_count 24 = .ok (.iload_n 1, 1) := by decide +kernel
theorem dX9_count_25 : decode cX9_count 25 = .ok (.tableswitch 187 0 9 #[55, 60, 65, 70, 75, 109, 145, 172, 177, 182], 55) := by decide +kernel
theorem dX9_count_80 : decode cX9_count 80 = .ok (.aload_n 0, 1) := by decide +kernel
theorem dX9_count_81 : decode cX9_count 81 = .ok (.getfield 141, 3) := by decide +kernel
theorem dX9_count_84 : decode cX9_count 84 = .ok (.ireturn, 1) := by decide +kernel
theorem dX9_count_85 : decode cX9_count 85 = .ok (.aload_n 0, 1) := by decide +kernel
theorem dX9_count_86 : decode cX9_count 86 = .ok (.getfield 127, 3) := by decide +kernel
theorem dX9_count_89 : decode cX9_count 89 = .ok (.ireturn, 1) := by decide +kernel
theorem dX9_count_90 : decode cX9_count 90 = .ok (.aload_n 0, 1) := by decide +kernel
theorem dX9_count_91 : decode cX9_count 91 = .ok (.getfield 131, 3) := by decide +kernel
theorem dX9_count_94 : decode cX9_count 94 = .ok (.ireturn, 1) := by decide +kernel
theorem dX9_count_95 : decode cX9_count 95 = .ok (.aload_n 0, 1) := by decide +kernel
theorem dX9_count_96 : decode cX9_count 96 = .ok (.getfield 138, 3) := by decide +kernel
theorem dX9_count_99 : decode cX9_count 99 = .ok (.ireturn, 1) := by decide +kernel
theorem dX9_count_100 : decode cX9_count 100 = .ok (.iconst 0, 1) := by decide +kernel
theorem dX9_count_101 : decode cX9_count 101 = .ok (.istore_n 3, 1) := by decide +kernel
theorem dX9_count_102 : decode cX9_count 102 = .ok (.iload_n 3, 1) := by decide +kernel
theorem dX9_count_103 : decode cX9_count 103 = .ok (.aload_n 0, 1) := by decide +kernel
theorem dX9_count_104 : decode cX9_count 104 = .ok (.getfield 148, 3) := by decide +kernel
theorem dX9_count_107 : decode cX9_count 107 = .ok (.if_icmp .ge 25, 3) := by decide +kernel
theorem dX9_count_110 : decode cX9_count 110 = .ok (.iload_n 2, 1) := by decide +kernel
theorem dX9_count_111 : decode cX9_count 111 = .ok (.aload_n 0, 1) := by decide +kernel
theorem dX9_count_112 : decode cX9_count 112 = .ok (.iload_n 3, 1) := by decide +kernel
theorem dX9_count_113 : decode cX9_count 113 = .ok (.invokevirtual 144, 3) := by decide +kernel
theorem dX9_count_116 : decode cX9_count 116 = .ok (.ifCond .eq 7, 3) := by decide +kernel
theorem dX9_count_119 : decode cX9_count 119 = .ok (.iconst 1, 1) := by decide +kernel
theorem dX9_count_120 : decode cX9_count 120 = .ok (.goto 4, 3) := by decide +kernel
theorem dX9_count_123 : decode cX9_count 123 = .ok (.iconst 0, 1) := by decide +kernel
theorem dX9_count_124 : decode cX9_count 124 = .ok (.iadd, 1) := by decide +kernel
theorem dX9_count_125 : decode cX9_count 125 = .ok (.istore_n 2, 1) := by decide +kernel
theorem dX9_count_126 : decode cX9_count 126 = .ok (.iinc 3 1, 3) := by decide +kernel
theorem dX9_count_129 : decode cX9_count 129 = .ok (.goto (-27), 3) := by decide +kernel
theorem dX9_count_132 : decode cX9_count 132 = .ok (.iload_n 2, 1) := by decide +kernel
theorem dX9_count_133 : decode cX9_count 133 = .ok (.ireturn, 1) := by decide +kernel
theorem dX9_count_134 : decode cX9_count 134 = .ok (.iconst 0, 1) := by decide +kernel
theorem dX9_count_135 : decode cX9_count 135 = .ok (.istore_n 3, 1) := by decide +kernel
theorem dX9_count_136 : decode cX9_count 136 = .ok (.iload_n 3, 1) := by decide +kernel
theorem dX9_count_137 : decode cX9_count 137 = .ok (.aload_n 0, 1) := by decide +kernel
theorem dX9_count_138 : decode cX9_count 138 = .ok (.getfield 164, 3) := by decide +kernel
theorem dX9_count_141 : decode cX9_count 141 = .ok (.if_icmp .ge 27, 3) := by decide +kernel
theorem dX9_count_144 : decode cX9_count 144 = .ok (.iload_n 2, 1) := by decide +kernel
theorem dX9_count_145 : decode cX9_count 145 = .ok (.aload_n 0, 1) := by decide +kernel
theorem dX9_count_146 : decode cX9_count 146 = .ok (.getfield 98, 3) := by decide +kernel
theorem dX9_count_149 : decode cX9_count 149 = .ok (.iload_n 3, 1) := by decide +kernel
theorem dX9_count_150 : decode cX9_count 150 = .ok (.iaload, 1) := by decide +kernel
theorem dX9_count_151 : decode cX9_count 151 = .ok (.iconst 2, 1) := by decide +kernel
theorem dX9_count_152 : decode cX9_count 152 = .ok (.if_icmp .eq 7, 3) := by decide +kernel
theorem dX9_count_155 : decode cX9_count 155 = .ok (.iconst 1, 1) := by decide +kernel
theorem dX9_count_156 : decode cX9_count 156 = .ok (.goto 4, 3) := by decide +kernel
theorem dX9_count_159 : decode cX9_count 159 = .ok (.iconst 0, 1) := by decide +kernel
theorem dX9_count_160 : decode cX9_count 160 = .ok (.iadd, 1) := by decide +kernel
theorem dX9_count_161 : decode cX9_count 161 = .ok (.istore_n 2, 1) := by decide +kernel
theorem dX9_count_162 : decode cX9_count 162 = .ok (.iinc 3 1, 3) := by decide +kernel
theorem dX9_count_165 : decode cX9_count 165 = .ok (.goto (-29), 3) := by decide +kernel
theorem dX9_count_168 : decode cX9_count 168 = .ok (.iload_n 2, 1) := by decide +kernel
theorem dX9_count_169 : decode cX9_count 169 = .ok (.ireturn, 1) := by decide +kernel
theorem dX9_count_170 : decode cX9_count 170 = .ok (.iconst 0, 1) := by decide +kernel
theorem dX9_count_171 : decode cX9_count 171 = .ok (.istore_n 3, 1) := by decide +kernel
theorem dX9_count_172 : decode cX9_count 172 = .ok (.iload_n 3, 1) := by decide +kernel
theorem dX9_count_173 : decode cX9_count 173 = .ok (.aload_n 0, 1) := by decide +kernel
theorem dX9_count_174 : decode cX9_count 174 = .ok (.getfield 127, 3) := by decide +kernel
theorem dX9_count_177 : decode cX9_count 177 = .ok (.if_icmp .ge 18, 3) := by decide +kernel
theorem dX9_count_180 : decode cX9_count 180 = .ok (.iload_n 2, 1) := by decide +kernel
theorem dX9_count_181 : decode cX9_count 181 = .ok (.aload_n 0, 1) := by decide +kernel
theorem dX9_count_182 : decode cX9_count 182 = .ok (.getfield 13, 3) := by decide +kernel
theorem dX9_count_185 : decode cX9_count 185 = .ok (.iload_n 3, 1) := by decide +kernel
theorem dX9_count_186 : decode cX9_count 186 = .ok (.iaload, 1) := by decide +kernel
theorem dX9_count_187 : decode cX9_count 187 = .ok (.iadd, 1) := by decide +kernel
theorem dX9_count_188 : decode cX9_count 188 = .ok (.istore_n 2, 1) := by decide +kernel
theorem dX9_count_189 : decode cX9_count 189 = .ok (.iinc 3 1, 3) := by decide +kernel
theorem dX9_count_192 : decode cX9_count 192 = .ok (.goto (-20), 3) := by decide +kernel
theorem dX9_count_195 : decode cX9_count 195 = .ok (.iload_n 2, 1) := by decide +kernel
theorem dX9_count_196 : decode cX9_count 196 = .ok (.ireturn, 1) := by decide +kernel
theorem dX9_count_197 : decode cX9_count 197 = .ok (.aload_n 0, 1) := by decide +kernel
theorem dX9_count_198 : decode cX9_count 198 = .ok (.getfield 230, 3) := by decide +kernel
theorem dX9_count_201 : decode cX9_count 201 = .ok (.ireturn, 1) := by decide +kernel
theorem dX9_count_202 : decode cX9_count 202 = .ok (.aload_n 0, 1) := by decide +kernel
theorem dX9_count_203 : decode cX9_count 203 = .ok (.getfield 221, 3) := by decide +kernel
theorem dX9_count_206 : decode cX9_count 206 = .ok (.ireturn, 1) := by decide +kernel
theorem dX9_count_207 : decode cX9_count 207 = .ok (.aload_n 0, 1) := by decide +kernel
theorem dX9_count_208 : decode cX9_count 208 = .ok (.getfield 211, 3) := by decide +kernel
theorem dX9_count_211 : decode cX9_count 211 = .ok (.ireturn, 1) := by decide +kernel
theorem dX9_count_212 : decode cX9_count 212 = .ok (.bipush (-9), 2) := by decide +kernel
theorem dX9_count_214 : decode cX9_count 214 = .ok (.ireturn, 1) := by decide +kernel
