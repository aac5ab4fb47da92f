theorem dX7_year_184 : decode cX7_year 184 = .ok (.iconst 0, 1) := by decide +kernel
theorem dX7_year_185 : decode cX7_year 185 = .ok (.iadd, 1) := by decide +kernel
theorem dX7_year_186 : decode cX7_year 186 = .ok (.istore 4, 2) := by decide +kernel
theorem dX7_year_188 : decode cX7_year 188 = .ok (.iinc 6 1, 3) := by decide +kernel
theorem dX7_year_191 : decode cX7_year 191 = .ok (.goto (-36), 3) := by decide +kernel
theorem dX7_year_194 : decode cX7_year 194 = .ok (.aload_n 0, 1) := by decide +kernel
theorem dX7_year_195 : decode cX7_year 195 = .ok (.sipush 341, 3) := by decide +kernel
theorem dX7_year_198 : decode cX7_year 198 = .ok (.invokevirtual 144, 3) := by decide +kernel
theorem dX7_year_201 : decode cX7_year 201 = .ok (.iinc 5 1, 3) := by decide +kernel
theorem dX7_year_204 : decode cX7_year 204 = .ok (.goto (-158), 3) := by decide +kernel
theorem dX7_year_207 : decode cX7_year 207 = .ok (.iconst 0, 1) := by decide +kernel
theorem dX7_year_208 : decode cX7_year 208 = .ok (.istore 5, 2) := by decide +kernel
theorem dX7_year_210 : decode cX7_year 210 = .ok (.iconst 0, 1) := by decide +kernel
theorem dX7_year_211 : decode cX7_year 211 = .ok (.istore 6, 2) := by decide +kernel
theorem dX7_year_213 : decode cX7_year 213 = .ok (.iload 6, 2) := by decide +kernel
theorem dX7_year_215 : decode cX7_year 215 = .ok (.aload_n 0, 1) := by decide +kernel
theorem dX7_year_216 : decode cX7_year 216 = .ok (.getfield 13, 3) := by decide +kernel
theorem dX7_year_219 : decode cX7_year 219 = .ok (.iconst 0, 1) := by decide +kernel
theorem dX7_year_220 : decode cX7_year 220 = .ok (.iaload, 1) := by decide +kernel
theorem dX7_year_221 : decode cX7_year 221 = .ok (.if_icmp .ge 36, 3) := by decide +kernel
theorem dX7_year_224 : decode cX7_year 224 = .ok (.iload 5, 2) := by decide +kernel
theorem dX7_year_226 : decode cX7_year 226 = .ok (.aload_n 0, 1) := by decide +kernel
theorem dX7_year_227 : decode cX7_year 227 = .ok (.getfield 38, 3) := by decide +kernel
theorem dX7_year_230 : decode cX7_year 230 = .ok (.sipush 366, 3) := by decide +kernel
theorem dX7_year_233 : decode cX7_year 233 = .ok (.iload 6, 2) := by decide +kernel
theorem dX7_year_235 : decode cX7_year 235 = .ok (.iadd, 1) := by decide +kernel
theorem dX7_year_236 : decode cX7_year 236 = .ok (.iaload, 1) := by decide +kernel
theorem dX7_year_237 : decode cX7_year 237 = .ok (.aload_n 0, 1) := by decide +kernel
theorem dX7_year_238 : decode cX7_year 238 = .ok (.getfield 38, 3) := by decide +kernel
theorem dX7_year_241 : decode cX7_year 241 = .ok (.bipush 25, 2) := by decide +kernel
theorem dX7_year_243 : decode cX7_year 243 = .ok (.iload 6, 2) := by decide +kernel
theorem dX7_year_245 : decode cX7_year 245 = .ok (.iadd, 1) := by decide +kernel
theorem dX7_year_246 : decode cX7_year 246 = .ok (.iaload, 1) := by decide +kernel
theorem dX7_year_247 : decode cX7_year 247 = .ok (.isub, 1) := by decide +kernel
theorem dX7_year_248 : decode cX7_year 248 = .ok (.iadd, 1) := by decide +kernel
theorem dX7_year_249 : decode cX7_year 249 = .ok (.istore 5, 2) := by decide +kernel
theorem dX7_year_251 : decode cX7_year 251 = .ok (.iinc 6 1, 3) := by decide +kernel
theorem dX7_year_254 : decode cX7_year 254 = .ok (.goto (-41), 3) := by decide +kernel
theorem dX7_year_257 : decode cX7_year 257 = .ok (.iload_n 3, 1) := by decide +kernel
theorem dX7_year_258 : decode cX7_year 258 = .ok (.ifCond .ne 8, 3) := by decide +kernel
theorem dX7_year_261 : decode cX7_year 261 = .ok (.iload 4, 2) := by decide +kernel
theorem dX7_year_263 : decode cX7_year 263 = .ok (.goto 5, 3) := by decide +kernel
theorem dX7_year_266 : decode cX7_year 266 = .ok (.iload 5, 2) := by decide +kernel
theorem dX7_year_268 : decode cX7_year 268 = .ok (.ireturn, 1) := by decide +kernel
theorem dX7_keep_0 : decode cX7_keep 0 = .ok (.aload_n 0, 1) := by decide +kernel
theorem dX7_keep_1 : decode cX7_keep 1 = .ok (.getfield 95, 3) := by decide +kernel
theorem dX7_keep_4 : decode cX7_keep 4 = .ok (.iconst 2, 1) := by decide +kernel
theorem dX7_keep_5 : decode cX7_keep 5 = .ok (.if_icmp .ne 6, 3) := by decide +kernel
theorem dX7_keep_8 : decode cX7_keep 8 = .ok (.bipush (-3), 2) := by decide +kernel
theorem dX7_keep_10 : decode cX7_keep 10 = .ok (.ireturn, 1) := by decide +kernel
theorem dX7_keep_11 : decode cX7_keep 11 = .ok (.aload_n 0, 1) := by decide +kernel
theorem dX7_keep_12 : decode cX7_keep 12 = .ok (.iconst 0, 1) := by decide +kernel
theorem dX7_keep_13 : decode cX7_keep 13 = .ok (.sipush 279, 3) := by decide +kernel
theorem dX7_keep_16 : decode cX7_keep 16 = .ok (.bipush 31, 2) := by decide +kernel
theorem dX7_keep_18 : decode cX7_keep 18 = .ok (.aload_n 0, 1) := by decide +kernel
theorem dX7_keep_19 : decode cX7_keep 19 = .ok (.getfield 95, 3) := by decide +kernel
theorem dX7_keep_22 : decode cX7_keep 22 = .ok (.imul, 1) := by decide +kernel
theorem dX7_keep_23 : decode cX7_keep 23 = .ok (.iadd, 1) := by decide +kernel
theorem dX7_keep_24 : decode cX7_keep 24 = .ok (.invokevirtual 131, 3) := by decide +kernel
theorem dX7_keep_27 : decode cX7_keep 27 = .ok (.aload_n 0, 1) := by decide +kernel
theorem dX7_keep_28 : decode cX7_keep 28 = .ok (.dup, 1) := by decide +kernel
theorem dX7_keep_29 : decode cX7_keep 29 = .ok (.getfield 95, 3) := by decide +kernel
theorem dX7_keep_32 : decode cX7_keep 32 = .ok (.iconst 1, 1) := by decide +kernel
theorem dX7_keep_33 : decode cX7_keep 33 = .ok (.iadd, 1) := by decide +kernel
theorem dX7_keep_34 : decode cX7_keep 34 = .ok (.putfield 95, 3) := by decide +kernel
theorem dX7_keep_37 : decode cX7_keep 37 = .ok (.aload_n 0, 1) := by decide +kernel
theorem dX7_keep_38 : decode cX7_keep 38 = .ok (.getfield 95, 3) := by decide +kernel
theorem dX7_keep_41 : decode cX7_keep 41 = .ok (.ireturn, 1) := by decide +kernel
theorem dX7_back_0 : decode cX7_back 0 = .ok (.aload_n 0, 1) := by decide +kernel
theorem dX7_back_1 : decode cX7_back 1 = .ok (.getfield 95, 3) := by decide +kernel
theorem dX7_back_4 : decode cX7_back 4 = .ok (.ifCond .ne 6, 3) := by decide +kernel
theorem dX7_back_7 : decode cX7_back 7 = .ok (.bipush (-2), 2) := by decide +kernel
theorem dX7_back_9 : decode cX7_back 9 = .ok (.ireturn, 1) := by decide +kernel
theorem dX7_back_10 : decode cX7_back 10 = .ok (.aload_n 0, 1) := by decide +kernel
theorem dX7_back_11 : decode cX7_back 11 = .ok (.dup, 1) := by decide +kernel
theorem dX7_back_12 : decode cX7_back 12 = .ok (.getfield 95, 3) := by decide +kernel
theorem dX7_back_15 : decode cX7_back 15 = .ok (.iconst 1, 1) := by decide +kernel
theorem dX7_back_16 : decode cX7_back 16 = .ok (.isub, 1) := by decide +kernel
theorem dX7_back_17 : decode cX7_back 17 = .ok (.putfield 95, 3) := by decide +kernel
theorem dX7_back_20 : decode cX7_back 20 = .ok (.aload_n 0, 1) := by decide +kernel
theorem dX7_back_21 : decode cX7_back 21 = .ok (.sipush 279, 3) := by decide +kernel
theorem dX7_back_24 : decode cX7_back 24 = .ok (.bipush 31, 2) := by decide +kernel
theorem dX7_back_26 : decode cX7_back 26 = .ok (.aload_n 0, 1) := by decide +kernel
theorem dX7_back_27 : decode cX7_back 27 = .ok (.getfield 95, 3) := by decide +kernel
theorem dX7_back_30 : decode cX7_back 30 = .ok (.imul, 1) := by decide +kernel
theorem dX7_back_31 : decode cX7_back 31 = .ok (.iadd, 1) := by decide +kernel
theorem dX7_back_32 : decode cX7_back 32 = .ok (.iconst 0, 1) := by decide +kernel
theorem dX7_back_33 : decode cX7_back 33 = .ok (.invokevirtual 131, 3) := by decide +kernel
theorem dX7_back_36 : decode cX7_back 36 = .ok (.aload_n 0, 1) := by decide +kernel
theorem dX7_back_37 : decode cX7_back 37 = .ok (.iconst 0, 1) := by decide +kernel
theorem dX7_back_38 : decode cX7_back 38 = .ok (.putfield 92, 3) := by decide +kernel
theorem dX7_back_41 : decode cX7_back 41 = .ok (.aload_n 0, 1) := by decide +kernel
theorem dX7_back_42 : decode cX7_back 42 = .ok (.getfield 95, 3) := by decide +kernel
theorem dX7_back_45 : decode cX7_back 45 = .ok (.ireturn, 1) := by decide +kernel
theorem dX7_count_0 : decode cX7_count 0 = .ok (.iconst 0, 1) := by decide +kernel
theorem dX7_count_1 : decode cX7_count 1 = .ok (.istore_n 2, 1) := by decide +kernel
theorem dX7_count_2 : decode cX7_count 2 = .ok (.iconst 0, 1) := by decide +kernel
theorem dX7_count_3 : decode cX7_count 3 = .ok (.istore_n 3, 1) := by decide +kernel
theorem dX7_count_4 : decode cX7_count 4 = .ok (.iconst 0, 1) := by decide +kernel
theorem dX7_count_5 : decode cX7_count 5 = .ok (.istore 4, 2) := by decide +kernel
theorem dX7_count_7 : decode cX7_count 7 = .ok (.iload 4, 2) := by decide +kernel
theorem dX7_count_9 : decode cX7_count 9 = .ok (.aload_n 0, 1) := by decide +kernel
theorem dX7_count_10 : decode cX7_count 10 = .ok (.getfield 13, 3) := by decide +kernel
theorem dX7_count_13 : decode cX7_count 13 = .ok (.iconst 0, 1) := by decide +kernel
theorem dX7_count_14 : decode cX7_count 14 = .ok (.iaload, 1) := by decide +kernel
theorem dX7_count_15 : decode cX7_count 15 = .ok (.if_icmp .ge 59, 3) := by decide +kernel
theorem dX7_count_18 : decode cX7_count 18 = .ok (.iload_n 3, 1) := by decide +kernel
theorem dX7_count_19 : decode cX7_count 19 = .ok (.aload_n 0, 1) := by decide +kernel
theorem dX7_count_20 : decode cX7_count 20 = .ok (.iconst 0, 1) := by decide +kernel
theorem dX7_count_21 : decode cX7_count 21 = .ok (.iload 4, 2) := by decide +kernel
theorem dX7_count_23 : decode cX7_count 23 = .ok (.invokevirtual 108, 3) := by decide +kernel
theorem dX7_count_26 : decode cX7_count 26 = .ok (.ifCond .ne 7, 3) := by decide +kernel
theorem dX7_count_29 : decode cX7_count 29 = .ok (.iconst 1, 1) := by decide +kernel
theorem dX7_count_30 : decode cX7_count 30 = .ok (.goto 4, 3) := by decide +kernel
theorem dX7_count_33 : decode cX7_count 33 = .ok (.iconst 0, 1) := by decide +kernel
theorem dX7_count_34 : decode cX7_count 34 = .ok (.iadd, 1) := by decide +kernel
theorem dX7_count_35 : decode cX7_count 35 = .ok (.istore_n 3, 1) := by decide +kernel
theorem dX7_count_36 : decode cX7_count 36 = .ok (.iconst 0, 1) := by decide +kernel
theorem dX7_count_37 : decode cX7_count 37 = .ok (.istore 5, 2) := by decide +kernel
theorem dX7_count_39 : decode cX7_count 39 = .ok (.iload 5, 2) := by decide +kernel
theorem dX7_count_41 : decode cX7_count 41 = .ok (.iconst 3, 1) := by decide +kernel
theorem dX7_count_42 : decode cX7_count 42 = .ok (.if_icmp .ge 26, 3) := by decide +kernel
theorem dX7_count_45 : decode cX7_count 45 = .ok (.iload_n 2, 1) := by decide +kernel
theorem dX7_count_46 : decode cX7_count 46 = .ok (.aload_n 0, 1) := by decide +kernel
theorem dX7_count_47 : decode cX7_count 47 = .ok (.getfield 38, 3) := by decide +kernel
theorem dX7_count_50 : decode cX7_count 50 = .ok (.iconst 1, 1) := by decide +kernel
theorem dX7_count_51 : decode cX7_count 51 = .ok (.iconst 3, 1) := by decide +kernel
theorem dX7_count_52 : decode cX7_count 52 = .ok (.iload 4, 2) := by decide +kernel
theorem dX7_count_54 : decode cX7_count 54 = .ok (.imul, 1) := by decide +kernel
theorem dX7_count_55 : decode cX7_count 55 = .ok (.iadd, 1) := by decide +kernel
theorem dX7_count_56 : decode cX7_count 56 = .ok (.iload 5, 2) := by decide +kernel
theorem dX7_count_58 : decode cX7_count 58 = .ok (.iadd, 1) := by decide +kernel
theorem dX7_count_59 : decode cX7_count 59 = .ok (.iaload, 1) := by decide +kernel
theorem dX7_count_60 : decode cX7_count 60 = .ok (.iadd, 1) := by decide +kernel
theorem dX7_count_61 : decode cX7_count 61 = .ok (.istore_n 2, 1) := by decide +kernel
theorem dX7_count_62 : decode cX7_count 62 = .ok (.iinc 5 1, 3) := by decide +kernel
theorem dX7_count_65 : decode cX7_count 65 = .ok (.goto (-26), 3) := by decide +kernel
theorem dX7_count_68 : decode cX7_count 68 = .ok (.iinc 4 1, 3) := by decide +kernel
theorem dX7_count_71 : decode cX7_count 71 = .ok (.goto (-64), 3) := by decide +kernel
theorem dX7_count_74 : decode cX7_count 74 = .ok (.iload_n 1, 1) := by decide +kernel
theorem dX7_count_75 : decode cX7_count 75 = .ok (.tableswitch 108 0 9 #[53, 60, 67, 77, 84, 86, 88, 93, 98, 103], 53) := by decide +kernel
theorem dX7_count_128 : decode cX7_count 128 = .ok (.aload_n 0, 1) := by decide +kernel
theorem dX7_count_129 : decode cX7_count 129 = .ok (.getfield 13, 3) := by decide +kernel
theorem dX7_count_132 : decode cX7_count 132 = .ok (.iconst 0, 1) := by decide +kernel
theorem dX7_count_133 : decode cX7_count 133 = .ok (.iaload, 1) := by decide +kernel
theorem dX7_count_134 : decode cX7_count 134 = .ok (.ireturn, 1) := by decide +kernel
theorem dX7_count_135 : decode cX7_count 135 = .ok (.aload_n 0, 1) := by decide +kernel
theorem dX7_count_136 : decode cX7_count 136 = .ok (.getfield 23, 3) := by decide +kernel
theorem dX7_count_139 : decode cX7_count 139 = .ok (.iconst 0, 1) := by decide +kernel
theorem dX7_count_140 : decode cX7_count 140 = .ok (.iaload, 1) := by decide +kernel
theorem dX7_count_141 : decode cX7_count 141 = .ok (.ireturn, 1) := by decide +kernel
theorem dX7_count_142 : decode cX7_count 142 = .ok (.aload_n 0, 1) := by decide +kernel
theorem dX7_count_143 : decode cX7_count 143 = .ok (.getfield 38, 3) := by decide +kernel
theorem dX7_count_146 : decode cX7_count 146 = .ok (.iconst 0, 1) := by decide +kernel
theorem dX7_count_147 : decode cX7_count 147 = .ok (.iaload, 1) := by decide +kernel
theorem dX7_count_148 : decode cX7_count 148 = .ok (.bipush 7, 2) := by decide +kernel
theorem dX7_count_150 : decode cX7_count 150 = .ok (.irem, 1) := by decide +kernel
theorem dX7_count_151 : decode cX7_count 151 = .ok (.ireturn, 1) := by decide +kernel
theorem dX7_count_152 : decode cX7_count 152 = .ok (.aload_n 0, 1) := by decide +kernel
theorem dX7_count_153 : decode cX7_count 153 = .ok (.getfield 38, 3) := by decide +kernel
theorem dX7_count_156 : decode cX7_count 156 = .ok (.iconst 0, 1) := by decide +kernel
theorem dX7_count_157 : decode cX7_count 157 = .ok (.iaload, 1) := by decide +kernel
theorem dX7_count_158 : decode cX7_count 158 = .ok (.ireturn, 1) := by decide +kernel
theorem dX7_count_159 : decode cX7_count 159 = .ok (.iload_n 2, 1) := by decide +kernel
theorem dX7_count_160 : decode cX7_count 160 = .ok (.ireturn, 1) := by decide +kernel
theorem dX7_count_161 : decode cX7_count 161 = .ok (.iload_n 3, 1) := by decide +kernel
theorem dX7_count_162 : decode cX7_count 162 = .ok (.ireturn, 1) := by decide +kernel
theorem dX7_count_163 : decode cX7_count 163 = .ok (.aload_n 0, 1) := by decide +kernel
theorem dX7_count_164 : decode cX7_count 164 = .ok (.getfield 98, 3) := by decide +kernel
theorem dX7_count_167 : decode cX7_count 167 = .ok (.ireturn, 1) := by decide +kernel
theorem dX7_count_168 : decode cX7_count 168 = .ok (.aload_n 0, 1) := by decide +kernel
theorem dX7_count_169 : decode cX7_count 169 = .ok (.getfield 92, 3) := by decide +kernel
theorem dX7_count_172 : decode cX7_count 172 = .ok (.ireturn, 1) := by decide +kernel
theorem dX7_count_173 : decode cX7_count 173 = .ok (.aload_n 0, 1) := by decide +kernel
theorem dX7_count_174 : decode cX7_count 174 = .ok (.getfield 95, 3) := by decide +kernel
theorem dX7_count_177 : decode cX7_count 177 = .ok (.ireturn, 1) := by decide +kernel
theorem dX7_count_178 : decode cX7_count 178 = .ok (.aload_n 0, 1) := by decide +kernel
theorem dX7_count_179 : decode cX7_count 179 = .ok (.getfield 70, 3) := by decide +kernel
theorem dX7_count_182 : decode cX7_count 182 = .ok (.ireturn, 1) := by decide +kernel
theorem dX7_count_183 : decode cX7_count 183 = .ok (.iconst (-1), 1) := by decide +kernel
theorem dX7_count_184 : decode cX7_count 184 = .ok (.ireturn, 1) := by decide +kernel
