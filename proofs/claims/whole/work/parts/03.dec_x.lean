theorem dX0_init_0 : decode cX0_init 0 = .ok (.aload_n 0, 1) := by decide +kernel
theorem dX0_init_1 : decode cX0_init 1 = .ok (.invokespecial 3, 3) := by decide +kernel
theorem dX0_init_4 : decode cX0_init 4 = .ok (.aload_n 0, 1) := by decide +kernel
theorem dX0_init_5 : decode cX0_init 5 = .ok (.bipush 24, 2) := by decide +kernel
theorem dX0_init_7 : decode cX0_init 7 = .ok (.newarray .int, 2) := by decide +kernel
theorem dX0_init_9 : decode cX0_init 9 = .ok (.putfield 9, 3) := by decide +kernel
theorem dX0_init_12 : decode cX0_init 12 = .ok (.aload_n 0, 1) := by decide +kernel
theorem dX0_init_13 : decode cX0_init 13 = .ok (.bipush 24, 2) := by decide +kernel
theorem dX0_init_15 : decode cX0_init 15 = .ok (.newarray .int, 2) := by decide +kernel
theorem dX0_init_17 : decode cX0_init 17 = .ok (.putfield 15, 3) := by decide +kernel
theorem dX0_init_20 : decode cX0_init 20 = .ok (.return_, 1) := by decide +kernel
theorem dX0_keep_0 : decode cX0_keep 0 = .ok (.aload_n 0, 1) := by decide +kernel
theorem dX0_keep_1 : decode cX0_keep 1 = .ok (.getfield 18, 3) := by decide +kernel
theorem dX0_keep_4 : decode cX0_keep 4 = .ok (.bipush 24, 2) := by decide +kernel
theorem dX0_keep_6 : decode cX0_keep 6 = .ok (.if_icmp .ne 47, 3) := by decide +kernel
theorem dX0_keep_9 : decode cX0_keep 9 = .ok (.aload_n 0, 1) := by decide +kernel
theorem dX0_keep_10 : decode cX0_keep 10 = .ok (.dup, 1) := by decide +kernel
theorem dX0_keep_11 : decode cX0_keep 11 = .ok (.getfield 18, 3) := by decide +kernel
theorem dX0_keep_14 : decode cX0_keep 14 = .ok (.iconst 1, 1) := by decide +kernel
theorem dX0_keep_15 : decode cX0_keep 15 = .ok (.isub, 1) := by decide +kernel
theorem dX0_keep_16 : decode cX0_keep 16 = .ok (.putfield 18, 3) := by decide +kernel
theorem dX0_keep_19 : decode cX0_keep 19 = .ok (.aload_n 0, 1) := by decide +kernel
theorem dX0_keep_20 : decode cX0_keep 20 = .ok (.getfield 9, 3) := by decide +kernel
theorem dX0_keep_23 : decode cX0_keep 23 = .ok (.iconst 1, 1) := by decide +kernel
theorem dX0_keep_24 : decode cX0_keep 24 = .ok (.aload_n 0, 1) := by decide +kernel
theorem dX0_keep_25 : decode cX0_keep 25 = .ok (.getfield 9, 3) := by decide +kernel
theorem dX0_keep_28 : decode cX0_keep 28 = .ok (.iconst 0, 1) := by decide +kernel
theorem dX0_keep_29 : decode cX0_keep 29 = .ok (.aload_n 0, 1) := by decide +kernel
theorem dX0_keep_30 : decode cX0_keep 30 = .ok (.getfield 18, 3) := by decide +kernel
theorem dX0_keep_33 : decode cX0_keep 33 = .ok (.invokestatic 22, 3) := by decide +kernel
theorem dX0_keep_36 : decode cX0_keep 36 = .ok (.aload_n 0, 1) := by decide +kernel
theorem dX0_keep_37 : decode cX0_keep 37 = .ok (.getfield 15, 3) := by decide +kernel
theorem dX0_keep_40 : decode cX0_keep 40 = .ok (.iconst 1, 1) := by decide +kernel
theorem dX0_keep_41 : decode cX0_keep 41 = .ok (.aload_n 0, 1) := by decide +kernel
theorem dX0_keep_42 : decode cX0_keep 42 = .ok (.getfield 15, 3) := by decide +kernel
theorem dX0_keep_45 : decode cX0_keep 45 = .ok (.iconst 0, 1) := by decide +kernel
theorem dX0_keep_46 : decode cX0_keep 46 = .ok (.aload_n 0, 1) := by decide +kernel
theorem dX0_keep_47 : decode cX0_keep 47 = .ok (.getfield 18, 3) := by decide +kernel
theorem dX0_keep_50 : decode cX0_keep 50 = .ok (.invokestatic 22, 3) := by decide +kernel
theorem dX0_keep_53 : decode cX0_keep 53 = .ok (.aload_n 0, 1) := by decide +kernel
theorem dX0_keep_54 : decode cX0_keep 54 = .ok (.getfield 9, 3) := by decide +kernel
theorem dX0_keep_57 : decode cX0_keep 57 = .ok (.aload_n 0, 1) := by decide +kernel
theorem dX0_keep_58 : decode cX0_keep 58 = .ok (.getfield 18, 3) := by decide +kernel
theorem dX0_keep_61 : decode cX0_keep 61 = .ok (.iload_n 1, 1) := by decide +kernel
theorem dX0_keep_62 : decode cX0_keep 62 = .ok (.iastore, 1) := by decide +kernel
theorem dX0_keep_63 : decode cX0_keep 63 = .ok (.aload_n 0, 1) := by decide +kernel
theorem dX0_keep_64 : decode cX0_keep 64 = .ok (.getfield 15, 3) := by decide +kernel
theorem dX0_keep_67 : decode cX0_keep 67 = .ok (.aload_n 0, 1) := by decide +kernel
theorem dX0_keep_68 : decode cX0_keep 68 = .ok (.getfield 18, 3) := by decide +kernel
theorem dX0_keep_71 : decode cX0_keep 71 = .ok (.iload_n 2, 1) := by decide +kernel
theorem dX0_keep_72 : decode cX0_keep 72 = .ok (.iastore, 1) := by decide +kernel
theorem dX0_keep_73 : decode cX0_keep 73 = .ok (.aload_n 0, 1) := by decide +kernel
theorem dX0_keep_74 : decode cX0_keep 74 = .ok (.dup, 1) := by decide +kernel
theorem dX0_keep_75 : decode cX0_keep 75 = .ok (.getfield 18, 3) := by decide +kernel
theorem dX0_keep_78 : decode cX0_keep 78 = .ok (.iconst 1, 1) := by decide +kernel
theorem dX0_keep_79 : decode cX0_keep 79 = .ok (.iadd, 1) := by decide +kernel
theorem dX0_keep_80 : decode cX0_keep 80 = .ok (.putfield 18, 3) := by decide +kernel
theorem dX0_keep_83 : decode cX0_keep 83 = .ok (.return_, 1) := by decide +kernel
theorem dX1_init_0 : decode cX1_init 0 = .ok (.aload_n 0, 1) := by decide +kernel
theorem dX1_init_1 : decode cX1_init 1 = .ok (.invokespecial 3, 3) := by decide +kernel
theorem dX1_init_4 : decode cX1_init 4 = .ok (.aload_n 0, 1) := by decide +kernel
theorem dX1_init_5 : decode cX1_init 5 = .ok (.bipush 16, 2) := by decide +kernel
theorem dX1_init_7 : decode cX1_init 7 = .ok (.newarray .int, 2) := by decide +kernel
theorem dX1_init_9 : decode cX1_init 9 = .ok (.putfield 9, 3) := by decide +kernel
theorem dX1_init_12 : decode cX1_init 12 = .ok (.return_, 1) := by decide +kernel
theorem dX1_begin_0 : decode cX1_begin 0 = .ok (.aload_n 0, 1) := by decide +kernel
theorem dX1_begin_1 : decode cX1_begin 1 = .ok (.iconst 0, 1) := by decide +kernel
theorem dX1_begin_2 : decode cX1_begin 2 = .ok (.putfield 15, 3) := by decide +kernel
theorem dX1_begin_5 : decode cX1_begin 5 = .ok (.aload_n 0, 1) := by decide +kernel
theorem dX1_begin_6 : decode cX1_begin 6 = .ok (.aload_n 1, 1) := by decide +kernel
theorem dX1_begin_7 : decode cX1_begin 7 = .ok (.iload_n 2, 1) := by decide +kernel
theorem dX1_begin_8 : decode cX1_begin 8 = .ok (.aload_n 3, 1) := by decide +kernel
theorem dX1_begin_9 : decode cX1_begin 9 = .ok (.aload_n 1, 1) := by decide +kernel
theorem dX1_begin_10 : decode cX1_begin 10 = .ok (.getfield 19, 3) := by decide +kernel
theorem dX1_begin_13 : decode cX1_begin 13 = .ok (.iload_n 2, 1) := by decide +kernel
theorem dX1_begin_14 : decode cX1_begin 14 = .ok (.iaload, 1) := by decide +kernel
theorem dX1_begin_15 : decode cX1_begin 15 = .ok (.invokestatic 24, 3) := by decide +kernel
theorem dX1_begin_18 : decode cX1_begin 18 = .ok (.iconst 0, 1) := by decide +kernel
theorem dX1_begin_19 : decode cX1_begin 19 = .ok (.invokevirtual 28, 3) := by decide +kernel
theorem dX1_begin_22 : decode cX1_begin 22 = .ok (.ireturn, 1) := by decide +kernel
theorem dX1_answer_0 : decode cX1_answer 0 = .ok (.iload 4, 2) := by decide +kernel
theorem dX1_answer_2 : decode cX1_answer 2 = .ok (.bipush 16, 2) := by decide +kernel
theorem dX1_answer_4 : decode cX1_answer 4 = .ok (.if_icmp .le 5, 3) := by decide +kernel
theorem dX1_answer_7 : decode cX1_answer 7 = .ok (.iconst 0, 1) := by decide +kernel
theorem dX1_answer_8 : decode cX1_answer 8 = .ok (.ireturn, 1) := by decide +kernel
theorem dX1_answer_9 : decode cX1_answer 9 = .ok (.aload_n 0, 1) := by decide +kernel
theorem dX1_answer_10 : decode cX1_answer 10 = .ok (.getfield 15, 3) := by decide +kernel
theorem dX1_answer_13 : decode cX1_answer 13 = .ok (.bipush 16, 2) := by decide +kernel
theorem dX1_answer_15 : decode cX1_answer 15 = .ok (.if_icmp .ge 23, 3) := by decide +kernel
theorem dX1_answer_18 : decode cX1_answer 18 = .ok (.aload_n 0, 1) := by decide +kernel
theorem dX1_answer_19 : decode cX1_answer 19 = .ok (.getfield 9, 3) := by decide +kernel
theorem dX1_answer_22 : decode cX1_answer 22 = .ok (.aload_n 0, 1) := by decide +kernel
theorem dX1_answer_23 : decode cX1_answer 23 = .ok (.getfield 15, 3) := by decide +kernel
theorem dX1_answer_26 : decode cX1_answer 26 = .ok (.iload_n 3, 1) := by decide +kernel
theorem dX1_answer_27 : decode cX1_answer 27 = .ok (.iastore, 1) := by decide +kernel
theorem dX1_answer_28 : decode cX1_answer 28 = .ok (.aload_n 0, 1) := by decide +kernel
theorem dX1_answer_29 : decode cX1_answer 29 = .ok (.dup, 1) := by decide +kernel
theorem dX1_answer_30 : decode cX1_answer 30 = .ok (.getfield 15, 3) := by decide +kernel
theorem dX1_answer_33 : decode cX1_answer 33 = .ok (.iconst 1, 1) := by decide +kernel
theorem dX1_answer_34 : decode cX1_answer 34 = .ok (.iadd, 1) := by decide +kernel
theorem dX1_answer_35 : decode cX1_answer 35 = .ok (.putfield 15, 3) := by decide +kernel
theorem dX1_answer_38 : decode cX1_answer 38 = .ok (.iload 4, 2) := by decide +kernel
theorem dX1_answer_40 : decode cX1_answer 40 = .ok (.iconst 1, 1) := by decide +kernel
theorem dX1_answer_41 : decode cX1_answer 41 = .ok (.iadd, 1) := by decide +kernel
theorem dX1_answer_42 : decode cX1_answer 42 = .ok (.istore 5, 2) := by decide +kernel
theorem dX1_answer_44 : decode cX1_answer 44 = .ok (.aload_n 1, 1) := by decide +kernel
theorem dX1_answer_45 : decode cX1_answer 45 = .ok (.getfield 19, 3) := by decide +kernel
theorem dX1_answer_48 : decode cX1_answer 48 = .ok (.iload_n 2, 1) := by decide +kernel
theorem dX1_answer_49 : decode cX1_answer 49 = .ok (.iaload, 1) := by decide +kernel
theorem dX1_answer_50 : decode cX1_answer 50 = .ok (.istore 6, 2) := by decide +kernel
theorem dX1_answer_52 : decode cX1_answer 52 = .ok (.iload_n 3, 1) := by decide +kernel
theorem dX1_answer_53 : decode cX1_answer 53 = .ok (.tableswitch 226 10 24 #[75, 82, 110, 123, 137, 226, 226, 226, 226, 226, 150, 152, 170, 185, 213], 75) := by decide +kernel
theorem dX1_answer_128 : decode cX1_answer 128 = .ok (.aload_n 1, 1) := by decide +kernel
theorem dX1_answer_129 : decode cX1_answer 129 = .ok (.getfield 32, 3) := by decide +kernel
theorem dX1_answer_132 : decode cX1_answer 132 = .ok (.iload_n 2, 1) := by decide +kernel
theorem dX1_answer_133 : decode cX1_answer 133 = .ok (.iaload, 1) := by decide +kernel
theorem dX1_answer_134 : decode cX1_answer 134 = .ok (.ireturn, 1) := by decide +kernel
theorem dX1_answer_135 : decode cX1_answer 135 = .ok (.aload_n 0, 1) := by decide +kernel
theorem dX1_answer_136 : decode cX1_answer 136 = .ok (.aload_n 1, 1) := by decide +kernel
theorem dX1_answer_137 : decode cX1_answer 137 = .ok (.iload_n 2, 1) := by decide +kernel
theorem dX1_answer_138 : decode cX1_answer 138 = .ok (.bipush 10, 2) := by decide +kernel
theorem dX1_answer_140 : decode cX1_answer 140 = .ok (.iload 5, 2) := by decide +kernel
theorem dX1_answer_142 : decode cX1_answer 142 = .ok (.invokevirtual 28, 3) := by decide +kernel
theorem dX1_answer_145 : decode cX1_answer 145 = .ok (.aload_n 0, 1) := by decide +kernel
theorem dX1_answer_146 : decode cX1_answer 146 = .ok (.aload_n 1, 1) := by decide +kernel
theorem dX1_answer_147 : decode cX1_answer 147 = .ok (.iload_n 2, 1) := by decide +kernel
theorem dX1_answer_148 : decode cX1_answer 148 = .ok (.getstatic 35, 3) := by decide +kernel
theorem dX1_answer_151 : decode cX1_answer 151 = .ok (.iload 6, 2) := by decide +kernel
theorem dX1_answer_153 : decode cX1_answer 153 = .ok (.invokestatic 24, 3) := by decide +kernel
theorem dX1_answer_156 : decode cX1_answer 156 = .ok (.iload 5, 2) := by decide +kernel
theorem dX1_answer_158 : decode cX1_answer 158 = .ok (.invokevirtual 28, 3) := by decide +kernel
theorem dX1_answer_161 : decode cX1_answer 161 = .ok (.iadd, 1) := by decide +kernel
theorem dX1_answer_162 : decode cX1_answer 162 = .ok (.ireturn, 1) := by decide +kernel
theorem dX1_answer_163 : decode cX1_answer 163 = .ok (.iconst 0, 1) := by decide +kernel
theorem dX1_answer_164 : decode cX1_answer 164 = .ok (.aload_n 0, 1) := by decide +kernel
theorem dX1_answer_165 : decode cX1_answer 165 = .ok (.aload_n 1, 1) := by decide +kernel
theorem dX1_answer_166 : decode cX1_answer 166 = .ok (.iload_n 2, 1) := by decide +kernel
theorem dX1_answer_167 : decode cX1_answer 167 = .ok (.bipush 11, 2) := by decide +kernel
theorem dX1_answer_169 : decode cX1_answer 169 = .ok (.iload 5, 2) := by decide +kernel
theorem dX1_answer_171 : decode cX1_answer 171 = .ok (.invokevirtual 28, 3) := by decide +kernel
theorem dX1_answer_174 : decode cX1_answer 174 = .ok (.isub, 1) := by decide +kernel
theorem dX1_answer_175 : decode cX1_answer 175 = .ok (.ireturn, 1) := by decide +kernel
theorem dX1_answer_176 : decode cX1_answer 176 = .ok (.aload_n 0, 1) := by decide +kernel
theorem dX1_answer_177 : decode cX1_answer 177 = .ok (.aload_n 1, 1) := by decide +kernel
theorem dX1_answer_178 : decode cX1_answer 178 = .ok (.iload_n 2, 1) := by decide +kernel
theorem dX1_answer_179 : decode cX1_answer 179 = .ok (.bipush 10, 2) := by decide +kernel
theorem dX1_answer_181 : decode cX1_answer 181 = .ok (.iload 5, 2) := by decide +kernel
theorem dX1_answer_183 : decode cX1_answer 183 = .ok (.invokevirtual 28, 3) := by decide +kernel
theorem dX1_answer_186 : decode cX1_answer 186 = .ok (.bipush 100, 2) := by decide +kernel
theorem dX1_answer_188 : decode cX1_answer 188 = .ok (.isub, 1) := by decide +kernel
theorem dX1_answer_189 : decode cX1_answer 189 = .ok (.ireturn, 1) := by decide +kernel
theorem dX1_answer_190 : decode cX1_answer 190 = .ok (.iconst 2, 1) := by decide +kernel
theorem dX1_answer_191 : decode cX1_answer 191 = .ok (.aload_n 0, 1) := by decide +kernel
theorem dX1_answer_192 : decode cX1_answer 192 = .ok (.aload_n 1, 1) := by decide +kernel
theorem dX1_answer_193 : decode cX1_answer 193 = .ok (.iload_n 2, 1) := by decide +kernel
theorem dX1_answer_194 : decode cX1_answer 194 = .ok (.bipush 13, 2) := by decide +kernel
theorem dX1_answer_196 : decode cX1_answer 196 = .ok (.iload 5, 2) := by decide +kernel
theorem dX1_answer_198 : decode cX1_answer 198 = .ok (.invokevirtual 28, 3) := by decide +kernel
theorem dX1_answer_201 : decode cX1_answer 201 = .ok (.imul, 1) := by decide +kernel
theorem dX1_answer_202 : decode cX1_answer 202 = .ok (.ireturn, 1) := by decide +kernel
theorem dX1_answer_203 : decode cX1_answer 203 = .ok (.iload_n 2, 1) := by decide +kernel
theorem dX1_answer_204 : decode cX1_answer 204 = .ok (.ireturn, 1) := by decide +kernel
theorem dX1_answer_205 : decode cX1_answer 205 = .ok (.aload_n 0, 1) := by decide +kernel
theorem dX1_answer_206 : decode cX1_answer 206 = .ok (.aload_n 1, 1) := by decide +kernel
theorem dX1_answer_207 : decode cX1_answer 207 = .ok (.iload_n 2, 1) := by decide +kernel
theorem dX1_answer_208 : decode cX1_answer 208 = .ok (.bipush 20, 2) := by decide +kernel
theorem dX1_answer_210 : decode cX1_answer 210 = .ok (.iload 5, 2) := by decide +kernel
theorem dX1_answer_212 : decode cX1_answer 212 = .ok (.invokevirtual 28, 3) := by decide +kernel
theorem dX1_answer_215 : decode cX1_answer 215 = .ok (.aload_n 1, 1) := by decide +kernel
theorem dX1_answer_216 : decode cX1_answer 216 = .ok (.getfield 38, 3) := by decide +kernel
theorem dX1_answer_219 : decode cX1_answer 219 = .ok (.iload_n 2, 1) := by decide +kernel
theorem dX1_answer_220 : decode cX1_answer 220 = .ok (.iaload, 1) := by decide +kernel
theorem dX1_answer_221 : decode cX1_answer 221 = .ok (.iadd, 1) := by decide +kernel
theorem dX1_answer_222 : decode cX1_answer 222 = .ok (.ireturn, 1) := by decide +kernel
theorem dX1_answer_223 : decode cX1_answer 223 = .ok (.aload_n 0, 1) := by decide +kernel
theorem dX1_answer_224 : decode cX1_answer 224 = .ok (.aload_n 1, 1) := by decide +kernel
theorem dX1_answer_225 : decode cX1_answer 225 = .ok (.iload_n 2, 1) := by decide +kernel
theorem dX1_answer_226 : decode cX1_answer 226 = .ok (.bipush 21, 2) := by decide +kernel
theorem dX1_answer_228 : decode cX1_answer 228 = .ok (.iload 5, 2) := by decide +kernel
theorem dX1_answer_230 : decode cX1_answer 230 = .ok (.invokevirtual 28, 3) := by decide +kernel
theorem dX1_answer_233 : decode cX1_answer 233 = .ok (.sipush 1000, 3) := by decide +kernel
theorem dX1_answer_236 : decode cX1_answer 236 = .ok (.isub, 1) := by decide +kernel
theorem dX1_answer_237 : decode cX1_answer 237 = .ok (.ireturn, 1) := by decide +kernel
theorem dX1_answer_238 : decode cX1_answer 238 = .ok (.aload_n 0, 1) := by decide +kernel
theorem dX1_answer_239 : decode cX1_answer 239 = .ok (.aload_n 1, 1) := by decide +kernel
theorem dX1_answer_240 : decode cX1_answer 240 = .ok (.iload_n 2, 1) := by decide +kernel
theorem dX1_answer_241 : decode cX1_answer 241 = .ok (.bipush 20, 2) := by decide +kernel
theorem dX1_answer_243 : decode cX1_answer 243 = .ok (.iload 5, 2) := by decide +kernel
theorem dX1_answer_245 : decode cX1_answer 245 = .ok (.invokevirtual 28, 3) := by decide +kernel
theorem dX1_answer_248 : decode cX1_answer 248 = .ok (.aload_n 0, 1) := by decide +kernel
theorem dX1_answer_249 : decode cX1_answer 249 = .ok (.aload_n 1, 1) := by decide +kernel
theorem dX1_answer_250 : decode cX1_answer 250 = .ok (.iload_n 2, 1) := by decide +kernel
theorem dX1_answer_251 : decode cX1_answer 251 = .ok (.getstatic 41, 3) := by decide +kernel
theorem dX1_answer_254 : decode cX1_answer 254 = .ok (.iload 6, 2) := by decide +kernel
theorem dX1_answer_256 : decode cX1_answer 256 = .ok (.invokestatic 24, 3) := by decide +kernel
theorem dX1_answer_259 : decode cX1_answer 259 = .ok (.iload 5, 2) := by decide +kernel
theorem dX1_answer_261 : decode cX1_answer 261 = .ok (.invokevirtual 28, 3) := by decide +kernel
theorem dX1_answer_264 : decode cX1_answer 264 = .ok (.isub, 1) := by decide +kernel
theorem dX1_answer_265 : decode cX1_answer 265 = .ok (.ireturn, 1) := by decide +kernel
theorem dX1_answer_266 : decode cX1_answer 266 = .ok (.iconst 2, 1) := by decide +kernel
theorem dX1_answer_267 : decode cX1_answer 267 = .ok (.aload_n 0, 1) := by decide +kernel
theorem dX1_answer_268 : decode cX1_answer 268 = .ok (.aload_n 1, 1) := by decide +kernel
theorem dX1_answer_269 : decode cX1_answer 269 = .ok (.iload_n 2, 1) := by decide +kernel
theorem dX1_answer_270 : decode cX1_answer 270 = .ok (.bipush 21, 2) := by decide +kernel
theorem dX1_answer_272 : decode cX1_answer 272 = .ok (.iload 5, 2) := by decide +kernel
theorem dX1_answer_274 : decode cX1_answer 274 = .ok (.invokevirtual 28, 3) := by decide +kernel
theorem dX1_answer_277 : decode cX1_answer 277 = .ok (.imul, 1) := by decide +kernel
theorem dX1_answer_278 : decode cX1_answer 278 = .ok (.ireturn, 1) := by decide +kernel
theorem dX1_answer_279 : decode cX1_answer 279 = .ok (.iconst 0, 1) := by decide +kernel
theorem dX1_answer_280 : decode cX1_answer 280 = .ok (.ireturn, 1) := by decide +kernel
theorem dX2_init_0 : decode cX2_init 0 = .ok (.aload_n 0, 1) := by decide +kernel
theorem dX2_init_1 : decode cX2_init 1 = .ok (.invokespecial 3, 3) := by decide +kernel
theorem dX2_init_4 : decode cX2_init 4 = .ok (.aload_n 0, 1) := by decide +kernel
theorem dX2_init_5 : decode cX2_init 5 = .ok (.new 9, 3) := by decide +kernel
theorem dX2_init_8 : decode cX2_init 8 = .ok (.dup, 1) := by decide +kernel
theorem dX2_init_9 : decode cX2_init 9 = .ok (.invokespecial 11, 3) := by decide +kernel
theorem dX2_init_12 : decode cX2_init 12 = .ok (.putfield 12, 3) := by decide +kernel
theorem dX2_init_15 : decode cX2_init 15 = .ok (.return_, 1) := by decide +kernel
theorem dX2_dayOf_0 : decode cX2_dayOf 0 = .ok (.aload_n 0, 1) := by decide +kernel
theorem dX2_dayOf_1 : decode cX2_dayOf 1 = .ok (.getfield 12, 3) := by decide +kernel
theorem dX2_dayOf_4 : decode cX2_dayOf 4 = .ok (.aload_n 1, 1) := by decide +kernel
theorem dX2_dayOf_5 : decode cX2_dayOf 5 = .ok (.invokevirtual 18, 3) := by decide +kernel
theorem dX2_dayOf_8 : decode cX2_dayOf 8 = .ok (.aload_n 0, 1) := by decide +kernel
theorem dX2_dayOf_9 : decode cX2_dayOf 9 = .ok (.getfield 12, 3) := by decide +kernel
theorem dX2_dayOf_12 : decode cX2_dayOf 12 = .ok (.invokevirtual 22, 3) := by decide +kernel
theorem dX2_dayOf_15 : decode cX2_dayOf 15 = .ok (.aload_n 0, 1) := by decide +kernel
theorem dX2_dayOf_16 : decode cX2_dayOf 16 = .ok (.getfield 12, 3) := by decide +kernel
theorem dX2_dayOf_19 : decode cX2_dayOf 19 = .ok (.areturn, 1) := by decide +kernel
theorem dX2_dayWithBest_0 : decode cX2_dayWithBest 0 = .ok (.aload_n 0, 1) := by decide +kernel
theorem dX2_dayWithBest_1 : decode cX2_dayWithBest 1 = .ok (.getfield 12, 3) := by decide +kernel
theorem dX2_dayWithBest_4 : decode cX2_dayWithBest 4 = .ok (.aload_n 1, 1) := by decide +kernel
theorem dX2_dayWithBest_5 : decode cX2_dayWithBest 5 = .ok (.invokevirtual 18, 3) := by decide +kernel
theorem dX2_dayWithBest_8 : decode cX2_dayWithBest 8 = .ok (.aload_n 0, 1) := by decide +kernel
theorem dX2_dayWithBest_9 : decode cX2_dayWithBest 9 = .ok (.iload_n 2, 1) := by decide +kernel
theorem dX2_dayWithBest_10 : decode cX2_dayWithBest 10 = .ok (.invokevirtual 25, 3) := by decide +kernel
theorem dX2_dayWithBest_13 : decode cX2_dayWithBest 13 = .ok (.pop, 1) := by decide +kernel
theorem dX2_dayWithBest_14 : decode cX2_dayWithBest 14 = .ok (.aload_n 0, 1) := by decide +kernel
theorem dX2_dayWithBest_15 : decode cX2_dayWithBest 15 = .ok (.getfield 12, 3) := by decide +kernel
theorem dX2_dayWithBest_18 : decode cX2_dayWithBest 18 = .ok (.invokevirtual 22, 3) := by decide +kernel
theorem dX2_dayWithBest_21 : decode cX2_dayWithBest 21 = .ok (.aload_n 0, 1) := by decide +kernel
theorem dX2_dayWithBest_22 : decode cX2_dayWithBest 22 = .ok (.getfield 12, 3) := by decide +kernel
theorem dX2_dayWithBest_25 : decode cX2_dayWithBest 25 = .ok (.areturn, 1) := by decide +kernel
theorem dX2_takeBest_0 : decode cX2_takeBest 0 = .ok (.aload_n 0, 1) := by decide +kernel
theorem dX2_takeBest_1 : decode cX2_takeBest 1 = .ok (.getfield 12, 3) := by decide +kernel
theorem dX2_takeBest_4 : decode cX2_takeBest 4 = .ok (.getfield 29, 3) := by decide +kernel
theorem dX2_takeBest_7 : decode cX2_takeBest 7 = .ok (.iload_n 1, 1) := by decide +kernel
theorem dX2_takeBest_8 : decode cX2_takeBest 8 = .ok (.iaload, 1) := by decide +kernel
theorem dX2_takeBest_9 : decode cX2_takeBest 9 = .ok (.istore_n 2, 1) := by decide +kernel
theorem dX2_takeBest_10 : decode cX2_takeBest 10 = .ok (.iconst 0, 1) := by decide +kernel
theorem dX2_takeBest_11 : decode cX2_takeBest 11 = .ok (.istore_n 3, 1) := by decide +kernel
theorem dX2_takeBest_12 : decode cX2_takeBest 12 = .ok (.ldc 33, 2) := by decide +kernel
theorem dX2_takeBest_14 : decode cX2_takeBest 14 = .ok (.istore 4, 2) := by decide +kernel
theorem dX2_takeBest_16 : decode cX2_takeBest 16 = .ok (.iconst 0, 1) := by decide +kernel
theorem dX2_takeBest_17 : decode cX2_takeBest 17 = .ok (.istore 5, 2) := by decide +kernel
theorem dX2_takeBest_19 : decode cX2_takeBest 19 = .ok (.iload 5, 2) := by decide +kernel
theorem dX2_takeBest_21 : decode cX2_takeBest 21 = .ok (.bipush 11, 2) := by decide +kernel
theorem dX2_takeBest_23 : decode cX2_takeBest 23 = .ok (.if_icmp .gt 51, 3) := by decide +kernel
theorem dX2_takeBest_26 : decode cX2_takeBest 26 = .ok (.aload_n 0, 1) := by decide +kernel
theorem dX2_takeBest_27 : decode cX2_takeBest 27 = .ok (.getfield 12, 3) := by decide +kernel
theorem dX2_takeBest_30 : decode cX2_takeBest 30 = .ok (.getfield 29, 3) := by decide +kernel
theorem dX2_takeBest_33 : decode cX2_takeBest 33 = .ok (.iload_n 1, 1) := by decide +kernel
theorem dX2_takeBest_34 : decode cX2_takeBest 34 = .ok (.iload 5, 2) := by decide +kernel
theorem dX2_takeBest_36 : decode cX2_takeBest 36 = .ok (.iastore, 1) := by decide +kernel
theorem dX2_takeBest_37 : decode cX2_takeBest 37 = .ok (.aload_n 0, 1) := by decide +kernel
theorem dX2_takeBest_38 : decode cX2_takeBest 38 = .ok (.getfield 12, 3) := by decide +kernel
theorem dX2_takeBest_41 : decode cX2_takeBest 41 = .ok (.invokevirtual 22, 3) := by decide +kernel
theorem dX2_takeBest_44 : decode cX2_takeBest 44 = .ok (.aload_n 0, 1) := by decide +kernel
theorem dX2_takeBest_45 : decode cX2_takeBest 45 = .ok (.getfield 12, 3) := by decide +kernel
theorem dX2_takeBest_48 : decode cX2_takeBest 48 = .ok (.iload_n 1, 1) := by decide +kernel
theorem dX2_takeBest_49 : decode cX2_takeBest 49 = .ok (.invokevirtual 34, 3) := by decide +kernel
theorem dX2_takeBest_52 : decode cX2_takeBest 52 = .ok (.istore 6, 2) := by decide +kernel
theorem dX2_takeBest_54 : decode cX2_takeBest 54 = .ok (.iload 6, 2) := by decide +kernel
theorem dX2_takeBest_56 : decode cX2_takeBest 56 = .ok (.iload 4, 2) := by decide +kernel
theorem dX2_takeBest_58 : decode cX2_takeBest 58 = .ok (.if_icmp .ge 10, 3) := by decide +kernel
theorem dX2_takeBest_61 : decode cX2_takeBest 61 = .ok (.iload 6, 2) := by decide +kernel
theorem dX2_takeBest_63 : decode cX2_takeBest 63 = .ok (.istore 4, 2) := by decide +kernel
theorem dX2_takeBest_65 : decode cX2_takeBest 65 = .ok (.iload 5, 2) := by decide +kernel
theorem dX2_takeBest_67 : decode cX2_takeBest 67 = .ok (.istore_n 3, 1) := by decide +kernel
theorem dX2_takeBest_68 : decode cX2_takeBest 68 = .ok (.iinc 5 1, 3) := by decide +kernel
theorem dX2_takeBest_71 : decode cX2_takeBest 71 = .ok (.goto (-52), 3) := by decide +kernel
theorem dX2_takeBest_74 : decode cX2_takeBest 74 = .ok (.aload_n 0, 1) := by decide +kernel
theorem dX2_takeBest_75 : decode cX2_takeBest 75 = .ok (.getfield 12, 3) := by decide +kernel
theorem dX2_takeBest_78 : decode cX2_takeBest 78 = .ok (.getfield 29, 3) := by decide +kernel
theorem dX2_takeBest_81 : decode cX2_takeBest 81 = .ok (.iload_n 1, 1) := by decide +kernel
theorem dX2_takeBest_82 : decode cX2_takeBest 82 = .ok (.iload_n 3, 1) := by decide +kernel
theorem dX2_takeBest_83 : decode cX2_takeBest 83 = .ok (.iastore, 1) := by decide +kernel
theorem dX2_takeBest_84 : decode cX2_takeBest 84 = .ok (.iload_n 3, 1) := by decide +kernel
theorem dX2_takeBest_85 : decode cX2_takeBest 85 = .ok (.iload_n 2, 1) := by decide +kernel
theorem dX2_takeBest_86 : decode cX2_takeBest 86 = .ok (.if_icmp .eq 7, 3) := by decide +kernel
theorem dX2_takeBest_89 : decode cX2_takeBest 89 = .ok (.iconst 1, 1) := by decide +kernel
theorem dX2_takeBest_90 : decode cX2_takeBest 90 = .ok (.goto 4, 3) := by decide +kernel
theorem dX2_takeBest_93 : decode cX2_takeBest 93 = .ok (.iconst 0, 1) := by decide +kernel
theorem dX2_takeBest_94 : decode cX2_takeBest 94 = .ok (.ireturn, 1) := by decide +kernel
theorem dX2_roundsToRest_0 : decode cX2_roundsToRest 0 = .ok (.aload_n 0, 1) := by decide +kernel
theorem dX2_roundsToRest_1 : decode cX2_roundsToRest 1 = .ok (.getfield 12, 3) := by decide +kernel
theorem dX2_roundsToRest_4 : decode cX2_roundsToRest 4 = .ok (.aload_n 1, 1) := by decide +kernel
theorem dX2_roundsToRest_5 : decode cX2_roundsToRest 5 = .ok (.invokevirtual 18, 3) := by decide +kernel
theorem dX2_roundsToRest_8 : decode cX2_roundsToRest 8 = .ok (.iconst 1, 1) := by decide +kernel
theorem dX2_roundsToRest_9 : decode cX2_roundsToRest 9 = .ok (.istore_n 2, 1) := by decide +kernel
theorem dX2_roundsToRest_10 : decode cX2_roundsToRest 10 = .ok (.iload_n 2, 1) := by decide +kernel
theorem dX2_roundsToRest_11 : decode cX2_roundsToRest 11 = .ok (.bipush 20, 2) := by decide +kernel
theorem dX2_roundsToRest_13 : decode cX2_roundsToRest 13 = .ok (.if_icmp .gt 49, 3) := by decide +kernel
theorem dX2_roundsToRest_16 : decode cX2_roundsToRest 16 = .ok (.iconst 0, 1) := by decide +kernel
theorem dX2_roundsToRest_17 : decode cX2_roundsToRest 17 = .ok (.istore_n 3, 1) := by decide +kernel
theorem dX2_roundsToRest_18 : decode cX2_roundsToRest 18 = .ok (.iconst 0, 1) := by decide +kernel
theorem dX2_roundsToRest_19 : decode cX2_roundsToRest 19 = .ok (.istore 4, 2) := by decide +kernel
theorem dX2_roundsToRest_21 : decode cX2_roundsToRest 21 = .ok (.iload 4, 2) := by decide +kernel
theorem dX2_roundsToRest_23 : decode cX2_roundsToRest 23 = .ok (.aload_n 0, 1) := by decide +kernel
theorem dX2_roundsToRest_24 : decode cX2_roundsToRest 24 = .ok (.getfield 12, 3) := by decide +kernel
theorem dX2_roundsToRest_27 : decode cX2_roundsToRest 27 = .ok (.getfield 38, 3) := by decide +kernel
theorem dX2_roundsToRest_30 : decode cX2_roundsToRest 30 = .ok (.if_icmp .ge 20, 3) := by decide +kernel
theorem dX2_roundsToRest_33 : decode cX2_roundsToRest 33 = .ok (.aload_n 0, 1) := by decide +kernel
theorem dX2_roundsToRest_34 : decode cX2_roundsToRest 34 = .ok (.iload 4, 2) := by decide +kernel
theorem dX2_roundsToRest_36 : decode cX2_roundsToRest 36 = .ok (.invokevirtual 25, 3) := by decide +kernel
theorem dX2_roundsToRest_39 : decode cX2_roundsToRest 39 = .ok (.ifCond .eq 5, 3) := by decide +kernel
theorem dX2_roundsToRest_42 : decode cX2_roundsToRest 42 = .ok (.iconst 1, 1) := by decide +kernel
theorem dX2_roundsToRest_43 : decode cX2_roundsToRest 43 = .ok (.istore_n 3, 1) := by decide +kernel
theorem dX2_roundsToRest_44 : decode cX2_roundsToRest 44 = .ok (.iinc 4 1, 3) := by decide +kernel
theorem dX2_roundsToRest_47 : decode cX2_roundsToRest 47 = .ok (.goto (-26), 3) := by decide +kernel
theorem dX2_roundsToRest_50 : decode cX2_roundsToRest 50 = .ok (.iload_n 3, 1) := by decide +kernel
theorem dX2_roundsToRest_51 : decode cX2_roundsToRest 51 = .ok (.ifCond .ne 5, 3) := by decide +kernel
theorem dX2_roundsToRest_54 : decode cX2_roundsToRest 54 = .ok (.iload_n 2, 1) := by decide +kernel
theorem dX2_roundsToRest_55 : decode cX2_roundsToRest 55 = .ok (.ireturn, 1) := by decide +kernel
theorem dX2_roundsToRest_56 : decode cX2_roundsToRest 56 = .ok (.iinc 2 1, 3) := by decide +kernel
theorem dX2_roundsToRest_59 : decode cX2_roundsToRest 59 = .ok (.goto (-49), 3) := by decide +kernel
theorem dX2_roundsToRest_62 : decode cX2_roundsToRest 62 = .ok (.ldc 42, 2) := by decide +kernel
theorem dX2_roundsToRest_64 : decode cX2_roundsToRest 64 = .ok (.ireturn, 1) := by decide +kernel
theorem dX2_patiencesToGoIn_0 : decode cX2_patiencesToGoIn 0 = .ok (.aload_n 0, 1) := by decide +kernel
theorem dX2_patiencesToGoIn_1 : decode cX2_patiencesToGoIn 1 = .ok (.getfield 12, 3) := by decide +kernel
theorem dX2_patiencesToGoIn_4 : decode cX2_patiencesToGoIn 4 = .ok (.aload_n 1, 1) := by decide +kernel
theorem dX2_patiencesToGoIn_5 : decode cX2_patiencesToGoIn 5 = .ok (.invokevirtual 18, 3) := by decide +kernel
theorem dX2_patiencesToGoIn_8 : decode cX2_patiencesToGoIn 8 = .ok (.iconst 0, 1) := by decide +kernel
theorem dX2_patiencesToGoIn_9 : decode cX2_patiencesToGoIn 9 = .ok (.istore 4, 2) := by decide +kernel
theorem dX2_patiencesToGoIn_11 : decode cX2_patiencesToGoIn 11 = .ok (.iconst 0, 1) := by decide +kernel
theorem dX2_patiencesToGoIn_12 : decode cX2_patiencesToGoIn 12 = .ok (.istore 5, 2) := by decide +kernel
theorem dX2_patiencesToGoIn_14 : decode cX2_patiencesToGoIn 14 = .ok (.iload 5, 2) := by decide +kernel
theorem dX2_patiencesToGoIn_16 : decode cX2_patiencesToGoIn 16 = .ok (.bipush 11, 2) := by decide +kernel
theorem dX2_patiencesToGoIn_18 : decode cX2_patiencesToGoIn 18 = .ok (.if_icmp .gt 49, 3) := by decide +kernel
theorem dX2_patiencesToGoIn_21 : decode cX2_patiencesToGoIn 21 = .ok (.aload_n 0, 1) := by decide +kernel
theorem dX2_patiencesToGoIn_22 : decode cX2_patiencesToGoIn 22 = .ok (.getfield 12, 3) := by decide +kernel
theorem dX2_patiencesToGoIn_25 : decode cX2_patiencesToGoIn 25 = .ok (.getfield 29, 3) := by decide +kernel
theorem dX2_patiencesToGoIn_28 : decode cX2_patiencesToGoIn 28 = .ok (.iload_n 2, 1) := by decide +kernel
theorem dX2_patiencesToGoIn_29 : decode cX2_patiencesToGoIn 29 = .ok (.iload 5, 2) := by decide +kernel
theorem dX2_patiencesToGoIn_31 : decode cX2_patiencesToGoIn 31 = .ok (.iastore, 1) := by decide +kernel
theorem dX2_patiencesToGoIn_32 : decode cX2_patiencesToGoIn 32 = .ok (.aload_n 0, 1) := by decide +kernel
theorem dX2_patiencesToGoIn_33 : decode cX2_patiencesToGoIn 33 = .ok (.getfield 12, 3) := by decide +kernel
theorem dX2_patiencesToGoIn_36 : decode cX2_patiencesToGoIn 36 = .ok (.invokevirtual 22, 3) := by decide +kernel
theorem dX2_patiencesToGoIn_39 : decode cX2_patiencesToGoIn 39 = .ok (.aload_n 0, 1) := by decide +kernel
theorem dX2_patiencesToGoIn_40 : decode cX2_patiencesToGoIn 40 = .ok (.getfield 12, 3) := by decide +kernel
theorem dX2_patiencesToGoIn_43 : decode cX2_patiencesToGoIn 43 = .ok (.getfield 43, 3) := by decide +kernel
theorem dX2_patiencesToGoIn_46 : decode cX2_patiencesToGoIn 46 = .ok (.iload_n 2, 1) := by decide +kernel
theorem dX2_patiencesToGoIn_47 : decode cX2_patiencesToGoIn 47 = .ok (.iaload, 1) := by decide +kernel
theorem dX2_patiencesToGoIn_48 : decode cX2_patiencesToGoIn 48 = .ok (.iload_n 3, 1) := by decide +kernel
theorem dX2_patiencesToGoIn_49 : decode cX2_patiencesToGoIn 49 = .ok (.if_icmp .ne 12, 3) := by decide +kernel
theorem dX2_patiencesToGoIn_52 : decode cX2_patiencesToGoIn 52 = .ok (.iload 4, 2) := by decide +kernel
theorem dX2_patiencesToGoIn_54 : decode cX2_patiencesToGoIn 54 = .ok (.iconst 1, 1) := by decide +kernel
theorem dX2_patiencesToGoIn_55 : decode cX2_patiencesToGoIn 55 = .ok (.iload 5, 2) := by decide +kernel
theorem dX2_patiencesToGoIn_57 : decode cX2_patiencesToGoIn 57 = .ok (.ishl, 1) := by decide +kernel
theorem dX2_patiencesToGoIn_58 : decode cX2_patiencesToGoIn 58 = .ok (.ior, 1) := by decide +kernel
theorem dX2_patiencesToGoIn_59 : decode cX2_patiencesToGoIn 59 = .ok (.istore 4, 2) := by decide +kernel
theorem dX2_patiencesToGoIn_61 : decode cX2_patiencesToGoIn 61 = .ok (.iinc 5 1, 3) := by decide +kernel
theorem dX2_patiencesToGoIn_64 : decode cX2_patiencesToGoIn 64 = .ok (.goto (-50), 3) := by decide +kernel
theorem dX2_patiencesToGoIn_67 : decode cX2_patiencesToGoIn 67 = .ok (.iload 4, 2) := by decide +kernel
theorem dX2_patiencesToGoIn_69 : decode cX2_patiencesToGoIn 69 = .ok (.ireturn, 1) := by decide +kernel
theorem dX2_whenOfTwo_0 : decode cX2_whenOfTwo 0 = .ok (.aload_n 1, 1) := by decide +kernel
theorem dX2_whenOfTwo_1 : decode cX2_whenOfTwo 1 = .ok (.iconst 2, 1) := by decide +kernel
theorem dX2_whenOfTwo_2 : decode cX2_whenOfTwo 2 = .ok (.invokevirtual 46, 3) := by decide +kernel
theorem dX2_whenOfTwo_5 : decode cX2_whenOfTwo 5 = .ok (.istore 6, 2) := by decide +kernel
theorem dX2_whenOfTwo_7 : decode cX2_whenOfTwo 7 = .ok (.iload 6, 2) := by decide +kernel
theorem dX2_whenOfTwo_9 : decode cX2_whenOfTwo 9 = .ok (.istore 7, 2) := by decide +kernel
theorem dX2_whenOfTwo_11 : decode cX2_whenOfTwo 11 = .ok (.iconst 0, 1) := by decide +kernel
theorem dX2_whenOfTwo_12 : decode cX2_whenOfTwo 12 = .ok (.istore 8, 2) := by decide +kernel
theorem dX2_whenOfTwo_14 : decode cX2_whenOfTwo 14 = .ok (.bipush 11, 2) := by decide +kernel
theorem dX2_whenOfTwo_16 : decode cX2_whenOfTwo 16 = .ok (.istore 9, 2) := by decide +kernel
theorem dX2_whenOfTwo_18 : decode cX2_whenOfTwo 18 = .ok (.iload_n 2, 1) := by decide +kernel
theorem dX2_whenOfTwo_19 : decode cX2_whenOfTwo 19 = .ok (.istore 10, 2) := by decide +kernel
theorem dX2_whenOfTwo_21 : decode cX2_whenOfTwo 21 = .ok (.bipush 10, 2) := by decide +kernel
theorem dX2_whenOfTwo_23 : decode cX2_whenOfTwo 23 = .ok (.istore 11, 2) := by decide +kernel
theorem dX2_whenOfTwo_25 : decode cX2_whenOfTwo 25 = .ok (.iload 11, 2) := by decide +kernel
theorem dX2_whenOfTwo_27 : decode cX2_whenOfTwo 27 = .ok (.iload 4, 2) := by decide +kernel
theorem dX2_whenOfTwo_29 : decode cX2_whenOfTwo 29 = .ok (.if_icmp .lt 131, 3) := by decide +kernel
theorem dX2_whenOfTwo_32 : decode cX2_whenOfTwo 32 = .ok (.aload_n 1, 1) := by decide +kernel
theorem dX2_whenOfTwo_33 : decode cX2_whenOfTwo 33 = .ok (.getfield 49, 3) := by decide +kernel
theorem dX2_whenOfTwo_36 : decode cX2_whenOfTwo 36 = .ok (.iload_n 2, 1) := by decide +kernel
theorem dX2_whenOfTwo_37 : decode cX2_whenOfTwo 37 = .ok (.iaload, 1) := by decide +kernel
theorem dX2_whenOfTwo_38 : decode cX2_whenOfTwo 38 = .ok (.iload 7, 2) := by decide +kernel
theorem dX2_whenOfTwo_40 : decode cX2_whenOfTwo 40 = .ok (.iadd, 1) := by decide +kernel
theorem dX2_whenOfTwo_41 : decode cX2_whenOfTwo 41 = .ok (.istore 12, 2) := by decide +kernel
theorem dX2_whenOfTwo_43 : decode cX2_whenOfTwo 43 = .ok (.aload_n 1, 1) := by decide +kernel
theorem dX2_whenOfTwo_44 : decode cX2_whenOfTwo 44 = .ok (.getfield 49, 3) := by decide +kernel
theorem dX2_whenOfTwo_47 : decode cX2_whenOfTwo 47 = .ok (.iload_n 3, 1) := by decide +kernel
theorem dX2_whenOfTwo_48 : decode cX2_whenOfTwo 48 = .ok (.iaload, 1) := by decide +kernel
theorem dX2_whenOfTwo_49 : decode cX2_whenOfTwo 49 = .ok (.iload 8, 2) := by decide +kernel
theorem dX2_whenOfTwo_51 : decode cX2_whenOfTwo 51 = .ok (.iadd, 1) := by decide +kernel
theorem dX2_whenOfTwo_52 : decode cX2_whenOfTwo 52 = .ok (.istore 13, 2) := by decide +kernel
theorem dX2_whenOfTwo_54 : decode cX2_whenOfTwo 54 = .ok (.iload 6, 2) := by decide +kernel
theorem dX2_whenOfTwo_56 : decode cX2_whenOfTwo 56 = .ok (.iload 13, 2) := by decide +kernel
theorem dX2_whenOfTwo_58 : decode cX2_whenOfTwo 58 = .ok (.if_icmp .gt 7, 3) := by decide +kernel
theorem dX2_whenOfTwo_61 : decode cX2_whenOfTwo 61 = .ok (.iconst 1, 1) := by decide +kernel
theorem dX2_whenOfTwo_62 : decode cX2_whenOfTwo 62 = .ok (.goto 4, 3) := by decide +kernel
theorem dX2_whenOfTwo_65 : decode cX2_whenOfTwo 65 = .ok (.iconst 0, 1) := by decide +kernel
theorem dX2_whenOfTwo_66 : decode cX2_whenOfTwo 66 = .ok (.istore 14, 2) := by decide +kernel
theorem dX2_whenOfTwo_68 : decode cX2_whenOfTwo 68 = .ok (.iload 6, 2) := by decide +kernel
theorem dX2_whenOfTwo_70 : decode cX2_whenOfTwo 70 = .ok (.iload 14, 2) := by decide +kernel
theorem dX2_whenOfTwo_72 : decode cX2_whenOfTwo 72 = .ok (.ifCond .eq 7, 3) := by decide +kernel
theorem dX2_whenOfTwo_75 : decode cX2_whenOfTwo 75 = .ok (.iconst 0, 1) := by decide +kernel
theorem dX2_whenOfTwo_76 : decode cX2_whenOfTwo 76 = .ok (.goto 5, 3) := by decide +kernel
theorem dX2_whenOfTwo_79 : decode cX2_whenOfTwo 79 = .ok (.iload 12, 2) := by decide +kernel
theorem dX2_whenOfTwo_81 : decode cX2_whenOfTwo 81 = .ok (.if_icmp .gt 7, 3) := by decide +kernel
theorem dX2_whenOfTwo_84 : decode cX2_whenOfTwo 84 = .ok (.iconst 1, 1) := by decide +kernel
theorem dX2_whenOfTwo_85 : decode cX2_whenOfTwo 85 = .ok (.goto 4, 3) := by decide +kernel
theorem dX2_whenOfTwo_88 : decode cX2_whenOfTwo 88 = .ok (.iconst 0, 1) := by decide +kernel
theorem dX2_whenOfTwo_89 : decode cX2_whenOfTwo 89 = .ok (.istore 15, 2) := by decide +kernel
theorem dX2_whenOfTwo_91 : decode cX2_whenOfTwo 91 = .ok (.iload 15, 2) := by decide +kernel
theorem dX2_whenOfTwo_93 : decode cX2_whenOfTwo 93 = .ok (.ifCond .ne 8, 3) := by decide +kernel
theorem dX2_whenOfTwo_96 : decode cX2_whenOfTwo 96 = .ok (.iload 14, 2) := by decide +kernel
theorem dX2_whenOfTwo_98 : decode cX2_whenOfTwo 98 = .ok (.ifCond .eq 48, 3) := by decide +kernel
theorem dX2_whenOfTwo_101 : decode cX2_whenOfTwo 101 = .ok (.iload 11, 2) := by decide +kernel
theorem dX2_whenOfTwo_103 : decode cX2_whenOfTwo 103 = .ok (.istore 9, 2) := by decide +kernel
theorem dX2_whenOfTwo_105 : decode cX2_whenOfTwo 105 = .ok (.iload 15, 2) := by decide +kernel
theorem dX2_whenOfTwo_107 : decode cX2_whenOfTwo 107 = .ok (.ifCond .eq 7, 3) := by decide +kernel
theorem dX2_whenOfTwo_110 : decode cX2_whenOfTwo 110 = .ok (.iload_n 2, 1) := by decide +kernel
theorem dX2_whenOfTwo_111 : decode cX2_whenOfTwo 111 = .ok (.goto 4, 3) := by decide +kernel
theorem dX2_whenOfTwo_114 : decode cX2_whenOfTwo 114 = .ok (.iload_n 3, 1) := by decide +kernel
theorem dX2_whenOfTwo_115 : decode cX2_whenOfTwo 115 = .ok (.istore 10, 2) := by decide +kernel
theorem dX2_whenOfTwo_117 : decode cX2_whenOfTwo 117 = .ok (.iload 15, 2) := by decide +kernel
theorem dX2_whenOfTwo_119 : decode cX2_whenOfTwo 119 = .ok (.ifCond .eq 8, 3) := by decide +kernel
theorem dX2_whenOfTwo_122 : decode cX2_whenOfTwo 122 = .ok (.iload 6, 2) := by decide +kernel
theorem dX2_whenOfTwo_124 : decode cX2_whenOfTwo 124 = .ok (.goto 4, 3) := by decide +kernel
theorem dX2_whenOfTwo_127 : decode cX2_whenOfTwo 127 = .ok (.iconst 0, 1) := by decide +kernel
theorem dX2_whenOfTwo_128 : decode cX2_whenOfTwo 128 = .ok (.istore 7, 2) := by decide +kernel
theorem dX2_whenOfTwo_130 : decode cX2_whenOfTwo 130 = .ok (.iload 15, 2) := by decide +kernel
theorem dX2_whenOfTwo_132 : decode cX2_whenOfTwo 132 = .ok (.ifCond .eq 7, 3) := by decide +kernel
theorem dX2_whenOfTwo_135 : decode cX2_whenOfTwo 135 = .ok (.iconst 0, 1) := by decide +kernel
theorem dX2_whenOfTwo_136 : decode cX2_whenOfTwo 136 = .ok (.goto 5, 3) := by decide +kernel
theorem dX2_whenOfTwo_139 : decode cX2_whenOfTwo 139 = .ok (.iload 6, 2) := by decide +kernel
theorem dX2_whenOfTwo_141 : decode cX2_whenOfTwo 141 = .ok (.istore 8, 2) := by decide +kernel
theorem dX2_whenOfTwo_143 : decode cX2_whenOfTwo 143 = .ok (.goto 11, 3) := by decide +kernel
theorem dX2_whenOfTwo_146 : decode cX2_whenOfTwo 146 = .ok (.iload 12, 2) := by decide +kernel
theorem dX2_whenOfTwo_148 : decode cX2_whenOfTwo 148 = .ok (.istore 7, 2) := by decide +kernel
theorem dX2_whenOfTwo_150 : decode cX2_whenOfTwo 150 = .ok (.iload 13, 2) := by decide +kernel
theorem dX2_whenOfTwo_152 : decode cX2_whenOfTwo 152 = .ok (.istore 8, 2) := by decide +kernel
theorem dX2_whenOfTwo_154 : decode cX2_whenOfTwo 154 = .ok (.iinc 11 (-1), 3) := by decide +kernel
theorem dX2_whenOfTwo_157 : decode cX2_whenOfTwo 157 = .ok (.goto (-132), 3) := by decide +kernel
theorem dX2_whenOfTwo_160 : decode cX2_whenOfTwo 160 = .ok (.iload 5, 2) := by decide +kernel
theorem dX2_whenOfTwo_162 : decode cX2_whenOfTwo 162 = .ok (.ifCond .eq 8, 3) := by decide +kernel
theorem dX2_whenOfTwo_165 : decode cX2_whenOfTwo 165 = .ok (.iload 10, 2) := by decide +kernel
theorem dX2_whenOfTwo_167 : decode cX2_whenOfTwo 167 = .ok (.goto 5, 3) := by decide +kernel
theorem dX2_whenOfTwo_170 : decode cX2_whenOfTwo 170 = .ok (.iload 9, 2) := by decide +kernel
theorem dX2_whenOfTwo_172 : decode cX2_whenOfTwo 172 = .ok (.ireturn, 1) := by decide +kernel
theorem dX2_timesFirst_0 : decode cX2_timesFirst 0 = .ok (.aload_n 0, 1) := by decide +kernel
theorem dX2_timesFirst_1 : decode cX2_timesFirst 1 = .ok (.getfield 12, 3) := by decide +kernel
theorem dX2_timesFirst_4 : decode cX2_timesFirst 4 = .ok (.aload_n 1, 1) := by decide +kernel
theorem dX2_timesFirst_5 : decode cX2_timesFirst 5 = .ok (.invokevirtual 18, 3) := by decide +kernel
theorem dX2_timesFirst_8 : decode cX2_timesFirst 8 = .ok (.iconst 0, 1) := by decide +kernel
theorem dX2_timesFirst_9 : decode cX2_timesFirst 9 = .ok (.istore 4, 2) := by decide +kernel
theorem dX2_timesFirst_11 : decode cX2_timesFirst 11 = .ok (.iload 4, 2) := by decide +kernel
theorem dX2_timesFirst_13 : decode cX2_timesFirst 13 = .ok (.iload_n 3, 1) := by decide +kernel
theorem dX2_timesFirst_14 : decode cX2_timesFirst 14 = .ok (.if_icmp .ge 68, 3) := by decide +kernel
theorem dX2_timesFirst_17 : decode cX2_timesFirst 17 = .ok (.aload_n 0, 1) := by decide +kernel
theorem dX2_timesFirst_18 : decode cX2_timesFirst 18 = .ok (.getfield 12, 3) := by decide +kernel
theorem dX2_timesFirst_21 : decode cX2_timesFirst 21 = .ok (.invokevirtual 22, 3) := by decide +kernel
theorem dX2_timesFirst_24 : decode cX2_timesFirst 24 = .ok (.iconst 0, 1) := by decide +kernel
theorem dX2_timesFirst_25 : decode cX2_timesFirst 25 = .ok (.istore 5, 2) := by decide +kernel
theorem dX2_timesFirst_27 : decode cX2_timesFirst 27 = .ok (.iload 5, 2) := by decide +kernel
theorem dX2_timesFirst_29 : decode cX2_timesFirst 29 = .ok (.bipush 12, 2) := by decide +kernel
theorem dX2_timesFirst_31 : decode cX2_timesFirst 31 = .ok (.if_icmp .ge 45, 3) := by decide +kernel
theorem dX2_timesFirst_34 : decode cX2_timesFirst 34 = .ok (.aload_n 0, 1) := by decide +kernel
theorem dX2_timesFirst_35 : decode cX2_timesFirst 35 = .ok (.getfield 12, 3) := by decide +kernel
theorem dX2_timesFirst_38 : decode cX2_timesFirst 38 = .ok (.getfield 52, 3) := by decide +kernel
theorem dX2_timesFirst_41 : decode cX2_timesFirst 41 = .ok (.iload 5, 2) := by decide +kernel
theorem dX2_timesFirst_43 : decode cX2_timesFirst 43 = .ok (.iaload, 1) := by decide +kernel
theorem dX2_timesFirst_44 : decode cX2_timesFirst 44 = .ok (.iconst (-1), 1) := by decide +kernel
theorem dX2_timesFirst_45 : decode cX2_timesFirst 45 = .ok (.if_icmp .eq 25, 3) := by decide +kernel
theorem dX2_timesFirst_48 : decode cX2_timesFirst 48 = .ok (.aload_n 0, 1) := by decide +kernel
theorem dX2_timesFirst_49 : decode cX2_timesFirst 49 = .ok (.getfield 12, 3) := by decide +kernel
theorem dX2_timesFirst_52 : decode cX2_timesFirst 52 = .ok (.getfield 55, 3) := by decide +kernel
theorem dX2_timesFirst_55 : decode cX2_timesFirst 55 = .ok (.aload_n 0, 1) := by decide +kernel
theorem dX2_timesFirst_56 : decode cX2_timesFirst 56 = .ok (.getfield 12, 3) := by decide +kernel
theorem dX2_timesFirst_59 : decode cX2_timesFirst 59 = .ok (.getfield 52, 3) := by decide +kernel
theorem dX2_timesFirst_62 : decode cX2_timesFirst 62 = .ok (.iload 5, 2) := by decide +kernel
theorem dX2_timesFirst_64 : decode cX2_timesFirst 64 = .ok (.iaload, 1) := by decide +kernel
theorem dX2_timesFirst_65 : decode cX2_timesFirst 65 = .ok (.dup2, 1) := by decide +kernel
theorem dX2_timesFirst_66 : decode cX2_timesFirst 66 = .ok (.iaload, 1) := by decide +kernel
theorem dX2_timesFirst_67 : decode cX2_timesFirst 67 = .ok (.iconst 1, 1) := by decide +kernel
theorem dX2_timesFirst_68 : decode cX2_timesFirst 68 = .ok (.iadd, 1) := by decide +kernel
theorem dX2_timesFirst_69 : decode cX2_timesFirst 69 = .ok (.iastore, 1) := by decide +kernel
theorem dX2_timesFirst_70 : decode cX2_timesFirst 70 = .ok (.iinc 5 1, 3) := by decide +kernel
theorem dX2_timesFirst_73 : decode cX2_timesFirst 73 = .ok (.goto (-46), 3) := by decide +kernel
theorem dX2_timesFirst_76 : decode cX2_timesFirst 76 = .ok (.iinc 4 1, 3) := by decide +kernel
theorem dX2_timesFirst_79 : decode cX2_timesFirst 79 = .ok (.goto (-68), 3) := by decide +kernel
theorem dX2_timesFirst_82 : decode cX2_timesFirst 82 = .ok (.aload_n 0, 1) := by decide +kernel
theorem dX2_timesFirst_83 : decode cX2_timesFirst 83 = .ok (.getfield 12, 3) := by decide +kernel
theorem dX2_timesFirst_86 : decode cX2_timesFirst 86 = .ok (.getfield 55, 3) := by decide +kernel
theorem dX2_timesFirst_89 : decode cX2_timesFirst 89 = .ok (.iload_n 2, 1) := by decide +kernel
theorem dX2_timesFirst_90 : decode cX2_timesFirst 90 = .ok (.iaload, 1) := by decide +kernel
theorem dX2_timesFirst_91 : decode cX2_timesFirst 91 = .ok (.ireturn, 1) := by decide +kernel
theorem dX2_costByFord_0 : decode cX2_costByFord 0 = .ok (.aload_n 1, 1) := by decide +kernel
theorem dX2_costByFord_1 : decode cX2_costByFord 1 = .ok (.iconst 1, 1) := by decide +kernel
theorem dX2_costByFord_2 : decode cX2_costByFord 2 = .ok (.invokevirtual 46, 3) := by decide +kernel
theorem dX2_costByFord_5 : decode cX2_costByFord 5 = .ok (.istore 6, 2) := by decide +kernel
theorem dX2_costByFord_7 : decode cX2_costByFord 7 = .ok (.iconst 1, 1) := by decide +kernel
theorem dX2_costByFord_8 : decode cX2_costByFord 8 = .ok (.istore 7, 2) := by decide +kernel
theorem dX2_costByFord_10 : decode cX2_costByFord 10 = .ok (.iconst 0, 1) := by decide +kernel
theorem dX2_costByFord_11 : decode cX2_costByFord 11 = .ok (.istore 8, 2) := by decide +kernel
theorem dX2_costByFord_13 : decode cX2_costByFord 13 = .ok (.iload 8, 2) := by decide +kernel
theorem dX2_costByFord_15 : decode cX2_costByFord 15 = .ok (.iload 4, 2) := by decide +kernel
theorem dX2_costByFord_17 : decode cX2_costByFord 17 = .ok (.if_icmp .ge 50, 3) := by decide +kernel
theorem dX2_costByFord_20 : decode cX2_costByFord 20 = .ok (.iload 7, 2) := by decide +kernel
theorem dX2_costByFord_22 : decode cX2_costByFord 22 = .ok (.bipush 100, 2) := by decide +kernel
theorem dX2_costByFord_24 : decode cX2_costByFord 24 = .ok (.imul, 1) := by decide +kernel
theorem dX2_costByFord_25 : decode cX2_costByFord 25 = .ok (.istore 7, 2) := by decide +kernel
theorem dX2_costByFord_27 : decode cX2_costByFord 27 = .ok (.aload_n 1, 1) := by decide +kernel
theorem dX2_costByFord_28 : decode cX2_costByFord 28 = .ok (.getfield 49, 3) := by decide +kernel
theorem dX2_costByFord_31 : decode cX2_costByFord 31 = .ok (.iload_n 2, 1) := by decide +kernel
theorem dX2_costByFord_32 : decode cX2_costByFord 32 = .ok (.iaload, 1) := by decide +kernel
theorem dX2_costByFord_33 : decode cX2_costByFord 33 = .ok (.iload 7, 2) := by decide +kernel
theorem dX2_costByFord_35 : decode cX2_costByFord 35 = .ok (.imul, 1) := by decide +kernel
theorem dX2_costByFord_36 : decode cX2_costByFord 36 = .ok (.bipush 100, 2) := by decide +kernel
theorem dX2_costByFord_38 : decode cX2_costByFord 38 = .ok (.iload_n 3, 1) := by decide +kernel
theorem dX2_costByFord_39 : decode cX2_costByFord 39 = .ok (.isub, 1) := by decide +kernel
theorem dX2_costByFord_40 : decode cX2_costByFord 40 = .ok (.iload 6, 2) := by decide +kernel
theorem dX2_costByFord_42 : decode cX2_costByFord 42 = .ok (.imul, 1) := by decide +kernel
theorem dX2_costByFord_43 : decode cX2_costByFord 43 = .ok (.iadd, 1) := by decide +kernel
theorem dX2_costByFord_44 : decode cX2_costByFord 44 = .ok (.istore 9, 2) := by decide +kernel
theorem dX2_costByFord_46 : decode cX2_costByFord 46 = .ok (.iload 9, 2) := by decide +kernel
theorem dX2_costByFord_48 : decode cX2_costByFord 48 = .ok (.aload_n 1, 1) := by decide +kernel
theorem dX2_costByFord_49 : decode cX2_costByFord 49 = .ok (.iconst 1, 1) := by decide +kernel
theorem dX2_costByFord_50 : decode cX2_costByFord 50 = .ok (.invokevirtual 46, 3) := by decide +kernel
theorem dX2_costByFord_53 : decode cX2_costByFord 53 = .ok (.iload 7, 2) := by decide +kernel
theorem dX2_costByFord_55 : decode cX2_costByFord 55 = .ok (.imul, 1) := by decide +kernel
theorem dX2_costByFord_56 : decode cX2_costByFord 56 = .ok (.invokestatic 58, 3) := by decide +kernel
theorem dX2_costByFord_59 : decode cX2_costByFord 59 = .ok (.istore 6, 2) := by decide +kernel
theorem dX2_costByFord_61 : decode cX2_costByFord 61 = .ok (.iinc 8 1, 3) := by decide +kernel
theorem dX2_costByFord_64 : decode cX2_costByFord 64 = .ok (.goto (-51), 3) := by decide +kernel
theorem dX2_costByFord_67 : decode cX2_costByFord 67 = .ok (.iload 6, 2) := by decide +kernel
theorem dX2_costByFord_69 : decode cX2_costByFord 69 = .ok (.iload 7, 2) := by decide +kernel
theorem dX2_costByFord_71 : decode cX2_costByFord 71 = .ok (.invokestatic 64, 3) := by decide +kernel
theorem dX2_costByFord_74 : decode cX2_costByFord 74 = .ok (.istore 8, 2) := by decide +kernel
theorem dX2_costByFord_76 : decode cX2_costByFord 76 = .ok (.iload 5, 2) := by decide +kernel
theorem dX2_costByFord_78 : decode cX2_costByFord 78 = .ok (.ifCond .eq 8, 3) := by decide +kernel
theorem dX2_costByFord_81 : decode cX2_costByFord 81 = .ok (.iload 6, 2) := by decide +kernel
theorem dX2_costByFord_83 : decode cX2_costByFord 83 = .ok (.goto 5, 3) := by decide +kernel
theorem dX2_costByFord_86 : decode cX2_costByFord 86 = .ok (.iload 7, 2) := by decide +kernel
theorem dX2_costByFord_88 : decode cX2_costByFord 88 = .ok (.iload 8, 2) := by decide +kernel
theorem dX2_costByFord_90 : decode cX2_costByFord 90 = .ok (.idiv, 1) := by decide +kernel
theorem dX2_costByFord_91 : decode cX2_costByFord 91 = .ok (.ireturn, 1) := by decide +kernel
theorem dX2_commonPart_0 : decode cX2_commonPart 0 = .ok (.iload_n 0, 1) := by decide +kernel
theorem dX2_commonPart_1 : decode cX2_commonPart 1 = .ok (.istore_n 2, 1) := by decide +kernel
theorem dX2_commonPart_2 : decode cX2_commonPart 2 = .ok (.iload_n 1, 1) := by decide +kernel
theorem dX2_commonPart_3 : decode cX2_commonPart 3 = .ok (.istore_n 3, 1) := by decide +kernel
theorem dX2_commonPart_4 : decode cX2_commonPart 4 = .ok (.iconst 0, 1) := by decide +kernel
theorem dX2_commonPart_5 : decode cX2_commonPart 5 = .ok (.istore 4, 2) := by decide +kernel
theorem dX2_commonPart_7 : decode cX2_commonPart 7 = .ok (.iload 4, 2) := by decide +kernel
theorem dX2_commonPart_9 : decode cX2_commonPart 9 = .ok (.bipush 64, 2) := by decide +kernel
theorem dX2_commonPart_11 : decode cX2_commonPart 11 = .ok (.if_icmp .ge 23, 3) := by decide +kernel
theorem dX2_commonPart_14 : decode cX2_commonPart 14 = .ok (.iload_n 3, 1) := by decide +kernel
theorem dX2_commonPart_15 : decode cX2_commonPart 15 = .ok (.ifCond .eq 19, 3) := by decide +kernel
theorem dX2_commonPart_18 : decode cX2_commonPart 18 = .ok (.iload_n 2, 1) := by decide +kernel
theorem dX2_commonPart_19 : decode cX2_commonPart 19 = .ok (.iload_n 3, 1) := by decide +kernel
theorem dX2_commonPart_20 : decode cX2_commonPart 20 = .ok (.irem, 1) := by decide +kernel
theorem dX2_commonPart_21 : decode cX2_commonPart 21 = .ok (.istore 5, 2) := by decide +kernel
theorem dX2_commonPart_23 : decode cX2_commonPart 23 = .ok (.iload_n 3, 1) := by decide +kernel
theorem dX2_commonPart_24 : decode cX2_commonPart 24 = .ok (.istore_n 2, 1) := by decide +kernel
theorem dX2_commonPart_25 : decode cX2_commonPart 25 = .ok (.iload 5, 2) := by decide +kernel
theorem dX2_commonPart_27 : decode cX2_commonPart 27 = .ok (.istore_n 3, 1) := by decide +kernel
theorem dX2_commonPart_28 : decode cX2_commonPart 28 = .ok (.iinc 4 1, 3) := by decide +kernel
theorem dX2_commonPart_31 : decode cX2_commonPart 31 = .ok (.goto (-24), 3) := by decide +kernel
theorem dX2_commonPart_34 : decode cX2_commonPart 34 = .ok (.iload_n 2, 1) := by decide +kernel
theorem dX2_commonPart_35 : decode cX2_commonPart 35 = .ok (.ifCond .ne 7, 3) := by decide +kernel
theorem dX2_commonPart_38 : decode cX2_commonPart 38 = .ok (.iconst 1, 1) := by decide +kernel
theorem dX2_commonPart_39 : decode cX2_commonPart 39 = .ok (.goto 4, 3) := by decide +kernel
theorem dX2_commonPart_42 : decode cX2_commonPart 42 = .ok (.iload_n 2, 1) := by decide +kernel
theorem dX2_commonPart_43 : decode cX2_commonPart 43 = .ok (.ireturn, 1) := by decide +kernel
theorem dX2_costOfGoat_0 : decode cX2_costOfGoat 0 = .ok (.aload_n 0, 1) := by decide +kernel
theorem dX2_costOfGoat_1 : decode cX2_costOfGoat 1 = .ok (.aload_n 1, 1) := by decide +kernel
theorem dX2_costOfGoat_2 : decode cX2_costOfGoat 2 = .ok (.invokevirtual 67, 3) := by decide +kernel
theorem dX2_costOfGoat_5 : decode cX2_costOfGoat 5 = .ok (.iload_n 2, 1) := by decide +kernel
theorem dX2_costOfGoat_6 : decode cX2_costOfGoat 6 = .ok (.invokevirtual 34, 3) := by decide +kernel
theorem dX2_costOfGoat_9 : decode cX2_costOfGoat 9 = .ok (.istore 4, 2) := by decide +kernel
theorem dX2_costOfGoat_11 : decode cX2_costOfGoat 11 = .ok (.aload_n 0, 1) := by decide +kernel
theorem dX2_costOfGoat_12 : decode cX2_costOfGoat 12 = .ok (.getfield 12, 3) := by decide +kernel
theorem dX2_costOfGoat_15 : decode cX2_costOfGoat 15 = .ok (.getfield 38, 3) := by decide +kernel
theorem dX2_costOfGoat_18 : decode cX2_costOfGoat 18 = .ok (.istore 5, 2) := by decide +kernel
theorem dX2_costOfGoat_20 : decode cX2_costOfGoat 20 = .ok (.iload 5, 2) := by decide +kernel
theorem dX2_costOfGoat_22 : decode cX2_costOfGoat 22 = .ok (.bipush 7, 2) := by decide +kernel
theorem dX2_costOfGoat_24 : decode cX2_costOfGoat 24 = .ok (.if_icmp .lt 6, 3) := by decide +kernel
theorem dX2_costOfGoat_27 : decode cX2_costOfGoat 27 = .ok (.ldc 42, 2) := by decide +kernel
theorem dX2_costOfGoat_29 : decode cX2_costOfGoat 29 = .ok (.ireturn, 1) := by decide +kernel
theorem dX2_costOfGoat_30 : decode cX2_costOfGoat 30 = .ok (.aload_n 0, 1) := by decide +kernel
theorem dX2_costOfGoat_31 : decode cX2_costOfGoat 31 = .ok (.getfield 12, 3) := by decide +kernel
theorem dX2_costOfGoat_34 : decode cX2_costOfGoat 34 = .ok (.getfield 71, 3) := by decide +kernel
theorem dX2_costOfGoat_37 : decode cX2_costOfGoat 37 = .ok (.iload 5, 2) := by decide +kernel
theorem dX2_costOfGoat_39 : decode cX2_costOfGoat 39 = .ok (.iconst 5, 1) := by decide +kernel
theorem dX2_costOfGoat_40 : decode cX2_costOfGoat 40 = .ok (.iastore, 1) := by decide +kernel
theorem dX2_costOfGoat_41 : decode cX2_costOfGoat 41 = .ok (.aload_n 0, 1) := by decide +kernel
theorem dX2_costOfGoat_42 : decode cX2_costOfGoat 42 = .ok (.getfield 12, 3) := by decide +kernel
theorem dX2_costOfGoat_45 : decode cX2_costOfGoat 45 = .ok (.getfield 74, 3) := by decide +kernel
theorem dX2_costOfGoat_48 : decode cX2_costOfGoat 48 = .ok (.iload 5, 2) := by decide +kernel
theorem dX2_costOfGoat_50 : decode cX2_costOfGoat 50 = .ok (.iload_n 3, 1) := by decide +kernel
theorem dX2_costOfGoat_51 : decode cX2_costOfGoat 51 = .ok (.iastore, 1) := by decide +kernel
theorem dX2_costOfGoat_52 : decode cX2_costOfGoat 52 = .ok (.aload_n 0, 1) := by decide +kernel
theorem dX2_costOfGoat_53 : decode cX2_costOfGoat 53 = .ok (.getfield 12, 3) := by decide +kernel
theorem dX2_costOfGoat_56 : decode cX2_costOfGoat 56 = .ok (.getfield 49, 3) := by decide +kernel
theorem dX2_costOfGoat_59 : decode cX2_costOfGoat 59 = .ok (.iload 5, 2) := by decide +kernel
theorem dX2_costOfGoat_61 : decode cX2_costOfGoat 61 = .ok (.iconst 0, 1) := by decide +kernel
theorem dX2_costOfGoat_62 : decode cX2_costOfGoat 62 = .ok (.iastore, 1) := by decide +kernel
theorem dX2_costOfGoat_63 : decode cX2_costOfGoat 63 = .ok (.aload_n 0, 1) := by decide +kernel
theorem dX2_costOfGoat_64 : decode cX2_costOfGoat 64 = .ok (.getfield 12, 3) := by decide +kernel
theorem dX2_costOfGoat_67 : decode cX2_costOfGoat 67 = .ok (.getfield 29, 3) := by decide +kernel
theorem dX2_costOfGoat_70 : decode cX2_costOfGoat 70 = .ok (.iload 5, 2) := by decide +kernel
theorem dX2_costOfGoat_72 : decode cX2_costOfGoat 72 = .ok (.iconst 0, 1) := by decide +kernel
theorem dX2_costOfGoat_73 : decode cX2_costOfGoat 73 = .ok (.iastore, 1) := by decide +kernel
theorem dX2_costOfGoat_74 : decode cX2_costOfGoat 74 = .ok (.aload_n 0, 1) := by decide +kernel
theorem dX2_costOfGoat_75 : decode cX2_costOfGoat 75 = .ok (.getfield 12, 3) := by decide +kernel
theorem dX2_costOfGoat_78 : decode cX2_costOfGoat 78 = .ok (.dup, 1) := by decide +kernel
theorem dX2_costOfGoat_79 : decode cX2_costOfGoat 79 = .ok (.getfield 38, 3) := by decide +kernel
theorem dX2_costOfGoat_82 : decode cX2_costOfGoat 82 = .ok (.iconst 1, 1) := by decide +kernel
theorem dX2_costOfGoat_83 : decode cX2_costOfGoat 83 = .ok (.iadd, 1) := by decide +kernel
theorem dX2_costOfGoat_84 : decode cX2_costOfGoat 84 = .ok (.putfield 38, 3) := by decide +kernel
theorem dX2_costOfGoat_87 : decode cX2_costOfGoat 87 = .ok (.aload_n 0, 1) := by decide +kernel
theorem dX2_costOfGoat_88 : decode cX2_costOfGoat 88 = .ok (.getfield 12, 3) := by decide +kernel
theorem dX2_costOfGoat_91 : decode cX2_costOfGoat 91 = .ok (.invokevirtual 22, 3) := by decide +kernel
theorem dX2_costOfGoat_94 : decode cX2_costOfGoat 94 = .ok (.aload_n 0, 1) := by decide +kernel
theorem dX2_costOfGoat_95 : decode cX2_costOfGoat 95 = .ok (.getfield 12, 3) := by decide +kernel
theorem dX2_costOfGoat_98 : decode cX2_costOfGoat 98 = .ok (.iload_n 2, 1) := by decide +kernel
theorem dX2_costOfGoat_99 : decode cX2_costOfGoat 99 = .ok (.invokevirtual 34, 3) := by decide +kernel
theorem dX2_costOfGoat_102 : decode cX2_costOfGoat 102 = .ok (.aload_n 0, 1) := by decide +kernel
theorem dX2_costOfGoat_103 : decode cX2_costOfGoat 103 = .ok (.getfield 12, 3) := by decide +kernel
theorem dX2_costOfGoat_106 : decode cX2_costOfGoat 106 = .ok (.getfield 77, 3) := by decide +kernel
theorem dX2_costOfGoat_109 : decode cX2_costOfGoat 109 = .ok (.iload 5, 2) := by decide +kernel
theorem dX2_costOfGoat_111 : decode cX2_costOfGoat 111 = .ok (.iaload, 1) := by decide +kernel
theorem dX2_costOfGoat_112 : decode cX2_costOfGoat 112 = .ok (.iadd, 1) := by decide +kernel
theorem dX2_costOfGoat_113 : decode cX2_costOfGoat 113 = .ok (.iload 4, 2) := by decide +kernel
theorem dX2_costOfGoat_115 : decode cX2_costOfGoat 115 = .ok (.isub, 1) := by decide +kernel
theorem dX2_costOfGoat_116 : decode cX2_costOfGoat 116 = .ok (.ireturn, 1) := by decide +kernel
theorem dX3_init_0 : decode cX3_init 0 = .ok (.aload_n 0, 1) := by decide +kernel
theorem dX3_init_1 : decode cX3_init 1 = .ok (.invokespecial 3, 3) := by decide +kernel
theorem dX3_init_4 : decode cX3_init 4 = .ok (.aload_n 0, 1) := by decide +kernel
theorem dX3_init_5 : decode cX3_init 5 = .ok (.bipush 6, 2) := by decide +kernel
theorem dX3_init_7 : decode cX3_init 7 = .ok (.newarray .int, 2) := by decide +kernel
theorem dX3_init_9 : decode cX3_init 9 = .ok (.putfield 9, 3) := by decide +kernel
theorem dX3_init_12 : decode cX3_init 12 = .ok (.aload_n 0, 1) := by decide +kernel
theorem dX3_init_13 : decode cX3_init 13 = .ok (.bipush 7, 2) := by decide +kernel
theorem dX3_init_15 : decode cX3_init 15 = .ok (.newarray .int, 2) := by decide +kernel
theorem dX3_init_17 : decode cX3_init 17 = .ok (.putfield 15, 3) := by decide +kernel
theorem dX3_init_20 : decode cX3_init 20 = .ok (.aload_n 0, 1) := by decide +kernel
theorem dX3_init_21 : decode cX3_init 21 = .ok (.bipush 7, 2) := by decide +kernel
theorem dX3_init_23 : decode cX3_init 23 = .ok (.newarray .int, 2) := by decide +kernel
theorem dX3_init_25 : decode cX3_init 25 = .ok (.putfield 18, 3) := by decide +kernel
theorem dX3_init_28 : decode cX3_init 28 = .ok (.aload_n 0, 1) := by decide +kernel
theorem dX3_init_29 : decode cX3_init 29 = .ok (.bipush 7, 2) := by decide +kernel
theorem dX3_init_31 : decode cX3_init 31 = .ok (.newarray .int, 2) := by decide +kernel
theorem dX3_init_33 : decode cX3_init 33 = .ok (.putfield 21, 3) := by decide +kernel
theorem dX3_init_36 : decode cX3_init 36 = .ok (.aload_n 0, 1) := by decide +kernel
theorem dX3_init_37 : decode cX3_init 37 = .ok (.bipush 7, 2) := by decide +kernel
theorem dX3_init_39 : decode cX3_init 39 = .ok (.newarray .int, 2) := by decide +kernel
theorem dX3_init_41 : decode cX3_init 41 = .ok (.putfield 24, 3) := by decide +kernel
theorem dX3_init_44 : decode cX3_init 44 = .ok (.aload_n 0, 1) := by decide +kernel
theorem dX3_init_45 : decode cX3_init 45 = .ok (.bipush 7, 2) := by decide +kernel
theorem dX3_init_47 : decode cX3_init 47 = .ok (.newarray .int, 2) := by decide +kernel
theorem dX3_init_49 : decode cX3_init 49 = .ok (.putfield 27, 3) := by decide +kernel
theorem dX3_init_52 : decode cX3_init 52 = .ok (.aload_n 0, 1) := by decide +kernel
theorem dX3_init_53 : decode cX3_init 53 = .ok (.bipush 7, 2) := by decide +kernel
theorem dX3_init_55 : decode cX3_init 55 = .ok (.newarray .int, 2) := by decide +kernel
theorem dX3_init_57 : decode cX3_init 57 = .ok (.putfield 30, 3) := by decide +kernel
theorem dX3_init_60 : decode cX3_init 60 = .ok (.aload_n 0, 1) := by decide +kernel
theorem dX3_init_61 : decode cX3_init 61 = .ok (.bipush 7, 2) := by decide +kernel
theorem dX3_init_63 : decode cX3_init 63 = .ok (.newarray .int, 2) := by decide +kernel
theorem dX3_init_65 : decode cX3_init 65 = .ok (.putfield 33, 3) := by decide +kernel
theorem dX3_init_68 : decode cX3_init 68 = .ok (.aload_n 0, 1) := by decide +kernel
theorem dX3_init_69 : decode cX3_init 69 = .ok (.bipush 12, 2) := by decide +kernel
theorem dX3_init_71 : decode cX3_init 71 = .ok (.newarray .int, 2) := by decide +kernel
theorem dX3_init_73 : decode cX3_init 73 = .ok (.putfield 36, 3) := by decide +kernel
theorem dX3_init_76 : decode cX3_init 76 = .ok (.return_, 1) := by decide +kernel
theorem dX3_become_0 : decode cX3_become 0 = .ok (.aload_n 1, 1) := by decide +kernel
theorem dX3_become_1 : decode cX3_become 1 = .ok (.getfield 9, 3) := by decide +kernel
theorem dX3_become_4 : decode cX3_become 4 = .ok (.aload_n 0, 1) := by decide +kernel
theorem dX3_become_5 : decode cX3_become 5 = .ok (.getfield 9, 3) := by decide +kernel
theorem dX3_become_8 : decode cX3_become 8 = .ok (.invokestatic 39, 3) := by decide +kernel
theorem dX3_become_11 : decode cX3_become 11 = .ok (.aload_n 1, 1) := by decide +kernel
theorem dX3_become_12 : decode cX3_become 12 = .ok (.getfield 15, 3) := by decide +kernel
theorem dX3_become_15 : decode cX3_become 15 = .ok (.aload_n 0, 1) := by decide +kernel
theorem dX3_become_16 : decode cX3_become 16 = .ok (.getfield 15, 3) := by decide +kernel
theorem dX3_become_19 : decode cX3_become 19 = .ok (.invokestatic 39, 3) := by decide +kernel
theorem dX3_become_22 : decode cX3_become 22 = .ok (.aload_n 1, 1) := by decide +kernel
theorem dX3_become_23 : decode cX3_become 23 = .ok (.getfield 18, 3) := by decide +kernel
theorem dX3_become_26 : decode cX3_become 26 = .ok (.aload_n 0, 1) := by decide +kernel
theorem dX3_become_27 : decode cX3_become 27 = .ok (.getfield 18, 3) := by decide +kernel
theorem dX3_become_30 : decode cX3_become 30 = .ok (.invokestatic 39, 3) := by decide +kernel
theorem dX3_become_33 : decode cX3_become 33 = .ok (.aload_n 1, 1) := by decide +kernel
theorem dX3_become_34 : decode cX3_become 34 = .ok (.getfield 21, 3) := by decide +kernel
theorem dX3_become_37 : decode cX3_become 37 = .ok (.aload_n 0, 1) := by decide +kernel
theorem dX3_become_38 : decode cX3_become 38 = .ok (.getfield 21, 3) := by decide +kernel
theorem dX3_become_41 : decode cX3_become 41 = .ok (.invokestatic 39, 3) := by decide +kernel
theorem dX3_become_44 : decode cX3_become 44 = .ok (.aload_n 1, 1) := by decide +kernel
theorem dX3_become_45 : decode cX3_become 45 = .ok (.getfield 24, 3) := by decide +kernel
theorem dX3_become_48 : decode cX3_become 48 = .ok (.aload_n 0, 1) := by decide +kernel
theorem dX3_become_49 : decode cX3_become 49 = .ok (.getfield 24, 3) := by decide +kernel
theorem dX3_become_52 : decode cX3_become 52 = .ok (.invokestatic 39, 3) := by decide +kernel
theorem dX3_become_55 : decode cX3_become 55 = .ok (.aload_n 1, 1) := by decide +kernel
theorem dX3_become_56 : decode cX3_become 56 = .ok (.getfield 27, 3) := by decide +kernel
theorem dX3_become_59 : decode cX3_become 59 = .ok (.aload_n 0, 1) := by decide +kernel
theorem dX3_become_60 : decode cX3_become 60 = .ok (.getfield 27, 3) := by decide +kernel
theorem dX3_become_63 : decode cX3_become 63 = .ok (.invokestatic 39, 3) := by decide +kernel
theorem dX3_become_66 : decode cX3_become 66 = .ok (.aload_n 1, 1) := by decide +kernel
theorem dX3_become_67 : decode cX3_become 67 = .ok (.getfield 30, 3) := by decide +kernel
theorem dX3_become_70 : decode cX3_become 70 = .ok (.aload_n 0, 1) := by decide +kernel
theorem dX3_become_71 : decode cX3_become 71 = .ok (.getfield 30, 3) := by decide +kernel
theorem dX3_become_74 : decode cX3_become 74 = .ok (.invokestatic 39, 3) := by decide +kernel
theorem dX3_become_77 : decode cX3_become 77 = .ok (.aload_n 1, 1) := by decide +kernel
theorem dX3_become_78 : decode cX3_become 78 = .ok (.getfield 33, 3) := by decide +kernel
theorem dX3_become_81 : decode cX3_become 81 = .ok (.aload_n 0, 1) := by decide +kernel
theorem dX3_become_82 : decode cX3_become 82 = .ok (.getfield 33, 3) := by decide +kernel
theorem dX3_become_85 : decode cX3_become 85 = .ok (.invokestatic 39, 3) := by decide +kernel
theorem dX3_become_88 : decode cX3_become 88 = .ok (.aload_n 1, 1) := by decide +kernel
theorem dX3_become_89 : decode cX3_become 89 = .ok (.getfield 36, 3) := by decide +kernel
theorem dX3_become_92 : decode cX3_become 92 = .ok (.aload_n 0, 1) := by decide +kernel
theorem dX3_become_93 : decode cX3_become 93 = .ok (.getfield 36, 3) := by decide +kernel
theorem dX3_become_96 : decode cX3_become 96 = .ok (.invokestatic 39, 3) := by decide +kernel
theorem dX3_become_99 : decode cX3_become 99 = .ok (.aload_n 0, 1) := by decide +kernel
theorem dX3_become_100 : decode cX3_become 100 = .ok (.aload_n 1, 1) := by decide +kernel
theorem dX3_become_101 : decode cX3_become 101 = .ok (.getfield 43, 3) := by decide +kernel
theorem dX3_become_104 : decode cX3_become 104 = .ok (.putfield 43, 3) := by decide +kernel
theorem dX3_become_107 : decode cX3_become 107 = .ok (.aload_n 0, 1) := by decide +kernel
theorem dX3_become_108 : decode cX3_become 108 = .ok (.aload_n 1, 1) := by decide +kernel
theorem dX3_become_109 : decode cX3_become 109 = .ok (.getfield 47, 3) := by decide +kernel
theorem dX3_become_112 : decode cX3_become 112 = .ok (.putfield 47, 3) := by decide +kernel
theorem dX3_become_115 : decode cX3_become 115 = .ok (.aload_n 0, 1) := by decide +kernel
theorem dX3_become_116 : decode cX3_become 116 = .ok (.aload_n 1, 1) := by decide +kernel
theorem dX3_become_117 : decode cX3_become 117 = .ok (.getfield 51, 3) := by decide +kernel
theorem dX3_become_120 : decode cX3_become 120 = .ok (.putfield 51, 3) := by decide +kernel
theorem dX3_become_123 : decode cX3_become 123 = .ok (.return_, 1) := by decide +kernel
theorem dX3_copyAll_0 : decode cX3_copyAll 0 = .ok (.aload_n 0, 1) := by decide +kernel
theorem dX3_copyAll_1 : decode cX3_copyAll 1 = .ok (.iconst 0, 1) := by decide +kernel
theorem dX3_copyAll_2 : decode cX3_copyAll 2 = .ok (.aload_n 1, 1) := by decide +kernel
theorem dX3_copyAll_3 : decode cX3_copyAll 3 = .ok (.iconst 0, 1) := by decide +kernel
theorem dX3_copyAll_4 : decode cX3_copyAll 4 = .ok (.aload_n 0, 1) := by decide +kernel
theorem dX3_copyAll_5 : decode cX3_copyAll 5 = .ok (.arraylength, 1) := by decide +kernel
theorem dX3_copyAll_6 : decode cX3_copyAll 6 = .ok (.aload_n 1, 1) := by decide +kernel
theorem dX3_copyAll_7 : decode cX3_copyAll 7 = .ok (.arraylength, 1) := by decide +kernel
theorem dX3_copyAll_8 : decode cX3_copyAll 8 = .ok (.invokestatic 54, 3) := by decide +kernel
theorem dX3_copyAll_11 : decode cX3_copyAll 11 = .ok (.invokestatic 60, 3) := by decide +kernel
theorem dX3_copyAll_14 : decode cX3_copyAll 14 = .ok (.return_, 1) := by decide +kernel
theorem dX3_beginAnew_0 : decode cX3_beginAnew 0 = .ok (.aload_n 0, 1) := by decide +kernel
theorem dX3_beginAnew_1 : decode cX3_beginAnew 1 = .ok (.getfield 27, 3) := by decide +kernel
theorem dX3_beginAnew_4 : decode cX3_beginAnew 4 = .ok (.ldc 66, 2) := by decide +kernel
theorem dX3_beginAnew_6 : decode cX3_beginAnew 6 = .ok (.invokestatic 67, 3) := by decide +kernel
theorem dX3_beginAnew_9 : decode cX3_beginAnew 9 = .ok (.aload_n 0, 1) := by decide +kernel
theorem dX3_beginAnew_10 : decode cX3_beginAnew 10 = .ok (.getfield 30, 3) := by decide +kernel
theorem dX3_beginAnew_13 : decode cX3_beginAnew 13 = .ok (.iconst 0, 1) := by decide +kernel
theorem dX3_beginAnew_14 : decode cX3_beginAnew 14 = .ok (.invokestatic 67, 3) := by decide +kernel
theorem dX3_beginAnew_17 : decode cX3_beginAnew 17 = .ok (.aload_n 0, 1) := by decide +kernel
theorem dX3_beginAnew_18 : decode cX3_beginAnew 18 = .ok (.getfield 36, 3) := by decide +kernel
theorem dX3_beginAnew_21 : decode cX3_beginAnew 21 = .ok (.iconst (-1), 1) := by decide +kernel
theorem dX3_beginAnew_22 : decode cX3_beginAnew 22 = .ok (.invokestatic 67, 3) := by decide +kernel
theorem dX3_beginAnew_25 : decode cX3_beginAnew 25 = .ok (.aload_n 0, 1) := by decide +kernel
theorem dX3_beginAnew_26 : decode cX3_beginAnew 26 = .ok (.iconst 0, 1) := by decide +kernel
theorem dX3_beginAnew_27 : decode cX3_beginAnew 27 = .ok (.putfield 51, 3) := by decide +kernel
theorem dX3_beginAnew_30 : decode cX3_beginAnew 30 = .ok (.return_, 1) := by decide +kernel
theorem dX3_runDay_0 : decode cX3_runDay 0 = .ok (.aload_n 0, 1) := by decide +kernel
theorem dX3_runDay_1 : decode cX3_runDay 1 = .ok (.invokevirtual 73, 3) := by decide +kernel
theorem dX3_runDay_4 : decode cX3_runDay 4 = .ok (.iconst 1, 1) := by decide +kernel
theorem dX3_runDay_5 : decode cX3_runDay 5 = .ok (.aload_n 0, 1) := by decide +kernel
theorem dX3_runDay_6 : decode cX3_runDay 6 = .ok (.getfield 47, 3) := by decide +kernel
theorem dX3_runDay_9 : decode cX3_runDay 9 = .ok (.ishl, 1) := by decide +kernel
theorem dX3_runDay_10 : decode cX3_runDay 10 = .ok (.iconst 1, 1) := by decide +kernel
theorem dX3_runDay_11 : decode cX3_runDay 11 = .ok (.isub, 1) := by decide +kernel
theorem dX3_runDay_12 : decode cX3_runDay 12 = .ok (.istore_n 1, 1) := by decide +kernel
theorem dX3_runDay_13 : decode cX3_runDay 13 = .ok (.iconst 0, 1) := by decide +kernel
theorem dX3_runDay_14 : decode cX3_runDay 14 = .ok (.istore_n 2, 1) := by decide +kernel
theorem dX3_runDay_15 : decode cX3_runDay 15 = .ok (.iconst 0, 1) := by decide +kernel
theorem dX3_runDay_16 : decode cX3_runDay 16 = .ok (.istore_n 3, 1) := by decide +kernel
theorem dX3_runDay_17 : decode cX3_runDay 17 = .ok (.iload_n 3, 1) := by decide +kernel
theorem dX3_runDay_18 : decode cX3_runDay 18 = .ok (.bipush 12, 2) := by decide +kernel
theorem dX3_runDay_20 : decode cX3_runDay 20 = .ok (.if_icmp .ge 21, 3) := by decide +kernel
theorem dX3_runDay_23 : decode cX3_runDay 23 = .ok (.iload_n 2, 1) := by decide +kernel
theorem dX3_runDay_24 : decode cX3_runDay 24 = .ok (.iload_n 1, 1) := by decide +kernel
theorem dX3_runDay_25 : decode cX3_runDay 25 = .ok (.if_icmp .eq 16, 3) := by decide +kernel
theorem dX3_runDay_28 : decode cX3_runDay 28 = .ok (.iload_n 2, 1) := by decide +kernel
theorem dX3_runDay_29 : decode cX3_runDay 29 = .ok (.aload_n 0, 1) := by decide +kernel
theorem dX3_runDay_30 : decode cX3_runDay 30 = .ok (.invokevirtual 76, 3) := by decide +kernel
theorem dX3_runDay_33 : decode cX3_runDay 33 = .ok (.ior, 1) := by decide +kernel
theorem dX3_runDay_34 : decode cX3_runDay 34 = .ok (.istore_n 2, 1) := by decide +kernel
theorem dX3_runDay_35 : decode cX3_runDay 35 = .ok (.iinc 3 1, 3) := by decide +kernel
theorem dX3_runDay_38 : decode cX3_runDay 38 = .ok (.goto (-21), 3) := by decide +kernel
theorem dX3_runDay_41 : decode cX3_runDay 41 = .ok (.return_, 1) := by decide +kernel
theorem dX3_goBy_0 : decode cX3_goBy 0 = .ok (.aload_n 0, 1) := by decide +kernel
theorem dX3_goBy_1 : decode cX3_goBy 1 = .ok (.getfield 51, 3) := by decide +kernel
theorem dX3_goBy_4 : decode cX3_goBy 4 = .ok (.invokestatic 80, 3) := by decide +kernel
theorem dX3_goBy_7 : decode cX3_goBy 7 = .ok (.ifCond .ne 5, 3) := by decide +kernel
theorem dX3_goBy_10 : decode cX3_goBy 10 = .ok (.iconst 0, 1) := by decide +kernel
theorem dX3_goBy_11 : decode cX3_goBy 11 = .ok (.ireturn, 1) := by decide +kernel
theorem dX3_goBy_12 : decode cX3_goBy 12 = .ok (.aload_n 0, 1) := by decide +kernel
theorem dX3_goBy_13 : decode cX3_goBy 13 = .ok (.invokevirtual 84, 3) := by decide +kernel
theorem dX3_goBy_16 : decode cX3_goBy 16 = .ok (.istore_n 1, 1) := by decide +kernel
theorem dX3_goBy_17 : decode cX3_goBy 17 = .ok (.aload_n 0, 1) := by decide +kernel
theorem dX3_goBy_18 : decode cX3_goBy 18 = .ok (.iload_n 1, 1) := by decide +kernel
theorem dX3_goBy_19 : decode cX3_goBy 19 = .ok (.invokevirtual 87, 3) := by decide +kernel
theorem dX3_goBy_22 : decode cX3_goBy 22 = .ok (.istore_n 2, 1) := by decide +kernel
theorem dX3_goBy_23 : decode cX3_goBy 23 = .ok (.iconst 0, 1) := by decide +kernel
theorem dX3_goBy_24 : decode cX3_goBy 24 = .ok (.istore_n 3, 1) := by decide +kernel
theorem dX3_goBy_25 : decode cX3_goBy 25 = .ok (.iload_n 2, 1) := by decide +kernel
theorem dX3_goBy_26 : decode cX3_goBy 26 = .ok (.ifCond .eq 49, 3) := by decide +kernel
theorem dX3_goBy_29 : decode cX3_goBy 29 = .ok (.iload_n 2, 1) := by decide +kernel
theorem dX3_goBy_30 : decode cX3_goBy 30 = .ok (.aload_n 0, 1) := by decide +kernel
theorem dX3_goBy_31 : decode cX3_goBy 31 = .ok (.iload_n 1, 1) := by decide +kernel
theorem dX3_goBy_32 : decode cX3_goBy 32 = .ok (.invokevirtual 91, 3) := by decide +kernel
theorem dX3_goBy_35 : decode cX3_goBy 35 = .ok (.ior, 1) := by decide +kernel
theorem dX3_goBy_36 : decode cX3_goBy 36 = .ok (.istore_n 3, 1) := by decide +kernel
theorem dX3_goBy_37 : decode cX3_goBy 37 = .ok (.aload_n 0, 1) := by decide +kernel
theorem dX3_goBy_38 : decode cX3_goBy 38 = .ok (.iload_n 2, 1) := by decide +kernel
theorem dX3_goBy_39 : decode cX3_goBy 39 = .ok (.invokevirtual 94, 3) := by decide +kernel
theorem dX3_goBy_42 : decode cX3_goBy 42 = .ok (.istore 4, 2) := by decide +kernel
theorem dX3_goBy_44 : decode cX3_goBy 44 = .ok (.aload_n 0, 1) := by decide +kernel
theorem dX3_goBy_45 : decode cX3_goBy 45 = .ok (.getfield 36, 3) := by decide +kernel
theorem dX3_goBy_48 : decode cX3_goBy 48 = .ok (.aload_n 0, 1) := by decide +kernel
theorem dX3_goBy_49 : decode cX3_goBy 49 = .ok (.getfield 51, 3) := by decide +kernel
theorem dX3_goBy_52 : decode cX3_goBy 52 = .ok (.iload 4, 2) := by decide +kernel
theorem dX3_goBy_54 : decode cX3_goBy 54 = .ok (.iastore, 1) := by decide +kernel
theorem dX3_goBy_55 : decode cX3_goBy 55 = .ok (.aload_n 0, 1) := by decide +kernel
theorem dX3_goBy_56 : decode cX3_goBy 56 = .ok (.getfield 30, 3) := by decide +kernel
theorem dX3_goBy_59 : decode cX3_goBy 59 = .ok (.iload 4, 2) := by decide +kernel
theorem dX3_goBy_61 : decode cX3_goBy 61 = .ok (.aload_n 0, 1) := by decide +kernel
theorem dX3_goBy_62 : decode cX3_goBy 62 = .ok (.iload_n 3, 1) := by decide +kernel
theorem dX3_goBy_63 : decode cX3_goBy 63 = .ok (.invokestatic 97, 3) := by decide +kernel
theorem dX3_goBy_66 : decode cX3_goBy 66 = .ok (.invokevirtual 102, 3) := by decide +kernel
theorem dX3_goBy_69 : decode cX3_goBy 69 = .ok (.iastore, 1) := by decide +kernel
theorem dX3_goBy_70 : decode cX3_goBy 70 = .ok (.aload_n 0, 1) := by decide +kernel
theorem dX3_goBy_71 : decode cX3_goBy 71 = .ok (.iload_n 3, 1) := by decide +kernel
theorem dX3_goBy_72 : decode cX3_goBy 72 = .ok (.invokevirtual 105, 3) := by decide +kernel
theorem dX3_goBy_75 : decode cX3_goBy 75 = .ok (.aload_n 0, 1) := by decide +kernel
theorem dX3_goBy_76 : decode cX3_goBy 76 = .ok (.dup, 1) := by decide +kernel
theorem dX3_goBy_77 : decode cX3_goBy 77 = .ok (.getfield 51, 3) := by decide +kernel
theorem dX3_goBy_80 : decode cX3_goBy 80 = .ok (.iconst 1, 1) := by decide +kernel
theorem dX3_goBy_81 : decode cX3_goBy 81 = .ok (.iadd, 1) := by decide +kernel
theorem dX3_goBy_82 : decode cX3_goBy 82 = .ok (.putfield 51, 3) := by decide +kernel
theorem dX3_goBy_85 : decode cX3_goBy 85 = .ok (.iload_n 3, 1) := by decide +kernel
theorem dX3_goBy_86 : decode cX3_goBy 86 = .ok (.ireturn, 1) := by decide +kernel
theorem dX3_goBack_0 : decode cX3_goBack 0 = .ok (.aload_n 0, 1) := by decide +kernel
theorem dX3_goBack_1 : decode cX3_goBack 1 = .ok (.getfield 51, 3) := by decide +kernel
theorem dX3_goBack_4 : decode cX3_goBack 4 = .ok (.ifCond .ne 4, 3) := by decide +kernel
theorem dX3_goBack_7 : decode cX3_goBack 7 = .ok (.return_, 1) := by decide +kernel
theorem dX3_goBack_8 : decode cX3_goBack 8 = .ok (.aload_n 0, 1) := by decide +kernel
theorem dX3_goBack_9 : decode cX3_goBack 9 = .ok (.dup, 1) := by decide +kernel
theorem dX3_goBack_10 : decode cX3_goBack 10 = .ok (.getfield 51, 3) := by decide +kernel
theorem dX3_goBack_13 : decode cX3_goBack 13 = .ok (.iconst 1, 1) := by decide +kernel
theorem dX3_goBack_14 : decode cX3_goBack 14 = .ok (.isub, 1) := by decide +kernel
theorem dX3_goBack_15 : decode cX3_goBack 15 = .ok (.putfield 51, 3) := by decide +kernel
theorem dX3_goBack_18 : decode cX3_goBack 18 = .ok (.aload_n 0, 1) := by decide +kernel
theorem dX3_goBack_19 : decode cX3_goBack 19 = .ok (.getfield 36, 3) := by decide +kernel
theorem dX3_goBack_22 : decode cX3_goBack 22 = .ok (.aload_n 0, 1) := by decide +kernel
theorem dX3_goBack_23 : decode cX3_goBack 23 = .ok (.getfield 51, 3) := by decide +kernel
theorem dX3_goBack_26 : decode cX3_goBack 26 = .ok (.iconst (-1), 1) := by decide +kernel
theorem dX3_goBack_27 : decode cX3_goBack 27 = .ok (.iastore, 1) := by decide +kernel
theorem dX3_goBack_28 : decode cX3_goBack 28 = .ok (.iconst 0, 1) := by decide +kernel
theorem dX3_goBack_29 : decode cX3_goBack 29 = .ok (.istore_n 1, 1) := by decide +kernel
theorem dX3_goBack_30 : decode cX3_goBack 30 = .ok (.iload_n 1, 1) := by decide +kernel
theorem dX3_goBack_31 : decode cX3_goBack 31 = .ok (.aload_n 0, 1) := by decide +kernel
theorem dX3_goBack_32 : decode cX3_goBack 32 = .ok (.getfield 47, 3) := by decide +kernel
theorem dX3_goBack_35 : decode cX3_goBack 35 = .ok (.if_icmp .ge 37, 3) := by decide +kernel
theorem dX3_goBack_38 : decode cX3_goBack 38 = .ok (.aload_n 0, 1) := by decide +kernel
theorem dX3_goBack_39 : decode cX3_goBack 39 = .ok (.getfield 27, 3) := by decide +kernel
theorem dX3_goBack_42 : decode cX3_goBack 42 = .ok (.iload_n 1, 1) := by decide +kernel
theorem dX3_goBack_43 : decode cX3_goBack 43 = .ok (.iaload, 1) := by decide +kernel
theorem dX3_goBack_44 : decode cX3_goBack 44 = .ok (.aload_n 0, 1) := by decide +kernel
theorem dX3_goBack_45 : decode cX3_goBack 45 = .ok (.getfield 51, 3) := by decide +kernel
theorem dX3_goBack_48 : decode cX3_goBack 48 = .ok (.if_icmp .ne 18, 3) := by decide +kernel
theorem dX3_goBack_51 : decode cX3_goBack 51 = .ok (.aload_n 0, 1) := by decide +kernel
theorem dX3_goBack_52 : decode cX3_goBack 52 = .ok (.getfield 27, 3) := by decide +kernel
theorem dX3_goBack_55 : decode cX3_goBack 55 = .ok (.iload_n 1, 1) := by decide +kernel
theorem dX3_goBack_56 : decode cX3_goBack 56 = .ok (.ldc 66, 2) := by decide +kernel
theorem dX3_goBack_58 : decode cX3_goBack 58 = .ok (.iastore, 1) := by decide +kernel
theorem dX3_goBack_59 : decode cX3_goBack 59 = .ok (.aload_n 0, 1) := by decide +kernel
theorem dX3_goBack_60 : decode cX3_goBack 60 = .ok (.getfield 30, 3) := by decide +kernel
theorem dX3_goBack_63 : decode cX3_goBack 63 = .ok (.iload_n 1, 1) := by decide +kernel
theorem dX3_goBack_64 : decode cX3_goBack 64 = .ok (.iconst 0, 1) := by decide +kernel
theorem dX3_goBack_65 : decode cX3_goBack 65 = .ok (.iastore, 1) := by decide +kernel
theorem dX3_goBack_66 : decode cX3_goBack 66 = .ok (.iinc 1 1, 3) := by decide +kernel
theorem dX3_goBack_69 : decode cX3_goBack 69 = .ok (.goto (-39), 3) := by decide +kernel
theorem dX3_goBack_72 : decode cX3_goBack 72 = .ok (.return_, 1) := by decide +kernel
theorem dX3_standing_0 : decode cX3_standing 0 = .ok (.iconst 0, 1) := by decide +kernel
theorem dX3_standing_1 : decode cX3_standing 1 = .ok (.istore_n 1, 1) := by decide +kernel
theorem dX3_standing_2 : decode cX3_standing 2 = .ok (.iconst 0, 1) := by decide +kernel
theorem dX3_standing_3 : decode cX3_standing 3 = .ok (.istore_n 2, 1) := by decide +kernel
theorem dX3_standing_4 : decode cX3_standing 4 = .ok (.iload_n 2, 1) := by decide +kernel
theorem dX3_standing_5 : decode cX3_standing 5 = .ok (.aload_n 0, 1) := by decide +kernel
theorem dX3_standing_6 : decode cX3_standing 6 = .ok (.getfield 47, 3) := by decide +kernel
theorem dX3_standing_9 : decode cX3_standing 9 = .ok (.if_icmp .ge 39, 3) := by decide +kernel
theorem dX3_standing_12 : decode cX3_standing 12 = .ok (.aload_n 0, 1) := by decide +kernel
theorem dX3_standing_13 : decode cX3_standing 13 = .ok (.getfield 18, 3) := by decide +kernel
theorem dX3_standing_16 : decode cX3_standing 16 = .ok (.iload_n 2, 1) := by decide +kernel
theorem dX3_standing_17 : decode cX3_standing 17 = .ok (.iaload, 1) := by decide +kernel
theorem dX3_standing_18 : decode cX3_standing 18 = .ok (.aload_n 0, 1) := by decide +kernel
theorem dX3_standing_19 : decode cX3_standing 19 = .ok (.getfield 51, 3) := by decide +kernel
theorem dX3_standing_22 : decode cX3_standing 22 = .ok (.if_icmp .gt 20, 3) := by decide +kernel
theorem dX3_standing_25 : decode cX3_standing 25 = .ok (.aload_n 0, 1) := by decide +kernel
theorem dX3_standing_26 : decode cX3_standing 26 = .ok (.getfield 27, 3) := by decide +kernel
theorem dX3_standing_29 : decode cX3_standing 29 = .ok (.iload_n 2, 1) := by decide +kernel
theorem dX3_standing_30 : decode cX3_standing 30 = .ok (.iaload, 1) := by decide +kernel
theorem dX3_standing_31 : decode cX3_standing 31 = .ok (.ldc 66, 2) := by decide +kernel
theorem dX3_standing_33 : decode cX3_standing 33 = .ok (.if_icmp .ne 9, 3) := by decide +kernel
theorem dX3_standing_36 : decode cX3_standing 36 = .ok (.iload_n 1, 1) := by decide +kernel
theorem dX3_standing_37 : decode cX3_standing 37 = .ok (.iconst 1, 1) := by decide +kernel
theorem dX3_standing_38 : decode cX3_standing 38 = .ok (.iload_n 2, 1) := by decide +kernel
theorem dX3_standing_39 : decode cX3_standing 39 = .ok (.ishl, 1) := by decide +kernel
theorem dX3_standing_40 : decode cX3_standing 40 = .ok (.ior, 1) := by decide +kernel
theorem dX3_standing_41 : decode cX3_standing 41 = .ok (.istore_n 1, 1) := by decide +kernel
theorem dX3_standing_42 : decode cX3_standing 42 = .ok (.iinc 2 1, 3) := by decide +kernel
theorem dX3_standing_45 : decode cX3_standing 45 = .ok (.goto (-41), 3) := by decide +kernel
theorem dX3_standing_48 : decode cX3_standing 48 = .ok (.iload_n 1, 1) := by decide +kernel
theorem dX3_standing_49 : decode cX3_standing 49 = .ok (.ireturn, 1) := by decide +kernel
theorem dX3_readyOf_0 : decode cX3_readyOf 0 = .ok (.aload_n 0, 1) := by decide +kernel
theorem dX3_readyOf_1 : decode cX3_readyOf 1 = .ok (.getfield 51, 3) := by decide +kernel
theorem dX3_readyOf_4 : decode cX3_readyOf 4 = .ok (.bipush 11, 2) := by decide +kernel
theorem dX3_readyOf_6 : decode cX3_readyOf 6 = .ok (.if_icmp .ne 5, 3) := by decide +kernel
theorem dX3_readyOf_9 : decode cX3_readyOf 9 = .ok (.iload_n 1, 1) := by decide +kernel
theorem dX3_readyOf_10 : decode cX3_readyOf 10 = .ok (.ireturn, 1) := by decide +kernel
theorem dX3_readyOf_11 : decode cX3_readyOf 11 = .ok (.iload_n 1, 1) := by decide +kernel
theorem dX3_readyOf_12 : decode cX3_readyOf 12 = .ok (.invokestatic 97, 3) := by decide +kernel
theorem dX3_readyOf_15 : decode cX3_readyOf 15 = .ok (.iconst 3, 1) := by decide +kernel
theorem dX3_readyOf_16 : decode cX3_readyOf 16 = .ok (.if_icmp .lt 7, 3) := by decide +kernel
theorem dX3_readyOf_19 : decode cX3_readyOf 19 = .ok (.iconst 1, 1) := by decide +kernel
theorem dX3_readyOf_20 : decode cX3_readyOf 20 = .ok (.goto 4, 3) := by decide +kernel
theorem dX3_readyOf_23 : decode cX3_readyOf 23 = .ok (.iconst 0, 1) := by decide +kernel
theorem dX3_readyOf_24 : decode cX3_readyOf 24 = .ok (.istore_n 2, 1) := by decide +kernel
theorem dX3_readyOf_25 : decode cX3_readyOf 25 = .ok (.iconst 0, 1) := by decide +kernel
theorem dX3_readyOf_26 : decode cX3_readyOf 26 = .ok (.istore_n 3, 1) := by decide +kernel
theorem dX3_readyOf_27 : decode cX3_readyOf 27 = .ok (.iconst 0, 1) := by decide +kernel
theorem dX3_readyOf_28 : decode cX3_readyOf 28 = .ok (.istore 4, 2) := by decide +kernel
theorem dX3_readyOf_30 : decode cX3_readyOf 30 = .ok (.iload 4, 2) := by decide +kernel
theorem dX3_readyOf_32 : decode cX3_readyOf 32 = .ok (.aload_n 0, 1) := by decide +kernel
theorem dX3_readyOf_33 : decode cX3_readyOf 33 = .ok (.getfield 47, 3) := by decide +kernel
theorem dX3_readyOf_36 : decode cX3_readyOf 36 = .ok (.if_icmp .ge 35, 3) := by decide +kernel
theorem dX3_readyOf_39 : decode cX3_readyOf 39 = .ok (.iload_n 1, 1) := by decide +kernel
theorem dX3_readyOf_40 : decode cX3_readyOf 40 = .ok (.iload 4, 2) := by decide +kernel
theorem dX3_readyOf_42 : decode cX3_readyOf 42 = .ok (.ishr, 1) := by decide +kernel
theorem dX3_readyOf_43 : decode cX3_readyOf 43 = .ok (.iconst 1, 1) := by decide +kernel
theorem dX3_readyOf_44 : decode cX3_readyOf 44 = .ok (.iand, 1) := by decide +kernel
theorem dX3_readyOf_45 : decode cX3_readyOf 45 = .ok (.ifCond .eq 20, 3) := by decide +kernel
theorem dX3_readyOf_48 : decode cX3_readyOf 48 = .ok (.aload_n 0, 1) := by decide +kernel
theorem dX3_readyOf_49 : decode cX3_readyOf 49 = .ok (.iload 4, 2) := by decide +kernel
theorem dX3_readyOf_51 : decode cX3_readyOf 51 = .ok (.iload_n 2, 1) := by decide +kernel
theorem dX3_readyOf_52 : decode cX3_readyOf 52 = .ok (.invokevirtual 109, 3) := by decide +kernel
theorem dX3_readyOf_55 : decode cX3_readyOf 55 = .ok (.ifCond .eq 10, 3) := by decide +kernel
theorem dX3_readyOf_58 : decode cX3_readyOf 58 = .ok (.iload_n 3, 1) := by decide +kernel
theorem dX3_readyOf_59 : decode cX3_readyOf 59 = .ok (.iconst 1, 1) := by decide +kernel
theorem dX3_readyOf_60 : decode cX3_readyOf 60 = .ok (.iload 4, 2) := by decide +kernel
theorem dX3_readyOf_62 : decode cX3_readyOf 62 = .ok (.ishl, 1) := by decide +kernel
theorem dX3_readyOf_63 : decode cX3_readyOf 63 = .ok (.ior, 1) := by decide +kernel
theorem dX3_readyOf_64 : decode cX3_readyOf 64 = .ok (.istore_n 3, 1) := by decide +kernel
theorem dX3_readyOf_65 : decode cX3_readyOf 65 = .ok (.iinc 4 1, 3) := by decide +kernel
theorem dX3_readyOf_68 : decode cX3_readyOf 68 = .ok (.goto (-38), 3) := by decide +kernel
theorem dX3_readyOf_71 : decode cX3_readyOf 71 = .ok (.iload_n 3, 1) := by decide +kernel
theorem dX3_readyOf_72 : decode cX3_readyOf 72 = .ok (.ireturn, 1) := by decide +kernel
theorem dX3_isReady_0 : decode cX3_isReady 0 = .ok (.aload_n 0, 1) := by decide +kernel
theorem dX3_isReady_1 : decode cX3_isReady 1 = .ok (.getfield 51, 3) := by decide +kernel
theorem dX3_isReady_4 : decode cX3_isReady 4 = .ok (.aload_n 0, 1) := by decide +kernel
theorem dX3_isReady_5 : decode cX3_isReady 5 = .ok (.getfield 18, 3) := by decide +kernel
theorem dX3_isReady_8 : decode cX3_isReady 8 = .ok (.iload_n 1, 1) := by decide +kernel
theorem dX3_isReady_9 : decode cX3_isReady 9 = .ok (.iaload, 1) := by decide +kernel
theorem dX3_isReady_10 : decode cX3_isReady 10 = .ok (.aload_n 0, 1) := by decide +kernel
theorem dX3_isReady_11 : decode cX3_isReady 11 = .ok (.getfield 24, 3) := by decide +kernel
theorem dX3_isReady_14 : decode cX3_isReady 14 = .ok (.iload_n 1, 1) := by decide +kernel
theorem dX3_isReady_15 : decode cX3_isReady 15 = .ok (.iaload, 1) := by decide +kernel
theorem dX3_isReady_16 : decode cX3_isReady 16 = .ok (.iadd, 1) := by decide +kernel
theorem dX3_isReady_17 : decode cX3_isReady 17 = .ok (.if_icmp .lt 7, 3) := by decide +kernel
theorem dX3_isReady_20 : decode cX3_isReady 20 = .ok (.iconst 1, 1) := by decide +kernel
theorem dX3_isReady_21 : decode cX3_isReady 21 = .ok (.goto 4, 3) := by decide +kernel
theorem dX3_isReady_24 : decode cX3_isReady 24 = .ok (.iconst 0, 1) := by decide +kernel
theorem dX3_isReady_25 : decode cX3_isReady 25 = .ok (.istore_n 3, 1) := by decide +kernel
theorem dX3_isReady_26 : decode cX3_isReady 26 = .ok (.aload_n 0, 1) := by decide +kernel
theorem dX3_isReady_27 : decode cX3_isReady 27 = .ok (.getfield 15, 3) := by decide +kernel
theorem dX3_isReady_30 : decode cX3_isReady 30 = .ok (.iload_n 1, 1) := by decide +kernel
theorem dX3_isReady_31 : decode cX3_isReady 31 = .ok (.iaload, 1) := by decide +kernel
theorem dX3_isReady_32 : decode cX3_isReady 32 = .ok (.tableswitch 50 2 5 #[36, 34, 50, 32], 32) := by decide +kernel
theorem dX3_isReady_64 : decode cX3_isReady 64 = .ok (.iconst 1, 1) := by decide +kernel
theorem dX3_isReady_65 : decode cX3_isReady 65 = .ok (.ireturn, 1) := by decide +kernel
theorem dX3_isReady_66 : decode cX3_isReady 66 = .ok (.iconst 0, 1) := by decide +kernel
theorem dX3_isReady_67 : decode cX3_isReady 67 = .ok (.ireturn, 1) := by decide +kernel
theorem dX3_isReady_68 : decode cX3_isReady 68 = .ok (.iload_n 3, 1) := by decide +kernel
theorem dX3_isReady_69 : decode cX3_isReady 69 = .ok (.ifCond .ne 7, 3) := by decide +kernel
theorem dX3_isReady_72 : decode cX3_isReady 72 = .ok (.iload_n 2, 1) := by decide +kernel
theorem dX3_isReady_73 : decode cX3_isReady 73 = .ok (.ifCond .eq 7, 3) := by decide +kernel
theorem dX3_isReady_76 : decode cX3_isReady 76 = .ok (.iconst 1, 1) := by decide +kernel
theorem dX3_isReady_77 : decode cX3_isReady 77 = .ok (.goto 4, 3) := by decide +kernel
theorem dX3_isReady_80 : decode cX3_isReady 80 = .ok (.iconst 0, 1) := by decide +kernel
theorem dX3_isReady_81 : decode cX3_isReady 81 = .ok (.ireturn, 1) := by decide +kernel
theorem dX3_isReady_82 : decode cX3_isReady 82 = .ok (.iload_n 3, 1) := by decide +kernel
theorem dX3_isReady_83 : decode cX3_isReady 83 = .ok (.ireturn, 1) := by decide +kernel
theorem dX3_followersOf_0 : decode cX3_followersOf 0 = .ok (.iconst 0, 1) := by decide +kernel
theorem dX3_followersOf_1 : decode cX3_followersOf 1 = .ok (.istore_n 2, 1) := by decide +kernel
theorem dX3_followersOf_2 : decode cX3_followersOf 2 = .ok (.iconst 0, 1) := by decide +kernel
theorem dX3_followersOf_3 : decode cX3_followersOf 3 = .ok (.istore_n 3, 1) := by decide +kernel
theorem dX3_followersOf_4 : decode cX3_followersOf 4 = .ok (.iload_n 3, 1) := by decide +kernel
theorem dX3_followersOf_5 : decode cX3_followersOf 5 = .ok (.aload_n 0, 1) := by decide +kernel
theorem dX3_followersOf_6 : decode cX3_followersOf 6 = .ok (.getfield 47, 3) := by decide +kernel
theorem dX3_followersOf_9 : decode cX3_followersOf 9 = .ok (.if_icmp .ge 45, 3) := by decide +kernel
theorem dX3_followersOf_12 : decode cX3_followersOf 12 = .ok (.aload_n 0, 1) := by decide +kernel
theorem dX3_followersOf_13 : decode cX3_followersOf 13 = .ok (.getfield 15, 3) := by decide +kernel
theorem dX3_followersOf_16 : decode cX3_followersOf 16 = .ok (.iload_n 3, 1) := by decide +kernel
theorem dX3_followersOf_17 : decode cX3_followersOf 17 = .ok (.iaload, 1) := by decide +kernel
theorem dX3_followersOf_18 : decode cX3_followersOf 18 = .ok (.iconst 1, 1) := by decide +kernel
theorem dX3_followersOf_19 : decode cX3_followersOf 19 = .ok (.if_icmp .eq 23, 3) := by decide +kernel
theorem dX3_followersOf_22 : decode cX3_followersOf 22 = .ok (.aload_n 0, 1) := by decide +kernel
theorem dX3_followersOf_23 : decode cX3_followersOf 23 = .ok (.getfield 15, 3) := by decide +kernel
theorem dX3_followersOf_26 : decode cX3_followersOf 26 = .ok (.iload_n 3, 1) := by decide +kernel
theorem dX3_followersOf_27 : decode cX3_followersOf 27 = .ok (.iaload, 1) := by decide +kernel
theorem dX3_followersOf_28 : decode cX3_followersOf 28 = .ok (.iconst 2, 1) := by decide +kernel
theorem dX3_followersOf_29 : decode cX3_followersOf 29 = .ok (.if_icmp .eq 13, 3) := by decide +kernel
theorem dX3_followersOf_32 : decode cX3_followersOf 32 = .ok (.aload_n 0, 1) := by decide +kernel
theorem dX3_followersOf_33 : decode cX3_followersOf 33 = .ok (.getfield 15, 3) := by decide +kernel
theorem dX3_followersOf_36 : decode cX3_followersOf 36 = .ok (.iload_n 3, 1) := by decide +kernel
theorem dX3_followersOf_37 : decode cX3_followersOf 37 = .ok (.iaload, 1) := by decide +kernel
theorem dX3_followersOf_38 : decode cX3_followersOf 38 = .ok (.iconst 3, 1) := by decide +kernel
theorem dX3_followersOf_39 : decode cX3_followersOf 39 = .ok (.if_icmp .ne 9, 3) := by decide +kernel
theorem dX3_followersOf_42 : decode cX3_followersOf 42 = .ok (.iload_n 2, 1) := by decide +kernel
theorem dX3_followersOf_43 : decode cX3_followersOf 43 = .ok (.iconst 1, 1) := by decide +kernel
theorem dX3_followersOf_44 : decode cX3_followersOf 44 = .ok (.iload_n 3, 1) := by decide +kernel
theorem dX3_followersOf_45 : decode cX3_followersOf 45 = .ok (.ishl, 1) := by decide +kernel
theorem dX3_followersOf_46 : decode cX3_followersOf 46 = .ok (.ior, 1) := by decide +kernel
theorem dX3_followersOf_47 : decode cX3_followersOf 47 = .ok (.istore_n 2, 1) := by decide +kernel
theorem dX3_followersOf_48 : decode cX3_followersOf 48 = .ok (.iinc 3 1, 3) := by decide +kernel
theorem dX3_followersOf_51 : decode cX3_followersOf 51 = .ok (.goto (-47), 3) := by decide +kernel
theorem dX3_followersOf_54 : decode cX3_followersOf 54 = .ok (.iload_n 2, 1) := by decide +kernel
theorem dX3_followersOf_55 : decode cX3_followersOf 55 = .ok (.iload_n 1, 1) := by decide +kernel
theorem dX3_followersOf_56 : decode cX3_followersOf 56 = .ok (.iand, 1) := by decide +kernel
theorem dX3_followersOf_57 : decode cX3_followersOf 57 = .ok (.ireturn, 1) := by decide +kernel
theorem dX3_foremostOf_0 : decode cX3_foremostOf 0 = .ok (.iconst 0, 1) := by decide +kernel
theorem dX3_foremostOf_1 : decode cX3_foremostOf 1 = .ok (.istore_n 2, 1) := by decide +kernel
theorem dX3_foremostOf_2 : decode cX3_foremostOf 2 = .ok (.iconst 0, 1) := by decide +kernel
theorem dX3_foremostOf_3 : decode cX3_foremostOf 3 = .ok (.istore_n 3, 1) := by decide +kernel
theorem dX3_foremostOf_4 : decode cX3_foremostOf 4 = .ok (.iconst 0, 1) := by decide +kernel
theorem dX3_foremostOf_5 : decode cX3_foremostOf 5 = .ok (.istore 4, 2) := by decide +kernel
theorem dX3_foremostOf_7 : decode cX3_foremostOf 7 = .ok (.iload 4, 2) := by decide +kernel
theorem dX3_foremostOf_9 : decode cX3_foremostOf 9 = .ok (.aload_n 0, 1) := by decide +kernel
theorem dX3_foremostOf_10 : decode cX3_foremostOf 10 = .ok (.getfield 47, 3) := by decide +kernel
theorem dX3_foremostOf_13 : decode cX3_foremostOf 13 = .ok (.if_icmp .ge 37, 3) := by decide +kernel
theorem dX3_foremostOf_16 : decode cX3_foremostOf 16 = .ok (.iload_n 1, 1) := by decide +kernel
theorem dX3_foremostOf_17 : decode cX3_foremostOf 17 = .ok (.iload 4, 2) := by decide +kernel
theorem dX3_foremostOf_19 : decode cX3_foremostOf 19 = .ok (.ishr, 1) := by decide +kernel
theorem dX3_foremostOf_20 : decode cX3_foremostOf 20 = .ok (.iconst 1, 1) := by decide +kernel
theorem dX3_foremostOf_21 : decode cX3_foremostOf 21 = .ok (.iand, 1) := by decide +kernel
theorem dX3_foremostOf_22 : decode cX3_foremostOf 22 = .ok (.ifCond .eq 22, 3) := by decide +kernel
theorem dX3_foremostOf_25 : decode cX3_foremostOf 25 = .ok (.iload_n 3, 1) := by decide +kernel
theorem dX3_foremostOf_26 : decode cX3_foremostOf 26 = .ok (.ifCond .eq 13, 3) := by decide +kernel
theorem dX3_foremostOf_29 : decode cX3_foremostOf 29 = .ok (.aload_n 0, 1) := by decide +kernel
theorem dX3_foremostOf_30 : decode cX3_foremostOf 30 = .ok (.iload 4, 2) := by decide +kernel
theorem dX3_foremostOf_32 : decode cX3_foremostOf 32 = .ok (.iload_n 2, 1) := by decide +kernel
theorem dX3_foremostOf_33 : decode cX3_foremostOf 33 = .ok (.invokevirtual 113, 3) := by decide +kernel
theorem dX3_foremostOf_36 : decode cX3_foremostOf 36 = .ok (.ifCond .eq 8, 3) := by decide +kernel
theorem dX3_foremostOf_39 : decode cX3_foremostOf 39 = .ok (.iload 4, 2) := by decide +kernel
theorem dX3_foremostOf_41 : decode cX3_foremostOf 41 = .ok (.istore_n 2, 1) := by decide +kernel
theorem dX3_foremostOf_42 : decode cX3_foremostOf 42 = .ok (.iconst 1, 1) := by decide +kernel
theorem dX3_foremostOf_43 : decode cX3_foremostOf 43 = .ok (.istore_n 3, 1) := by decide +kernel
theorem dX3_foremostOf_44 : decode cX3_foremostOf 44 = .ok (.iinc 4 1, 3) := by decide +kernel
theorem dX3_foremostOf_47 : decode cX3_foremostOf 47 = .ok (.goto (-40), 3) := by decide +kernel
theorem dX3_foremostOf_50 : decode cX3_foremostOf 50 = .ok (.iload_n 2, 1) := by decide +kernel
theorem dX3_foremostOf_51 : decode cX3_foremostOf 51 = .ok (.ireturn, 1) := by decide +kernel
theorem dX3_isAhead_0 : decode cX3_isAhead 0 = .ok (.aload_n 0, 1) := by decide +kernel
theorem dX3_isAhead_1 : decode cX3_isAhead 1 = .ok (.getfield 15, 3) := by decide +kernel
theorem dX3_isAhead_4 : decode cX3_isAhead 4 = .ok (.iload_n 1, 1) := by decide +kernel
theorem dX3_isAhead_5 : decode cX3_isAhead 5 = .ok (.iaload, 1) := by decide +kernel
theorem dX3_isAhead_6 : decode cX3_isAhead 6 = .ok (.iconst 3, 1) := by decide +kernel
theorem dX3_isAhead_7 : decode cX3_isAhead 7 = .ok (.if_icmp .ne 7, 3) := by decide +kernel
theorem dX3_isAhead_10 : decode cX3_isAhead 10 = .ok (.iconst 1, 1) := by decide +kernel
theorem dX3_isAhead_11 : decode cX3_isAhead 11 = .ok (.goto 4, 3) := by decide +kernel
theorem dX3_isAhead_14 : decode cX3_isAhead 14 = .ok (.iconst 0, 1) := by decide +kernel
theorem dX3_isAhead_15 : decode cX3_isAhead 15 = .ok (.aload_n 0, 1) := by decide +kernel
theorem dX3_isAhead_16 : decode cX3_isAhead 16 = .ok (.getfield 15, 3) := by decide +kernel
theorem dX3_isAhead_19 : decode cX3_isAhead 19 = .ok (.iload_n 2, 1) := by decide +kernel
theorem dX3_isAhead_20 : decode cX3_isAhead 20 = .ok (.iaload, 1) := by decide +kernel
theorem dX3_isAhead_21 : decode cX3_isAhead 21 = .ok (.iconst 3, 1) := by decide +kernel
theorem dX3_isAhead_22 : decode cX3_isAhead 22 = .ok (.if_icmp .ne 7, 3) := by decide +kernel
theorem dX3_isAhead_25 : decode cX3_isAhead 25 = .ok (.iconst 1, 1) := by decide +kernel
theorem dX3_isAhead_26 : decode cX3_isAhead 26 = .ok (.goto 4, 3) := by decide +kernel
theorem dX3_isAhead_29 : decode cX3_isAhead 29 = .ok (.iconst 0, 1) := by decide +kernel
theorem dX3_isAhead_30 : decode cX3_isAhead 30 = .ok (.if_icmp .eq 19, 3) := by decide +kernel
theorem dX3_isAhead_33 : decode cX3_isAhead 33 = .ok (.aload_n 0, 1) := by decide +kernel
theorem dX3_isAhead_34 : decode cX3_isAhead 34 = .ok (.getfield 15, 3) := by decide +kernel
theorem dX3_isAhead_37 : decode cX3_isAhead 37 = .ok (.iload_n 2, 1) := by decide +kernel
theorem dX3_isAhead_38 : decode cX3_isAhead 38 = .ok (.iaload, 1) := by decide +kernel
theorem dX3_isAhead_39 : decode cX3_isAhead 39 = .ok (.iconst 3, 1) := by decide +kernel
theorem dX3_isAhead_40 : decode cX3_isAhead 40 = .ok (.if_icmp .ne 7, 3) := by decide +kernel
theorem dX3_isAhead_43 : decode cX3_isAhead 43 = .ok (.iconst 1, 1) := by decide +kernel
theorem dX3_isAhead_44 : decode cX3_isAhead 44 = .ok (.goto 4, 3) := by decide +kernel
theorem dX3_isAhead_47 : decode cX3_isAhead 47 = .ok (.iconst 0, 1) := by decide +kernel
theorem dX3_isAhead_48 : decode cX3_isAhead 48 = .ok (.ireturn, 1) := by decide +kernel
theorem dX3_isAhead_49 : decode cX3_isAhead 49 = .ok (.aload_n 0, 1) := by decide +kernel
theorem dX3_isAhead_50 : decode cX3_isAhead 50 = .ok (.getfield 33, 3) := by decide +kernel
theorem dX3_isAhead_53 : decode cX3_isAhead 53 = .ok (.iload_n 1, 1) := by decide +kernel
theorem dX3_isAhead_54 : decode cX3_isAhead 54 = .ok (.iaload, 1) := by decide +kernel
theorem dX3_isAhead_55 : decode cX3_isAhead 55 = .ok (.aload_n 0, 1) := by decide +kernel
theorem dX3_isAhead_56 : decode cX3_isAhead 56 = .ok (.getfield 33, 3) := by decide +kernel
theorem dX3_isAhead_59 : decode cX3_isAhead 59 = .ok (.iload_n 2, 1) := by decide +kernel
theorem dX3_isAhead_60 : decode cX3_isAhead 60 = .ok (.iaload, 1) := by decide +kernel
theorem dX3_isAhead_61 : decode cX3_isAhead 61 = .ok (.if_icmp .eq 24, 3) := by decide +kernel
theorem dX3_isAhead_64 : decode cX3_isAhead 64 = .ok (.aload_n 0, 1) := by decide +kernel
theorem dX3_isAhead_65 : decode cX3_isAhead 65 = .ok (.getfield 33, 3) := by decide +kernel
theorem dX3_isAhead_68 : decode cX3_isAhead 68 = .ok (.iload_n 1, 1) := by decide +kernel
theorem dX3_isAhead_69 : decode cX3_isAhead 69 = .ok (.iaload, 1) := by decide +kernel
theorem dX3_isAhead_70 : decode cX3_isAhead 70 = .ok (.aload_n 0, 1) := by decide +kernel
theorem dX3_isAhead_71 : decode cX3_isAhead 71 = .ok (.getfield 33, 3) := by decide +kernel
theorem dX3_isAhead_74 : decode cX3_isAhead 74 = .ok (.iload_n 2, 1) := by decide +kernel
theorem dX3_isAhead_75 : decode cX3_isAhead 75 = .ok (.iaload, 1) := by decide +kernel
theorem dX3_isAhead_76 : decode cX3_isAhead 76 = .ok (.if_icmp .ge 7, 3) := by decide +kernel
theorem dX3_isAhead_79 : decode cX3_isAhead 79 = .ok (.iconst 1, 1) := by decide +kernel
theorem dX3_isAhead_80 : decode cX3_isAhead 80 = .ok (.goto 4, 3) := by decide +kernel
theorem dX3_isAhead_83 : decode cX3_isAhead 83 = .ok (.iconst 0, 1) := by decide +kernel
theorem dX3_isAhead_84 : decode cX3_isAhead 84 = .ok (.ireturn, 1) := by decide +kernel
theorem dX3_isAhead_85 : decode cX3_isAhead 85 = .ok (.aload_n 0, 1) := by decide +kernel
theorem dX3_isAhead_86 : decode cX3_isAhead 86 = .ok (.getfield 18, 3) := by decide +kernel
theorem dX3_isAhead_89 : decode cX3_isAhead 89 = .ok (.iload_n 1, 1) := by decide +kernel
theorem dX3_isAhead_90 : decode cX3_isAhead 90 = .ok (.iaload, 1) := by decide +kernel
theorem dX3_isAhead_91 : decode cX3_isAhead 91 = .ok (.aload_n 0, 1) := by decide +kernel
theorem dX3_isAhead_92 : decode cX3_isAhead 92 = .ok (.getfield 18, 3) := by decide +kernel
theorem dX3_isAhead_95 : decode cX3_isAhead 95 = .ok (.iload_n 2, 1) := by decide +kernel
theorem dX3_isAhead_96 : decode cX3_isAhead 96 = .ok (.iaload, 1) := by decide +kernel
theorem dX3_isAhead_97 : decode cX3_isAhead 97 = .ok (.if_icmp .ge 7, 3) := by decide +kernel
theorem dX3_isAhead_100 : decode cX3_isAhead 100 = .ok (.iconst 1, 1) := by decide +kernel
theorem dX3_isAhead_101 : decode cX3_isAhead 101 = .ok (.goto 4, 3) := by decide +kernel
theorem dX3_isAhead_104 : decode cX3_isAhead 104 = .ok (.iconst 0, 1) := by decide +kernel
theorem dX3_isAhead_105 : decode cX3_isAhead 105 = .ok (.ireturn, 1) := by decide +kernel
theorem dX3_markGone_0 : decode cX3_markGone 0 = .ok (.iconst 0, 1) := by decide +kernel
theorem dX3_markGone_1 : decode cX3_markGone 1 = .ok (.istore_n 2, 1) := by decide +kernel
theorem dX3_markGone_2 : decode cX3_markGone 2 = .ok (.iload_n 2, 1) := by decide +kernel
theorem dX3_markGone_3 : decode cX3_markGone 3 = .ok (.aload_n 0, 1) := by decide +kernel
theorem dX3_markGone_4 : decode cX3_markGone 4 = .ok (.getfield 47, 3) := by decide +kernel
theorem dX3_markGone_7 : decode cX3_markGone 7 = .ok (.if_icmp .ge 27, 3) := by decide +kernel
theorem dX3_markGone_10 : decode cX3_markGone 10 = .ok (.iload_n 1, 1) := by decide +kernel
theorem dX3_markGone_11 : decode cX3_markGone 11 = .ok (.iload_n 2, 1) := by decide +kernel
theorem dX3_markGone_12 : decode cX3_markGone 12 = .ok (.ishr, 1) := by decide +kernel
theorem dX3_markGone_13 : decode cX3_markGone 13 = .ok (.iconst 1, 1) := by decide +kernel
theorem dX3_markGone_14 : decode cX3_markGone 14 = .ok (.iand, 1) := by decide +kernel
theorem dX3_markGone_15 : decode cX3_markGone 15 = .ok (.ifCond .eq 13, 3) := by decide +kernel
theorem dX3_markGone_18 : decode cX3_markGone 18 = .ok (.aload_n 0, 1) := by decide +kernel
theorem dX3_markGone_19 : decode cX3_markGone 19 = .ok (.getfield 27, 3) := by decide +kernel
theorem dX3_markGone_22 : decode cX3_markGone 22 = .ok (.iload_n 2, 1) := by decide +kernel
theorem dX3_markGone_23 : decode cX3_markGone 23 = .ok (.aload_n 0, 1) := by decide +kernel
theorem dX3_markGone_24 : decode cX3_markGone 24 = .ok (.getfield 51, 3) := by decide +kernel
theorem dX3_markGone_27 : decode cX3_markGone 27 = .ok (.iastore, 1) := by decide +kernel
theorem dX3_markGone_28 : decode cX3_markGone 28 = .ok (.iinc 2 1, 3) := by decide +kernel
theorem dX3_markGone_31 : decode cX3_markGone 31 = .ok (.goto (-29), 3) := by decide +kernel
theorem dX3_markGone_34 : decode cX3_markGone 34 = .ok (.return_, 1) := by decide +kernel
theorem dX3_tollFor_0 : decode cX3_tollFor 0 = .ok (.iload_n 1, 1) := by decide +kernel
theorem dX3_tollFor_1 : decode cX3_tollFor 1 = .ok (.iconst 1, 1) := by decide +kernel
theorem dX3_tollFor_2 : decode cX3_tollFor 2 = .ok (.if_icmp .ge 7, 3) := by decide +kernel
theorem dX3_tollFor_5 : decode cX3_tollFor 5 = .ok (.iconst 0, 1) := by decide +kernel
theorem dX3_tollFor_6 : decode cX3_tollFor 6 = .ok (.goto 16, 3) := by decide +kernel
theorem dX3_tollFor_9 : decode cX3_tollFor 9 = .ok (.aload_n 0, 1) := by decide +kernel
theorem dX3_tollFor_10 : decode cX3_tollFor 10 = .ok (.getfield 9, 3) := by decide +kernel
theorem dX3_tollFor_13 : decode cX3_tollFor 13 = .ok (.iload_n 1, 1) := by decide +kernel
theorem dX3_tollFor_14 : decode cX3_tollFor 14 = .ok (.bipush 6, 2) := by decide +kernel
theorem dX3_tollFor_16 : decode cX3_tollFor 16 = .ok (.invokestatic 54, 3) := by decide +kernel
theorem dX3_tollFor_19 : decode cX3_tollFor 19 = .ok (.iconst 1, 1) := by decide +kernel
theorem dX3_tollFor_20 : decode cX3_tollFor 20 = .ok (.isub, 1) := by decide +kernel
theorem dX3_tollFor_21 : decode cX3_tollFor 21 = .ok (.iaload, 1) := by decide +kernel
theorem dX3_tollFor_22 : decode cX3_tollFor 22 = .ok (.ireturn, 1) := by decide +kernel
theorem dX3_costOf_0 : decode cX3_costOf 0 = .ok (.aload_n 0, 1) := by decide +kernel
theorem dX3_costOf_1 : decode cX3_costOf 1 = .ok (.getfield 27, 3) := by decide +kernel
theorem dX3_costOf_4 : decode cX3_costOf 4 = .ok (.iload_n 1, 1) := by decide +kernel
theorem dX3_costOf_5 : decode cX3_costOf 5 = .ok (.iaload, 1) := by decide +kernel
theorem dX3_costOf_6 : decode cX3_costOf 6 = .ok (.ldc 66, 2) := by decide +kernel
theorem dX3_costOf_8 : decode cX3_costOf 8 = .ok (.if_icmp .ne 8, 3) := by decide +kernel
theorem dX3_costOf_11 : decode cX3_costOf 11 = .ok (.ldc 66, 2) := by decide +kernel
theorem dX3_costOf_13 : decode cX3_costOf 13 = .ok (.goto 30, 3) := by decide +kernel
theorem dX3_costOf_16 : decode cX3_costOf 16 = .ok (.aload_n 0, 1) := by decide +kernel
theorem dX3_costOf_17 : decode cX3_costOf 17 = .ok (.getfield 21, 3) := by decide +kernel
theorem dX3_costOf_20 : decode cX3_costOf 20 = .ok (.iload_n 1, 1) := by decide +kernel
theorem dX3_costOf_21 : decode cX3_costOf 21 = .ok (.iaload, 1) := by decide +kernel
theorem dX3_costOf_22 : decode cX3_costOf 22 = .ok (.aload_n 0, 1) := by decide +kernel
theorem dX3_costOf_23 : decode cX3_costOf 23 = .ok (.getfield 27, 3) := by decide +kernel
theorem dX3_costOf_26 : decode cX3_costOf 26 = .ok (.iload_n 1, 1) := by decide +kernel
theorem dX3_costOf_27 : decode cX3_costOf 27 = .ok (.iaload, 1) := by decide +kernel
theorem dX3_costOf_28 : decode cX3_costOf 28 = .ok (.aload_n 0, 1) := by decide +kernel
theorem dX3_costOf_29 : decode cX3_costOf 29 = .ok (.getfield 18, 3) := by decide +kernel
theorem dX3_costOf_32 : decode cX3_costOf 32 = .ok (.iload_n 1, 1) := by decide +kernel
theorem dX3_costOf_33 : decode cX3_costOf 33 = .ok (.iaload, 1) := by decide +kernel
theorem dX3_costOf_34 : decode cX3_costOf 34 = .ok (.isub, 1) := by decide +kernel
theorem dX3_costOf_35 : decode cX3_costOf 35 = .ok (.imul, 1) := by decide +kernel
theorem dX3_costOf_36 : decode cX3_costOf 36 = .ok (.aload_n 0, 1) := by decide +kernel
theorem dX3_costOf_37 : decode cX3_costOf 37 = .ok (.getfield 30, 3) := by decide +kernel
theorem dX3_costOf_40 : decode cX3_costOf 40 = .ok (.iload_n 1, 1) := by decide +kernel
theorem dX3_costOf_41 : decode cX3_costOf 41 = .ok (.iaload, 1) := by decide +kernel
theorem dX3_costOf_42 : decode cX3_costOf 42 = .ok (.iadd, 1) := by decide +kernel
theorem dX3_costOf_43 : decode cX3_costOf 43 = .ok (.ireturn, 1) := by decide +kernel
theorem dX3_cartsGone_0 : decode cX3_cartsGone 0 = .ok (.iconst 0, 1) := by decide +kernel
theorem dX3_cartsGone_1 : decode cX3_cartsGone 1 = .ok (.istore_n 1, 1) := by decide +kernel
theorem dX3_cartsGone_2 : decode cX3_cartsGone 2 = .ok (.iconst 0, 1) := by decide +kernel
theorem dX3_cartsGone_3 : decode cX3_cartsGone 3 = .ok (.istore_n 2, 1) := by decide +kernel
theorem dX3_cartsGone_4 : decode cX3_cartsGone 4 = .ok (.iload_n 2, 1) := by decide +kernel
theorem dX3_cartsGone_5 : decode cX3_cartsGone 5 = .ok (.aload_n 0, 1) := by decide +kernel
theorem dX3_cartsGone_6 : decode cX3_cartsGone 6 = .ok (.getfield 47, 3) := by decide +kernel
theorem dX3_cartsGone_9 : decode cX3_cartsGone 9 = .ok (.if_icmp .ge 23, 3) := by decide +kernel
theorem dX3_cartsGone_12 : decode cX3_cartsGone 12 = .ok (.aload_n 0, 1) := by decide +kernel
theorem dX3_cartsGone_13 : decode cX3_cartsGone 13 = .ok (.getfield 27, 3) := by decide +kernel
theorem dX3_cartsGone_16 : decode cX3_cartsGone 16 = .ok (.iload_n 2, 1) := by decide +kernel
theorem dX3_cartsGone_17 : decode cX3_cartsGone 17 = .ok (.iaload, 1) := by decide +kernel
theorem dX3_cartsGone_18 : decode cX3_cartsGone 18 = .ok (.ldc 66, 2) := by decide +kernel
theorem dX3_cartsGone_20 : decode cX3_cartsGone 20 = .ok (.if_icmp .eq 6, 3) := by decide +kernel
theorem dX3_cartsGone_23 : decode cX3_cartsGone 23 = .ok (.iinc 1 1, 3) := by decide +kernel
theorem dX3_cartsGone_26 : decode cX3_cartsGone 26 = .ok (.iinc 2 1, 3) := by decide +kernel
theorem dX3_cartsGone_29 : decode cX3_cartsGone 29 = .ok (.goto (-25), 3) := by decide +kernel
theorem dX3_cartsGone_32 : decode cX3_cartsGone 32 = .ok (.iload_n 1, 1) := by decide +kernel
theorem dX3_cartsGone_33 : decode cX3_cartsGone 33 = .ok (.ireturn, 1) := by decide +kernel
theorem dX3_paidInAll_0 : decode cX3_paidInAll 0 = .ok (.iconst 0, 1) := by decide +kernel
theorem dX3_paidInAll_1 : decode cX3_paidInAll 1 = .ok (.istore_n 1, 1) := by decide +kernel
theorem dX3_paidInAll_2 : decode cX3_paidInAll 2 = .ok (.iconst 0, 1) := by decide +kernel
theorem dX3_paidInAll_3 : decode cX3_paidInAll 3 = .ok (.istore_n 2, 1) := by decide +kernel
theorem dX3_paidInAll_4 : decode cX3_paidInAll 4 = .ok (.iload_n 2, 1) := by decide +kernel
theorem dX3_paidInAll_5 : decode cX3_paidInAll 5 = .ok (.aload_n 0, 1) := by decide +kernel
theorem dX3_paidInAll_6 : decode cX3_paidInAll 6 = .ok (.getfield 47, 3) := by decide +kernel
theorem dX3_paidInAll_9 : decode cX3_paidInAll 9 = .ok (.if_icmp .ge 18, 3) := by decide +kernel
theorem dX3_paidInAll_12 : decode cX3_paidInAll 12 = .ok (.iload_n 1, 1) := by decide +kernel
theorem dX3_paidInAll_13 : decode cX3_paidInAll 13 = .ok (.aload_n 0, 1) := by decide +kernel
theorem dX3_paidInAll_14 : decode cX3_paidInAll 14 = .ok (.getfield 30, 3) := by decide +kernel
theorem dX3_paidInAll_17 : decode cX3_paidInAll 17 = .ok (.iload_n 2, 1) := by decide +kernel
theorem dX3_paidInAll_18 : decode cX3_paidInAll 18 = .ok (.iaload, 1) := by decide +kernel
theorem dX3_paidInAll_19 : decode cX3_paidInAll 19 = .ok (.iadd, 1) := by decide +kernel
theorem dX3_paidInAll_20 : decode cX3_paidInAll 20 = .ok (.istore_n 1, 1) := by decide +kernel
theorem dX3_paidInAll_21 : decode cX3_paidInAll 21 = .ok (.iinc 2 1, 3) := by decide +kernel
theorem dX3_paidInAll_24 : decode cX3_paidInAll 24 = .ok (.goto (-20), 3) := by decide +kernel
theorem dX3_paidInAll_27 : decode cX3_paidInAll 27 = .ok (.iload_n 1, 1) := by decide +kernel
theorem dX3_paidInAll_28 : decode cX3_paidInAll 28 = .ok (.ireturn, 1) := by decide +kernel
theorem dX3_greatestShares_0 : decode cX3_greatestShares 0 = .ok (.iload_n 1, 1) := by decide +kernel
theorem dX3_greatestShares_1 : decode cX3_greatestShares 1 = .ok (.iconst 1, 1) := by decide +kernel
theorem dX3_greatestShares_2 : decode cX3_greatestShares 2 = .ok (.if_icmp .ge 5, 3) := by decide +kernel
theorem dX3_greatestShares_5 : decode cX3_greatestShares 5 = .ok (.iconst 0, 1) := by decide +kernel
theorem dX3_greatestShares_6 : decode cX3_greatestShares 6 = .ok (.ireturn, 1) := by decide +kernel
theorem dX3_greatestShares_7 : decode cX3_greatestShares 7 = .ok (.iload_n 2, 1) := by decide +kernel
theorem dX3_greatestShares_8 : decode cX3_greatestShares 8 = .ok (.aload_n 0, 1) := by decide +kernel
theorem dX3_greatestShares_9 : decode cX3_greatestShares 9 = .ok (.iload_n 1, 1) := by decide +kernel
theorem dX3_greatestShares_10 : decode cX3_greatestShares 10 = .ok (.invokevirtual 102, 3) := by decide +kernel
theorem dX3_greatestShares_13 : decode cX3_greatestShares 13 = .ok (.iload_n 1, 1) := by decide +kernel
theorem dX3_greatestShares_14 : decode cX3_greatestShares 14 = .ok (.idiv, 1) := by decide +kernel
theorem dX3_greatestShares_15 : decode cX3_greatestShares 15 = .ok (.imul, 1) := by decide +kernel
theorem dX3_greatestShares_16 : decode cX3_greatestShares 16 = .ok (.iload_n 2, 1) := by decide +kernel
theorem dX3_greatestShares_17 : decode cX3_greatestShares 17 = .ok (.aload_n 0, 1) := by decide +kernel
theorem dX3_greatestShares_18 : decode cX3_greatestShares 18 = .ok (.iload_n 1, 1) := by decide +kernel
theorem dX3_greatestShares_19 : decode cX3_greatestShares 19 = .ok (.invokevirtual 102, 3) := by decide +kernel
theorem dX3_greatestShares_22 : decode cX3_greatestShares 22 = .ok (.iload_n 1, 1) := by decide +kernel
theorem dX3_greatestShares_23 : decode cX3_greatestShares 23 = .ok (.irem, 1) := by decide +kernel
theorem dX3_greatestShares_24 : decode cX3_greatestShares 24 = .ok (.invokestatic 54, 3) := by decide +kernel
theorem dX3_greatestShares_27 : decode cX3_greatestShares 27 = .ok (.iadd, 1) := by decide +kernel
theorem dX3_greatestShares_28 : decode cX3_greatestShares 28 = .ok (.ireturn, 1) := by decide +kernel
theorem dX3_holds_0 : decode cX3_holds 0 = .ok (.iconst 1, 1) := by decide +kernel
theorem dX3_holds_1 : decode cX3_holds 1 = .ok (.istore_n 2, 1) := by decide +kernel
theorem dX3_holds_2 : decode cX3_holds 2 = .ok (.iload_n 2, 1) := by decide +kernel
theorem dX3_holds_3 : decode cX3_holds 3 = .ok (.iload_n 1, 1) := by decide +kernel
theorem dX3_holds_4 : decode cX3_holds 4 = .ok (.if_icmp .ge 25, 3) := by decide +kernel
theorem dX3_holds_7 : decode cX3_holds 7 = .ok (.aload_n 0, 1) := by decide +kernel
theorem dX3_holds_8 : decode cX3_holds 8 = .ok (.iload_n 1, 1) := by decide +kernel
theorem dX3_holds_9 : decode cX3_holds 9 = .ok (.iload_n 2, 1) := by decide +kernel
theorem dX3_holds_10 : decode cX3_holds 10 = .ok (.invokevirtual 117, 3) := by decide +kernel
theorem dX3_holds_13 : decode cX3_holds 13 = .ok (.aload_n 0, 1) := by decide +kernel
theorem dX3_holds_14 : decode cX3_holds 14 = .ok (.iload_n 2, 1) := by decide +kernel
theorem dX3_holds_15 : decode cX3_holds 15 = .ok (.invokevirtual 102, 3) := by decide +kernel
theorem dX3_holds_18 : decode cX3_holds 18 = .ok (.if_icmp .le 5, 3) := by decide +kernel
theorem dX3_holds_21 : decode cX3_holds 21 = .ok (.iconst 0, 1) := by decide +kernel
theorem dX3_holds_22 : decode cX3_holds 22 = .ok (.ireturn, 1) := by decide +kernel
theorem dX3_holds_23 : decode cX3_holds 23 = .ok (.iinc 2 1, 3) := by decide +kernel
theorem dX3_holds_26 : decode cX3_holds 26 = .ok (.goto (-24), 3) := by decide +kernel
theorem dX3_holds_29 : decode cX3_holds 29 = .ok (.iconst 1, 1) := by decide +kernel
theorem dX3_holds_30 : decode cX3_holds 30 = .ok (.ireturn, 1) := by decide +kernel
theorem dX3_cheapestSize_0 : decode cX3_cheapestSize 0 = .ok (.iconst 1, 1) := by decide +kernel
theorem dX3_cheapestSize_1 : decode cX3_cheapestSize 1 = .ok (.istore_n 1, 1) := by decide +kernel
theorem dX3_cheapestSize_2 : decode cX3_cheapestSize 2 = .ok (.iconst 2, 1) := by decide +kernel
theorem dX3_cheapestSize_3 : decode cX3_cheapestSize 3 = .ok (.istore_n 2, 1) := by decide +kernel
theorem dX3_cheapestSize_4 : decode cX3_cheapestSize 4 = .ok (.iload_n 2, 1) := by decide +kernel
theorem dX3_cheapestSize_5 : decode cX3_cheapestSize 5 = .ok (.bipush 6, 2) := by decide +kernel
theorem dX3_cheapestSize_7 : decode cX3_cheapestSize 7 = .ok (.if_icmp .gt 28, 3) := by decide +kernel
theorem dX3_cheapestSize_10 : decode cX3_cheapestSize 10 = .ok (.aload_n 0, 1) := by decide +kernel
theorem dX3_cheapestSize_11 : decode cX3_cheapestSize 11 = .ok (.iload_n 2, 1) := by decide +kernel
theorem dX3_cheapestSize_12 : decode cX3_cheapestSize 12 = .ok (.invokevirtual 102, 3) := by decide +kernel
theorem dX3_cheapestSize_15 : decode cX3_cheapestSize 15 = .ok (.iload_n 1, 1) := by decide +kernel
theorem dX3_cheapestSize_16 : decode cX3_cheapestSize 16 = .ok (.imul, 1) := by decide +kernel
theorem dX3_cheapestSize_17 : decode cX3_cheapestSize 17 = .ok (.aload_n 0, 1) := by decide +kernel
theorem dX3_cheapestSize_18 : decode cX3_cheapestSize 18 = .ok (.iload_n 1, 1) := by decide +kernel
theorem dX3_cheapestSize_19 : decode cX3_cheapestSize 19 = .ok (.invokevirtual 102, 3) := by decide +kernel
theorem dX3_cheapestSize_22 : decode cX3_cheapestSize 22 = .ok (.iload_n 2, 1) := by decide +kernel
theorem dX3_cheapestSize_23 : decode cX3_cheapestSize 23 = .ok (.imul, 1) := by decide +kernel
theorem dX3_cheapestSize_24 : decode cX3_cheapestSize 24 = .ok (.if_icmp .ge 5, 3) := by decide +kernel
theorem dX3_cheapestSize_27 : decode cX3_cheapestSize 27 = .ok (.iload_n 2, 1) := by decide +kernel
theorem dX3_cheapestSize_28 : decode cX3_cheapestSize 28 = .ok (.istore_n 1, 1) := by decide +kernel
theorem dX3_cheapestSize_29 : decode cX3_cheapestSize 29 = .ok (.iinc 2 1, 3) := by decide +kernel
theorem dX3_cheapestSize_32 : decode cX3_cheapestSize 32 = .ok (.goto (-28), 3) := by decide +kernel
theorem dX3_cheapestSize_35 : decode cX3_cheapestSize 35 = .ok (.iload_n 1, 1) := by decide +kernel
theorem dX3_cheapestSize_36 : decode cX3_cheapestSize 36 = .ok (.ireturn, 1) := by decide +kernel
theorem dX4_init_0 : decode cX4_init 0 = .ok (.aload_n 0, 1) := by decide +kernel
theorem dX4_init_1 : decode cX4_init 1 = .ok (.invokespecial 3, 3) := by decide +kernel
theorem dX4_init_4 : decode cX4_init 4 = .ok (.aload_n 0, 1) := by decide +kernel
theorem dX4_init_5 : decode cX4_init 5 = .ok (.sipush 400, 3) := by decide +kernel
theorem dX4_init_8 : decode cX4_init 8 = .ok (.newarray .byte, 2) := by decide +kernel
theorem dX4_init_10 : decode cX4_init 10 = .ok (.putfield 9, 3) := by decide +kernel
theorem dX4_init_13 : decode cX4_init 13 = .ok (.aload_n 0, 1) := by decide +kernel
theorem dX4_init_14 : decode cX4_init 14 = .ok (.new 15, 3) := by decide +kernel
theorem dX4_init_17 : decode cX4_init 17 = .ok (.dup, 1) := by decide +kernel
theorem dX4_init_18 : decode cX4_init 18 = .ok (.invokespecial 17, 3) := by decide +kernel
theorem dX4_init_21 : decode cX4_init 21 = .ok (.putfield 18, 3) := by decide +kernel
theorem dX4_init_24 : decode cX4_init 24 = .ok (.return_, 1) := by decide +kernel
theorem dX4_readPass_0 : decode cX4_readPass 0 = .ok (.aload_n 0, 1) := by decide +kernel
theorem dX4_readPass_1 : decode cX4_readPass 1 = .ok (.getfield 18, 3) := by decide +kernel
theorem dX4_readPass_4 : decode cX4_readPass 4 = .ok (.iconst 0, 1) := by decide +kernel
theorem dX4_readPass_5 : decode cX4_readPass 5 = .ok (.putfield 22, 3) := by decide +kernel
theorem dX4_readPass_8 : decode cX4_readPass 8 = .ok (.aload_n 0, 1) := by decide +kernel
theorem dX4_readPass_9 : decode cX4_readPass 9 = .ok (.getfield 18, 3) := by decide +kernel
theorem dX4_readPass_12 : decode cX4_readPass 12 = .ok (.iconst 1, 1) := by decide +kernel
theorem dX4_readPass_13 : decode cX4_readPass 13 = .ok (.putfield 26, 3) := by decide +kernel
theorem dX4_readPass_16 : decode cX4_readPass 16 = .ok (.aload_n 0, 1) := by decide +kernel
theorem dX4_readPass_17 : decode cX4_readPass 17 = .ok (.iconst 0, 1) := by decide +kernel
theorem dX4_readPass_18 : decode cX4_readPass 18 = .ok (.putfield 30, 3) := by decide +kernel
theorem dX4_readPass_21 : decode cX4_readPass 21 = .ok (.aload_n 0, 1) := by decide +kernel
theorem dX4_readPass_22 : decode cX4_readPass 22 = .ok (.iconst 0, 1) := by decide +kernel
theorem dX4_readPass_23 : decode cX4_readPass 23 = .ok (.putfield 33, 3) := by decide +kernel
theorem dX4_readPass_26 : decode cX4_readPass 26 = .ok (.aload_n 0, 1) := by decide +kernel
theorem dX4_readPass_27 : decode cX4_readPass 27 = .ok (.invokevirtual 36, 3) := by decide +kernel
theorem dX4_readPass_30 : decode cX4_readPass 30 = .ok (.ifCond .ne 5, 3) := by decide +kernel
theorem dX4_readPass_33 : decode cX4_readPass 33 = .ok (.iconst 0, 1) := by decide +kernel
theorem dX4_readPass_34 : decode cX4_readPass 34 = .ok (.ireturn, 1) := by decide +kernel
theorem dX4_readPass_35 : decode cX4_readPass 35 = .ok (.iconst 0, 1) := by decide +kernel
theorem dX4_readPass_36 : decode cX4_readPass 36 = .ok (.istore_n 1, 1) := by decide +kernel
theorem dX4_readPass_37 : decode cX4_readPass 37 = .ok (.iload_n 1, 1) := by decide +kernel
theorem dX4_readPass_38 : decode cX4_readPass 38 = .ok (.bipush 6, 2) := by decide +kernel
theorem dX4_readPass_40 : decode cX4_readPass 40 = .ok (.if_icmp .gt 38, 3) := by decide +kernel
theorem dX4_readPass_43 : decode cX4_readPass 43 = .ok (.aload_n 0, 1) := by decide +kernel
theorem dX4_readPass_44 : decode cX4_readPass 44 = .ok (.invokevirtual 40, 3) := by decide +kernel
theorem dX4_readPass_47 : decode cX4_readPass 47 = .ok (.aload_n 0, 1) := by decide +kernel
theorem dX4_readPass_48 : decode cX4_readPass 48 = .ok (.getfield 43, 3) := by decide +kernel
theorem dX4_readPass_51 : decode cX4_readPass 51 = .ok (.ifCond .ne 12, 3) := by decide +kernel
theorem dX4_readPass_54 : decode cX4_readPass 54 = .ok (.aload_n 0, 1) := by decide +kernel
theorem dX4_readPass_55 : decode cX4_readPass 55 = .ok (.getfield 18, 3) := by decide +kernel
theorem dX4_readPass_58 : decode cX4_readPass 58 = .ok (.invokevirtual 46, 3) := by decide +kernel
theorem dX4_readPass_61 : decode cX4_readPass 61 = .ok (.iconst 1, 1) := by decide +kernel
theorem dX4_readPass_62 : decode cX4_readPass 62 = .ok (.ireturn, 1) := by decide +kernel
theorem dX4_readPass_63 : decode cX4_readPass 63 = .ok (.aload_n 0, 1) := by decide +kernel
theorem dX4_readPass_64 : decode cX4_readPass 64 = .ok (.invokevirtual 49, 3) := by decide +kernel
theorem dX4_readPass_67 : decode cX4_readPass 67 = .ok (.ifCond .ne 5, 3) := by decide +kernel
theorem dX4_readPass_70 : decode cX4_readPass 70 = .ok (.iconst 0, 1) := by decide +kernel
theorem dX4_readPass_71 : decode cX4_readPass 71 = .ok (.ireturn, 1) := by decide +kernel
theorem dX4_readPass_72 : decode cX4_readPass 72 = .ok (.iinc 1 1, 3) := by decide +kernel
theorem dX4_readPass_75 : decode cX4_readPass 75 = .ok (.goto (-38), 3) := by decide +kernel
theorem dX4_readPass_78 : decode cX4_readPass 78 = .ok (.iconst 0, 1) := by decide +kernel
theorem dX4_readPass_79 : decode cX4_readPass 79 = .ok (.ireturn, 1) := by decide +kernel
theorem dX4_readToll_0 : decode cX4_readToll 0 = .ok (.aload_n 0, 1) := by decide +kernel
theorem dX4_readToll_1 : decode cX4_readToll 1 = .ok (.invokevirtual 40, 3) := by decide +kernel
theorem dX4_readToll_4 : decode cX4_readToll 4 = .ok (.aload_n 0, 1) := by decide +kernel
theorem dX4_readToll_5 : decode cX4_readToll 5 = .ok (.ldc 52, 2) := by decide +kernel
theorem dX4_readToll_7 : decode cX4_readToll 7 = .ok (.invokevirtual 54, 3) := by decide +kernel
theorem dX4_readToll_10 : decode cX4_readToll 10 = .ok (.ifCond .ne 9, 3) := by decide +kernel
theorem dX4_readToll_13 : decode cX4_readToll 13 = .ok (.aload_n 0, 1) := by decide +kernel
theorem dX4_readToll_14 : decode cX4_readToll 14 = .ok (.iconst 1, 1) := by decide +kernel
theorem dX4_readToll_15 : decode cX4_readToll 15 = .ok (.invokevirtual 58, 3) := by decide +kernel
theorem dX4_readToll_18 : decode cX4_readToll 18 = .ok (.ireturn, 1) := by decide +kernel
theorem dX4_readToll_19 : decode cX4_readToll 19 = .ok (.iconst 0, 1) := by decide +kernel
theorem dX4_readToll_20 : decode cX4_readToll 20 = .ok (.istore_n 1, 1) := by decide +kernel
theorem dX4_readToll_21 : decode cX4_readToll 21 = .ok (.iload_n 1, 1) := by decide +kernel
theorem dX4_readToll_22 : decode cX4_readToll 22 = .ok (.bipush 6, 2) := by decide +kernel
theorem dX4_readToll_24 : decode cX4_readToll 24 = .ok (.if_icmp .ge 33, 3) := by decide +kernel
theorem dX4_readToll_27 : decode cX4_readToll 27 = .ok (.aload_n 0, 1) := by decide +kernel
theorem dX4_readToll_28 : decode cX4_readToll 28 = .ok (.bipush 99, 2) := by decide +kernel
theorem dX4_readToll_30 : decode cX4_readToll 30 = .ok (.invokevirtual 62, 3) := by decide +kernel
theorem dX4_readToll_33 : decode cX4_readToll 33 = .ok (.ifCond .ne 5, 3) := by decide +kernel
theorem dX4_readToll_36 : decode cX4_readToll 36 = .ok (.iconst 0, 1) := by decide +kernel
theorem dX4_readToll_37 : decode cX4_readToll 37 = .ok (.ireturn, 1) := by decide +kernel
theorem dX4_readToll_38 : decode cX4_readToll 38 = .ok (.aload_n 0, 1) := by decide +kernel
theorem dX4_readToll_39 : decode cX4_readToll 39 = .ok (.getfield 18, 3) := by decide +kernel
theorem dX4_readToll_42 : decode cX4_readToll 42 = .ok (.getfield 65, 3) := by decide +kernel
theorem dX4_readToll_45 : decode cX4_readToll 45 = .ok (.iload_n 1, 1) := by decide +kernel
theorem dX4_readToll_46 : decode cX4_readToll 46 = .ok (.aload_n 0, 1) := by decide +kernel
theorem dX4_readToll_47 : decode cX4_readToll 47 = .ok (.getfield 68, 3) := by decide +kernel
theorem dX4_readToll_50 : decode cX4_readToll 50 = .ok (.iastore, 1) := by decide +kernel
theorem dX4_readToll_51 : decode cX4_readToll 51 = .ok (.iinc 1 1, 3) := by decide +kernel
theorem dX4_readToll_54 : decode cX4_readToll 54 = .ok (.goto (-33), 3) := by decide +kernel
theorem dX4_readToll_57 : decode cX4_readToll 57 = .ok (.aload_n 0, 1) := by decide +kernel
theorem dX4_readToll_58 : decode cX4_readToll 58 = .ok (.invokevirtual 71, 3) := by decide +kernel
theorem dX4_readToll_61 : decode cX4_readToll 61 = .ok (.ireturn, 1) := by decide +kernel
theorem dX4_readCart_0 : decode cX4_readCart 0 = .ok (.aload_n 0, 1) := by decide +kernel
theorem dX4_readCart_1 : decode cX4_readCart 1 = .ok (.ldc 74, 2) := by decide +kernel
theorem dX4_readCart_3 : decode cX4_readCart 3 = .ok (.invokevirtual 54, 3) := by decide +kernel
theorem dX4_readCart_6 : decode cX4_readCart 6 = .ok (.ifCond .ne 9, 3) := by decide +kernel
theorem dX4_readCart_9 : decode cX4_readCart 9 = .ok (.aload_n 0, 1) := by decide +kernel
theorem dX4_readCart_10 : decode cX4_readCart 10 = .ok (.iconst 1, 1) := by decide +kernel
theorem dX4_readCart_11 : decode cX4_readCart 11 = .ok (.invokevirtual 58, 3) := by decide +kernel
theorem dX4_readCart_14 : decode cX4_readCart 14 = .ok (.ireturn, 1) := by decide +kernel
theorem dX4_readCart_15 : decode cX4_readCart 15 = .ok (.aload_n 0, 1) := by decide +kernel
theorem dX4_readCart_16 : decode cX4_readCart 16 = .ok (.getfield 18, 3) := by decide +kernel
theorem dX4_readCart_19 : decode cX4_readCart 19 = .ok (.getfield 22, 3) := by decide +kernel
theorem dX4_readCart_22 : decode cX4_readCart 22 = .ok (.istore_n 1, 1) := by decide +kernel
theorem dX4_readCart_23 : decode cX4_readCart 23 = .ok (.iload_n 1, 1) := by decide +kernel
theorem dX4_readCart_24 : decode cX4_readCart 24 = .ok (.bipush 6, 2) := by decide +kernel
theorem dX4_readCart_26 : decode cX4_readCart 26 = .ok (.if_icmp .lt 9, 3) := by decide +kernel
theorem dX4_readCart_29 : decode cX4_readCart 29 = .ok (.aload_n 0, 1) := by decide +kernel
theorem dX4_readCart_30 : decode cX4_readCart 30 = .ok (.iconst 3, 1) := by decide +kernel
theorem dX4_readCart_31 : decode cX4_readCart 31 = .ok (.invokevirtual 58, 3) := by decide +kernel
theorem dX4_readCart_34 : decode cX4_readCart 34 = .ok (.ireturn, 1) := by decide +kernel
theorem dX4_readCart_35 : decode cX4_readCart 35 = .ok (.aload_n 0, 1) := by decide +kernel
theorem dX4_readCart_36 : decode cX4_readCart 36 = .ok (.invokevirtual 40, 3) := by decide +kernel
theorem dX4_readCart_39 : decode cX4_readCart 39 = .ok (.aload_n 0, 1) := by decide +kernel
theorem dX4_readCart_40 : decode cX4_readCart 40 = .ok (.getfield 18, 3) := by decide +kernel
theorem dX4_readCart_43 : decode cX4_readCart 43 = .ok (.getfield 76, 3) := by decide +kernel
theorem dX4_readCart_46 : decode cX4_readCart 46 = .ok (.iload_n 1, 1) := by decide +kernel
theorem dX4_readCart_47 : decode cX4_readCart 47 = .ok (.aload_n 0, 1) := by decide +kernel
theorem dX4_readCart_48 : decode cX4_readCart 48 = .ok (.invokevirtual 79, 3) := by decide +kernel
theorem dX4_readCart_51 : decode cX4_readCart 51 = .ok (.iastore, 1) := by decide +kernel
theorem dX4_readCart_52 : decode cX4_readCart 52 = .ok (.aload_n 0, 1) := by decide +kernel
theorem dX4_readCart_53 : decode cX4_readCart 53 = .ok (.getfield 18, 3) := by decide +kernel
theorem dX4_readCart_56 : decode cX4_readCart 56 = .ok (.getfield 76, 3) := by decide +kernel
theorem dX4_readCart_59 : decode cX4_readCart 59 = .ok (.iload_n 1, 1) := by decide +kernel
theorem dX4_readCart_60 : decode cX4_readCart 60 = .ok (.iaload, 1) := by decide +kernel
theorem dX4_readCart_61 : decode cX4_readCart 61 = .ok (.ifCond .ne 9, 3) := by decide +kernel
theorem dX4_readCart_64 : decode cX4_readCart 64 = .ok (.aload_n 0, 1) := by decide +kernel
theorem dX4_readCart_65 : decode cX4_readCart 65 = .ok (.iconst 1, 1) := by decide +kernel
theorem dX4_readCart_66 : decode cX4_readCart 66 = .ok (.invokevirtual 58, 3) := by decide +kernel
theorem dX4_readCart_69 : decode cX4_readCart 69 = .ok (.ireturn, 1) := by decide +kernel
theorem dX4_readCart_70 : decode cX4_readCart 70 = .ok (.aload_n 0, 1) := by decide +kernel
theorem dX4_readCart_71 : decode cX4_readCart 71 = .ok (.bipush 11, 2) := by decide +kernel
theorem dX4_readCart_73 : decode cX4_readCart 73 = .ok (.invokevirtual 62, 3) := by decide +kernel
theorem dX4_readCart_76 : decode cX4_readCart 76 = .ok (.ifCond .ne 5, 3) := by decide +kernel
theorem dX4_readCart_79 : decode cX4_readCart 79 = .ok (.iconst 0, 1) := by decide +kernel
theorem dX4_readCart_80 : decode cX4_readCart 80 = .ok (.ireturn, 1) := by decide +kernel
theorem dX4_readCart_81 : decode cX4_readCart 81 = .ok (.aload_n 0, 1) := by decide +kernel
theorem dX4_readCart_82 : decode cX4_readCart 82 = .ok (.getfield 18, 3) := by decide +kernel
theorem dX4_readCart_85 : decode cX4_readCart 85 = .ok (.getfield 83, 3) := by decide +kernel
theorem dX4_readCart_88 : decode cX4_readCart 88 = .ok (.iload_n 1, 1) := by decide +kernel
theorem dX4_readCart_89 : decode cX4_readCart 89 = .ok (.aload_n 0, 1) := by decide +kernel
theorem dX4_readCart_90 : decode cX4_readCart 90 = .ok (.getfield 68, 3) := by decide +kernel
theorem dX4_readCart_93 : decode cX4_readCart 93 = .ok (.iastore, 1) := by decide +kernel
theorem dX4_readCart_94 : decode cX4_readCart 94 = .ok (.aload_n 0, 1) := by decide +kernel
theorem dX4_readCart_95 : decode cX4_readCart 95 = .ok (.bipush 20, 2) := by decide +kernel
theorem dX4_readCart_97 : decode cX4_readCart 97 = .ok (.invokevirtual 62, 3) := by decide +kernel
theorem dX4_readCart_100 : decode cX4_readCart 100 = .ok (.ifCond .ne 5, 3) := by decide +kernel
theorem dX4_readCart_103 : decode cX4_readCart 103 = .ok (.iconst 0, 1) := by decide +kernel
theorem dX4_readCart_104 : decode cX4_readCart 104 = .ok (.ireturn, 1) := by decide +kernel
theorem dX4_readCart_105 : decode cX4_readCart 105 = .ok (.aload_n 0, 1) := by decide +kernel
theorem dX4_readCart_106 : decode cX4_readCart 106 = .ok (.getfield 18, 3) := by decide +kernel
theorem dX4_readCart_109 : decode cX4_readCart 109 = .ok (.getfield 86, 3) := by decide +kernel
theorem dX4_readCart_112 : decode cX4_readCart 112 = .ok (.iload_n 1, 1) := by decide +kernel
theorem dX4_readCart_113 : decode cX4_readCart 113 = .ok (.aload_n 0, 1) := by decide +kernel
theorem dX4_readCart_114 : decode cX4_readCart 114 = .ok (.getfield 68, 3) := by decide +kernel
theorem dX4_readCart_117 : decode cX4_readCart 117 = .ok (.iastore, 1) := by decide +kernel
theorem dX4_readCart_118 : decode cX4_readCart 118 = .ok (.aload_n 0, 1) := by decide +kernel
theorem dX4_readCart_119 : decode cX4_readCart 119 = .ok (.bipush 11, 2) := by decide +kernel
theorem dX4_readCart_121 : decode cX4_readCart 121 = .ok (.invokevirtual 62, 3) := by decide +kernel
theorem dX4_readCart_124 : decode cX4_readCart 124 = .ok (.ifCond .ne 5, 3) := by decide +kernel
theorem dX4_readCart_127 : decode cX4_readCart 127 = .ok (.iconst 0, 1) := by decide +kernel
theorem dX4_readCart_128 : decode cX4_readCart 128 = .ok (.ireturn, 1) := by decide +kernel
theorem dX4_readCart_129 : decode cX4_readCart 129 = .ok (.aload_n 0, 1) := by decide +kernel
theorem dX4_readCart_130 : decode cX4_readCart 130 = .ok (.getfield 18, 3) := by decide +kernel
theorem dX4_readCart_133 : decode cX4_readCart 133 = .ok (.getfield 89, 3) := by decide +kernel
theorem dX4_readCart_136 : decode cX4_readCart 136 = .ok (.iload_n 1, 1) := by decide +kernel
theorem dX4_readCart_137 : decode cX4_readCart 137 = .ok (.aload_n 0, 1) := by decide +kernel
theorem dX4_readCart_138 : decode cX4_readCart 138 = .ok (.getfield 68, 3) := by decide +kernel
theorem dX4_readCart_141 : decode cX4_readCart 141 = .ok (.iastore, 1) := by decide +kernel
theorem dX4_readCart_142 : decode cX4_readCart 142 = .ok (.aload_n 0, 1) := by decide +kernel
theorem dX4_readCart_143 : decode cX4_readCart 143 = .ok (.getfield 18, 3) := by decide +kernel
theorem dX4_readCart_146 : decode cX4_readCart 146 = .ok (.dup, 1) := by decide +kernel
theorem dX4_readCart_147 : decode cX4_readCart 147 = .ok (.getfield 22, 3) := by decide +kernel
theorem dX4_readCart_150 : decode cX4_readCart 150 = .ok (.iconst 1, 1) := by decide +kernel
theorem dX4_readCart_151 : decode cX4_readCart 151 = .ok (.iadd, 1) := by decide +kernel
theorem dX4_readCart_152 : decode cX4_readCart 152 = .ok (.putfield 22, 3) := by decide +kernel
theorem dX4_readCart_155 : decode cX4_readCart 155 = .ok (.aload_n 0, 1) := by decide +kernel
theorem dX4_readCart_156 : decode cX4_readCart 156 = .ok (.invokevirtual 71, 3) := by decide +kernel
theorem dX4_readCart_159 : decode cX4_readCart 159 = .ok (.ireturn, 1) := by decide +kernel
theorem dX4_kindNamed_0 : decode cX4_kindNamed 0 = .ok (.aload_n 0, 1) := by decide +kernel
theorem dX4_kindNamed_1 : decode cX4_kindNamed 1 = .ok (.ldc 92, 2) := by decide +kernel
theorem dX4_kindNamed_3 : decode cX4_kindNamed 3 = .ok (.invokevirtual 54, 3) := by decide +kernel
theorem dX4_kindNamed_6 : decode cX4_kindNamed 6 = .ok (.ifCond .eq 5, 3) := by decide +kernel
theorem dX4_kindNamed_9 : decode cX4_kindNamed 9 = .ok (.iconst 1, 1) := by decide +kernel
theorem dX4_kindNamed_10 : decode cX4_kindNamed 10 = .ok (.ireturn, 1) := by decide +kernel
theorem dX4_kindNamed_11 : decode cX4_kindNamed 11 = .ok (.aload_n 0, 1) := by decide +kernel
theorem dX4_kindNamed_12 : decode cX4_kindNamed 12 = .ok (.ldc 94, 2) := by decide +kernel
theorem dX4_kindNamed_14 : decode cX4_kindNamed 14 = .ok (.invokevirtual 54, 3) := by decide +kernel
theorem dX4_kindNamed_17 : decode cX4_kindNamed 17 = .ok (.ifCond .eq 5, 3) := by decide +kernel
theorem dX4_kindNamed_20 : decode cX4_kindNamed 20 = .ok (.iconst 2, 1) := by decide +kernel
theorem dX4_kindNamed_21 : decode cX4_kindNamed 21 = .ok (.ireturn, 1) := by decide +kernel
theorem dX4_kindNamed_22 : decode cX4_kindNamed 22 = .ok (.aload_n 0, 1) := by decide +kernel
theorem dX4_kindNamed_23 : decode cX4_kindNamed 23 = .ok (.ldc 96, 2) := by decide +kernel
theorem dX4_kindNamed_25 : decode cX4_kindNamed 25 = .ok (.invokevirtual 54, 3) := by decide +kernel
theorem dX4_kindNamed_28 : decode cX4_kindNamed 28 = .ok (.ifCond .eq 5, 3) := by decide +kernel
theorem dX4_kindNamed_31 : decode cX4_kindNamed 31 = .ok (.iconst 3, 1) := by decide +kernel
theorem dX4_kindNamed_32 : decode cX4_kindNamed 32 = .ok (.ireturn, 1) := by decide +kernel
theorem dX4_kindNamed_33 : decode cX4_kindNamed 33 = .ok (.aload_n 0, 1) := by decide +kernel
theorem dX4_kindNamed_34 : decode cX4_kindNamed 34 = .ok (.ldc 98, 2) := by decide +kernel
theorem dX4_kindNamed_36 : decode cX4_kindNamed 36 = .ok (.invokevirtual 54, 3) := by decide +kernel
theorem dX4_kindNamed_39 : decode cX4_kindNamed 39 = .ok (.ifCond .eq 5, 3) := by decide +kernel
theorem dX4_kindNamed_42 : decode cX4_kindNamed 42 = .ok (.iconst 4, 1) := by decide +kernel
theorem dX4_kindNamed_43 : decode cX4_kindNamed 43 = .ok (.ireturn, 1) := by decide +kernel
theorem dX4_kindNamed_44 : decode cX4_kindNamed 44 = .ok (.aload_n 0, 1) := by decide +kernel
theorem dX4_kindNamed_45 : decode cX4_kindNamed 45 = .ok (.ldc 100, 2) := by decide +kernel
theorem dX4_kindNamed_47 : decode cX4_kindNamed 47 = .ok (.invokevirtual 54, 3) := by decide +kernel
theorem dX4_kindNamed_50 : decode cX4_kindNamed 50 = .ok (.ifCond .eq 7, 3) := by decide +kernel
theorem dX4_kindNamed_53 : decode cX4_kindNamed 53 = .ok (.iconst 5, 1) := by decide +kernel
theorem dX4_kindNamed_54 : decode cX4_kindNamed 54 = .ok (.goto 4, 3) := by decide +kernel
theorem dX4_kindNamed_57 : decode cX4_kindNamed 57 = .ok (.iconst 0, 1) := by decide +kernel
theorem dX4_kindNamed_58 : decode cX4_kindNamed 58 = .ok (.ireturn, 1) := by decide +kernel
theorem dX4_readNumber_0 : decode cX4_readNumber 0 = .ok (.aload_n 0, 1) := by decide +kernel
theorem dX4_readNumber_1 : decode cX4_readNumber 1 = .ok (.invokevirtual 40, 3) := by decide +kernel
theorem dX4_readNumber_4 : decode cX4_readNumber 4 = .ok (.aload_n 0, 1) := by decide +kernel
theorem dX4_readNumber_5 : decode cX4_readNumber 5 = .ok (.getfield 43, 3) := by decide +kernel
theorem dX4_readNumber_8 : decode cX4_readNumber 8 = .ok (.iconst 2, 1) := by decide +kernel
theorem dX4_readNumber_9 : decode cX4_readNumber 9 = .ok (.if_icmp .eq 9, 3) := by decide +kernel
theorem dX4_readNumber_12 : decode cX4_readNumber 12 = .ok (.aload_n 0, 1) := by decide +kernel
theorem dX4_readNumber_13 : decode cX4_readNumber 13 = .ok (.iconst 1, 1) := by decide +kernel
theorem dX4_readNumber_14 : decode cX4_readNumber 14 = .ok (.invokevirtual 58, 3) := by decide +kernel
theorem dX4_readNumber_17 : decode cX4_readNumber 17 = .ok (.ireturn, 1) := by decide +kernel
theorem dX4_readNumber_18 : decode cX4_readNumber 18 = .ok (.aload_n 0, 1) := by decide +kernel
theorem dX4_readNumber_19 : decode cX4_readNumber 19 = .ok (.getfield 68, 3) := by decide +kernel
theorem dX4_readNumber_22 : decode cX4_readNumber 22 = .ok (.iload_n 1, 1) := by decide +kernel
theorem dX4_readNumber_23 : decode cX4_readNumber 23 = .ok (.if_icmp .le 11, 3) := by decide +kernel
theorem dX4_readNumber_26 : decode cX4_readNumber 26 = .ok (.aload_n 0, 1) := by decide +kernel
theorem dX4_readNumber_27 : decode cX4_readNumber 27 = .ok (.iconst 2, 1) := by decide +kernel
theorem dX4_readNumber_28 : decode cX4_readNumber 28 = .ok (.invokevirtual 58, 3) := by decide +kernel
theorem dX4_readNumber_31 : decode cX4_readNumber 31 = .ok (.ifCond .eq 7, 3) := by decide +kernel
theorem dX4_readNumber_34 : decode cX4_readNumber 34 = .ok (.iconst 1, 1) := by decide +kernel
theorem dX4_readNumber_35 : decode cX4_readNumber 35 = .ok (.goto 4, 3) := by decide +kernel
theorem dX4_readNumber_38 : decode cX4_readNumber 38 = .ok (.iconst 0, 1) := by decide +kernel
theorem dX4_readNumber_39 : decode cX4_readNumber 39 = .ok (.ireturn, 1) := by decide +kernel
theorem dX4_readSign_0 : decode cX4_readSign 0 = .ok (.aload_n 0, 1) := by decide +kernel
theorem dX4_readSign_1 : decode cX4_readSign 1 = .ok (.invokevirtual 40, 3) := by decide +kernel
theorem dX4_readSign_4 : decode cX4_readSign 4 = .ok (.aload_n 0, 1) := by decide +kernel
theorem dX4_readSign_5 : decode cX4_readSign 5 = .ok (.getfield 43, 3) := by decide +kernel
theorem dX4_readSign_8 : decode cX4_readSign 8 = .ok (.iconst 3, 1) := by decide +kernel
theorem dX4_readSign_9 : decode cX4_readSign 9 = .ok (.if_icmp .eq 11, 3) := by decide +kernel
theorem dX4_readSign_12 : decode cX4_readSign 12 = .ok (.aload_n 0, 1) := by decide +kernel
theorem dX4_readSign_13 : decode cX4_readSign 13 = .ok (.iconst 1, 1) := by decide +kernel
theorem dX4_readSign_14 : decode cX4_readSign 14 = .ok (.invokevirtual 58, 3) := by decide +kernel
theorem dX4_readSign_17 : decode cX4_readSign 17 = .ok (.ifCond .eq 7, 3) := by decide +kernel
theorem dX4_readSign_20 : decode cX4_readSign 20 = .ok (.iconst 1, 1) := by decide +kernel
theorem dX4_readSign_21 : decode cX4_readSign 21 = .ok (.goto 4, 3) := by decide +kernel
theorem dX4_readSign_24 : decode cX4_readSign 24 = .ok (.iconst 0, 1) := by decide +kernel
theorem dX4_readSign_25 : decode cX4_readSign 25 = .ok (.ireturn, 1) := by decide +kernel
theorem dX4_fail_0 : decode cX4_fail 0 = .ok (.aload_n 0, 1) := by decide +kernel
theorem dX4_fail_1 : decode cX4_fail 1 = .ok (.iload_n 1, 1) := by decide +kernel
theorem dX4_fail_2 : decode cX4_fail 2 = .ok (.putfield 33, 3) := by decide +kernel
theorem dX4_fail_5 : decode cX4_fail 5 = .ok (.iconst 0, 1) := by decide +kernel
theorem dX4_fail_6 : decode cX4_fail 6 = .ok (.ireturn, 1) := by decide +kernel
theorem dX4_step_0 : decode cX4_step 0 = .ok (.aload_n 0, 1) := by decide +kernel
theorem dX4_step_1 : decode cX4_step 1 = .ok (.aload_n 0, 1) := by decide +kernel
theorem dX4_step_2 : decode cX4_step 2 = .ok (.getfield 30, 3) := by decide +kernel
theorem dX4_step_5 : decode cX4_step 5 = .ok (.putfield 102, 3) := by decide +kernel
theorem dX4_step_8 : decode cX4_step 8 = .ok (.aload_n 0, 1) := by decide +kernel
theorem dX4_step_9 : decode cX4_step 9 = .ok (.getfield 102, 3) := by decide +kernel
theorem dX4_step_12 : decode cX4_step 12 = .ok (.aload_n 0, 1) := by decide +kernel
theorem dX4_step_13 : decode cX4_step 13 = .ok (.getfield 105, 3) := by decide +kernel
theorem dX4_step_16 : decode cX4_step 16 = .ok (.if_icmp .ge 44, 3) := by decide +kernel
theorem dX4_step_19 : decode cX4_step 19 = .ok (.aload_n 0, 1) := by decide +kernel
theorem dX4_step_20 : decode cX4_step 20 = .ok (.getfield 9, 3) := by decide +kernel
theorem dX4_step_23 : decode cX4_step 23 = .ok (.aload_n 0, 1) := by decide +kernel
theorem dX4_step_24 : decode cX4_step 24 = .ok (.getfield 102, 3) := by decide +kernel
theorem dX4_step_27 : decode cX4_step 27 = .ok (.baload, 1) := by decide +kernel
theorem dX4_step_28 : decode cX4_step 28 = .ok (.bipush 32, 2) := by decide +kernel
theorem dX4_step_30 : decode cX4_step 30 = .ok (.if_icmp .eq 17, 3) := by decide +kernel
theorem dX4_step_33 : decode cX4_step 33 = .ok (.aload_n 0, 1) := by decide +kernel
theorem dX4_step_34 : decode cX4_step 34 = .ok (.getfield 9, 3) := by decide +kernel
theorem dX4_step_37 : decode cX4_step 37 = .ok (.aload_n 0, 1) := by decide +kernel
theorem dX4_step_38 : decode cX4_step 38 = .ok (.getfield 102, 3) := by decide +kernel
theorem dX4_step_41 : decode cX4_step 41 = .ok (.baload, 1) := by decide +kernel
theorem dX4_step_42 : decode cX4_step 42 = .ok (.bipush 10, 2) := by decide +kernel
theorem dX4_step_44 : decode cX4_step 44 = .ok (.if_icmp .ne 16, 3) := by decide +kernel
theorem dX4_step_47 : decode cX4_step 47 = .ok (.aload_n 0, 1) := by decide +kernel
theorem dX4_step_48 : decode cX4_step 48 = .ok (.dup, 1) := by decide +kernel
theorem dX4_step_49 : decode cX4_step 49 = .ok (.getfield 102, 3) := by decide +kernel
theorem dX4_step_52 : decode cX4_step 52 = .ok (.iconst 1, 1) := by decide +kernel
theorem dX4_step_53 : decode cX4_step 53 = .ok (.iadd, 1) := by decide +kernel
theorem dX4_step_54 : decode cX4_step 54 = .ok (.putfield 102, 3) := by decide +kernel
theorem dX4_step_57 : decode cX4_step 57 = .ok (.goto (-49), 3) := by decide +kernel
theorem dX4_step_60 : decode cX4_step 60 = .ok (.aload_n 0, 1) := by decide +kernel
theorem dX4_step_61 : decode cX4_step 61 = .ok (.aload_n 0, 1) := by decide +kernel
theorem dX4_step_62 : decode cX4_step 62 = .ok (.getfield 102, 3) := by decide +kernel
theorem dX4_step_65 : decode cX4_step 65 = .ok (.putfield 30, 3) := by decide +kernel
theorem dX4_step_68 : decode cX4_step 68 = .ok (.aload_n 0, 1) := by decide +kernel
theorem dX4_step_69 : decode cX4_step 69 = .ok (.getfield 102, 3) := by decide +kernel
theorem dX4_step_72 : decode cX4_step 72 = .ok (.aload_n 0, 1) := by decide +kernel
theorem dX4_step_73 : decode cX4_step 73 = .ok (.getfield 105, 3) := by decide +kernel
theorem dX4_step_76 : decode cX4_step 76 = .ok (.if_icmp .lt 11, 3) := by decide +kernel
theorem dX4_step_79 : decode cX4_step 79 = .ok (.aload_n 0, 1) := by decide +kernel
theorem dX4_step_80 : decode cX4_step 80 = .ok (.iconst 0, 1) := by decide +kernel
theorem dX4_step_81 : decode cX4_step 81 = .ok (.putfield 43, 3) := by decide +kernel
theorem dX4_step_84 : decode cX4_step 84 = .ok (.goto 72, 3) := by decide +kernel
theorem dX4_step_87 : decode cX4_step 87 = .ok (.aload_n 0, 1) := by decide +kernel
theorem dX4_step_88 : decode cX4_step 88 = .ok (.aload_n 0, 1) := by decide +kernel
theorem dX4_step_89 : decode cX4_step 89 = .ok (.getfield 102, 3) := by decide +kernel
theorem dX4_step_92 : decode cX4_step 92 = .ok (.invokevirtual 108, 3) := by decide +kernel
theorem dX4_step_95 : decode cX4_step 95 = .ok (.ifCond .eq 10, 3) := by decide +kernel
theorem dX4_step_98 : decode cX4_step 98 = .ok (.aload_n 0, 1) := by decide +kernel
theorem dX4_step_99 : decode cX4_step 99 = .ok (.invokevirtual 111, 3) := by decide +kernel
theorem dX4_step_102 : decode cX4_step 102 = .ok (.goto 54, 3) := by decide +kernel
theorem dX4_step_105 : decode cX4_step 105 = .ok (.aload_n 0, 1) := by decide +kernel
theorem dX4_step_106 : decode cX4_step 106 = .ok (.aload_n 0, 1) := by decide +kernel
theorem dX4_step_107 : decode cX4_step 107 = .ok (.getfield 102, 3) := by decide +kernel
theorem dX4_step_110 : decode cX4_step 110 = .ok (.invokevirtual 114, 3) := by decide +kernel
theorem dX4_step_113 : decode cX4_step 113 = .ok (.ifCond .eq 10, 3) := by decide +kernel
theorem dX4_step_116 : decode cX4_step 116 = .ok (.aload_n 0, 1) := by decide +kernel
theorem dX4_step_117 : decode cX4_step 117 = .ok (.invokevirtual 117, 3) := by decide +kernel
theorem dX4_step_120 : decode cX4_step 120 = .ok (.goto 36, 3) := by decide +kernel
theorem dX4_step_123 : decode cX4_step 123 = .ok (.aload_n 0, 1) := by decide +kernel
theorem dX4_step_124 : decode cX4_step 124 = .ok (.dup, 1) := by decide +kernel
theorem dX4_step_125 : decode cX4_step 125 = .ok (.getfield 30, 3) := by decide +kernel
theorem dX4_step_128 : decode cX4_step 128 = .ok (.iconst 1, 1) := by decide +kernel
theorem dX4_step_129 : decode cX4_step 129 = .ok (.iadd, 1) := by decide +kernel
theorem dX4_step_130 : decode cX4_step 130 = .ok (.putfield 30, 3) := by decide +kernel
theorem dX4_step_133 : decode cX4_step 133 = .ok (.aload_n 0, 1) := by decide +kernel
theorem dX4_step_134 : decode cX4_step 134 = .ok (.aload_n 0, 1) := by decide +kernel
theorem dX4_step_135 : decode cX4_step 135 = .ok (.getfield 9, 3) := by decide +kernel
theorem dX4_step_138 : decode cX4_step 138 = .ok (.aload_n 0, 1) := by decide +kernel
theorem dX4_step_139 : decode cX4_step 139 = .ok (.getfield 102, 3) := by decide +kernel
theorem dX4_step_142 : decode cX4_step 142 = .ok (.baload, 1) := by decide +kernel
theorem dX4_step_143 : decode cX4_step 143 = .ok (.bipush 59, 2) := by decide +kernel
theorem dX4_step_145 : decode cX4_step 145 = .ok (.if_icmp .ne 7, 3) := by decide +kernel
theorem dX4_step_148 : decode cX4_step 148 = .ok (.iconst 3, 1) := by decide +kernel
theorem dX4_step_149 : decode cX4_step 149 = .ok (.goto 4, 3) := by decide +kernel
theorem dX4_step_152 : decode cX4_step 152 = .ok (.iconst 4, 1) := by decide +kernel
theorem dX4_step_153 : decode cX4_step 153 = .ok (.putfield 43, 3) := by decide +kernel
theorem dX4_step_156 : decode cX4_step 156 = .ok (.return_, 1) := by decide +kernel
theorem dX4_stepName_0 : decode cX4_stepName 0 = .ok (.aload_n 0, 1) := by decide +kernel
theorem dX4_stepName_1 : decode cX4_stepName 1 = .ok (.getfield 30, 3) := by decide +kernel
theorem dX4_stepName_4 : decode cX4_stepName 4 = .ok (.aload_n 0, 1) := by decide +kernel
theorem dX4_stepName_5 : decode cX4_stepName 5 = .ok (.getfield 105, 3) := by decide +kernel
theorem dX4_stepName_8 : decode cX4_stepName 8 = .ok (.if_icmp .ge 27, 3) := by decide +kernel
theorem dX4_stepName_11 : decode cX4_stepName 11 = .ok (.aload_n 0, 1) := by decide +kernel
theorem dX4_stepName_12 : decode cX4_stepName 12 = .ok (.aload_n 0, 1) := by decide +kernel
theorem dX4_stepName_13 : decode cX4_stepName 13 = .ok (.getfield 30, 3) := by decide +kernel
theorem dX4_stepName_16 : decode cX4_stepName 16 = .ok (.invokevirtual 108, 3) := by decide +kernel
theorem dX4_stepName_19 : decode cX4_stepName 19 = .ok (.ifCond .eq 16, 3) := by decide +kernel
theorem dX4_stepName_22 : decode cX4_stepName 22 = .ok (.aload_n 0, 1) := by decide +kernel
theorem dX4_stepName_23 : decode cX4_stepName 23 = .ok (.dup, 1) := by decide +kernel
theorem dX4_stepName_24 : decode cX4_stepName 24 = .ok (.getfield 30, 3) := by decide +kernel
theorem dX4_stepName_27 : decode cX4_stepName 27 = .ok (.iconst 1, 1) := by decide +kernel
theorem dX4_stepName_28 : decode cX4_stepName 28 = .ok (.iadd, 1) := by decide +kernel
theorem dX4_stepName_29 : decode cX4_stepName 29 = .ok (.putfield 30, 3) := by decide +kernel
theorem dX4_stepName_32 : decode cX4_stepName 32 = .ok (.goto (-32), 3) := by decide +kernel
theorem dX4_stepName_35 : decode cX4_stepName 35 = .ok (.aload_n 0, 1) := by decide +kernel
theorem dX4_stepName_36 : decode cX4_stepName 36 = .ok (.iconst 1, 1) := by decide +kernel
theorem dX4_stepName_37 : decode cX4_stepName 37 = .ok (.putfield 43, 3) := by decide +kernel
theorem dX4_stepName_40 : decode cX4_stepName 40 = .ok (.return_, 1) := by decide +kernel
theorem dX4_stepNumber_0 : decode cX4_stepNumber 0 = .ok (.aload_n 0, 1) := by decide +kernel
theorem dX4_stepNumber_1 : decode cX4_stepNumber 1 = .ok (.iconst 0, 1) := by decide +kernel
theorem dX4_stepNumber_2 : decode cX4_stepNumber 2 = .ok (.putfield 68, 3) := by decide +kernel
theorem dX4_stepNumber_5 : decode cX4_stepNumber 5 = .ok (.aload_n 0, 1) := by decide +kernel
theorem dX4_stepNumber_6 : decode cX4_stepNumber 6 = .ok (.getfield 30, 3) := by decide +kernel
theorem dX4_stepNumber_9 : decode cX4_stepNumber 9 = .ok (.aload_n 0, 1) := by decide +kernel
theorem dX4_stepNumber_10 : decode cX4_stepNumber 10 = .ok (.getfield 105, 3) := by decide +kernel
theorem dX4_stepNumber_13 : decode cX4_stepNumber 13 = .ok (.if_icmp .ge 64, 3) := by decide +kernel
theorem dX4_stepNumber_16 : decode cX4_stepNumber 16 = .ok (.aload_n 0, 1) := by decide +kernel
theorem dX4_stepNumber_17 : decode cX4_stepNumber 17 = .ok (.aload_n 0, 1) := by decide +kernel
theorem dX4_stepNumber_18 : decode cX4_stepNumber 18 = .ok (.getfield 30, 3) := by decide +kernel
theorem dX4_stepNumber_21 : decode cX4_stepNumber 21 = .ok (.invokevirtual 114, 3) := by decide +kernel
theorem dX4_stepNumber_24 : decode cX4_stepNumber 24 = .ok (.ifCond .eq 53, 3) := by decide +kernel
theorem dX4_stepNumber_27 : decode cX4_stepNumber 27 = .ok (.aload_n 0, 1) := by decide +kernel
theorem dX4_stepNumber_28 : decode cX4_stepNumber 28 = .ok (.getfield 30, 3) := by decide +kernel
theorem dX4_stepNumber_31 : decode cX4_stepNumber 31 = .ok (.aload_n 0, 1) := by decide +kernel
theorem dX4_stepNumber_32 : decode cX4_stepNumber 32 = .ok (.getfield 102, 3) := by decide +kernel
theorem dX4_stepNumber_35 : decode cX4_stepNumber 35 = .ok (.isub, 1) := by decide +kernel
theorem dX4_stepNumber_36 : decode cX4_stepNumber 36 = .ok (.iconst 3, 1) := by decide +kernel
theorem dX4_stepNumber_37 : decode cX4_stepNumber 37 = .ok (.if_icmp .ge 27, 3) := by decide +kernel
theorem dX4_stepNumber_40 : decode cX4_stepNumber 40 = .ok (.aload_n 0, 1) := by decide +kernel
theorem dX4_stepNumber_41 : decode cX4_stepNumber 41 = .ok (.bipush 10, 2) := by decide +kernel
theorem dX4_stepNumber_43 : decode cX4_stepNumber 43 = .ok (.aload_n 0, 1) := by decide +kernel
theorem dX4_stepNumber_44 : decode cX4_stepNumber 44 = .ok (.getfield 68, 3) := by decide +kernel
theorem dX4_stepNumber_47 : decode cX4_stepNumber 47 = .ok (.imul, 1) := by decide +kernel
theorem dX4_stepNumber_48 : decode cX4_stepNumber 48 = .ok (.aload_n 0, 1) := by decide +kernel
theorem dX4_stepNumber_49 : decode cX4_stepNumber 49 = .ok (.getfield 9, 3) := by decide +kernel
theorem dX4_stepNumber_52 : decode cX4_stepNumber 52 = .ok (.aload_n 0, 1) := by decide +kernel
theorem dX4_stepNumber_53 : decode cX4_stepNumber 53 = .ok (.getfield 30, 3) := by decide +kernel
theorem dX4_stepNumber_56 : decode cX4_stepNumber 56 = .ok (.baload, 1) := by decide +kernel
theorem dX4_stepNumber_57 : decode cX4_stepNumber 57 = .ok (.iadd, 1) := by decide +kernel
theorem dX4_stepNumber_58 : decode cX4_stepNumber 58 = .ok (.bipush 48, 2) := by decide +kernel
theorem dX4_stepNumber_60 : decode cX4_stepNumber 60 = .ok (.isub, 1) := by decide +kernel
theorem dX4_stepNumber_61 : decode cX4_stepNumber 61 = .ok (.putfield 68, 3) := by decide +kernel
theorem dX4_stepNumber_64 : decode cX4_stepNumber 64 = .ok (.aload_n 0, 1) := by decide +kernel
theorem dX4_stepNumber_65 : decode cX4_stepNumber 65 = .ok (.dup, 1) := by decide +kernel
theorem dX4_stepNumber_66 : decode cX4_stepNumber 66 = .ok (.getfield 30, 3) := by decide +kernel
theorem dX4_stepNumber_69 : decode cX4_stepNumber 69 = .ok (.iconst 1, 1) := by decide +kernel
theorem dX4_stepNumber_70 : decode cX4_stepNumber 70 = .ok (.iadd, 1) := by decide +kernel
theorem dX4_stepNumber_71 : decode cX4_stepNumber 71 = .ok (.putfield 30, 3) := by decide +kernel
theorem dX4_stepNumber_74 : decode cX4_stepNumber 74 = .ok (.goto (-69), 3) := by decide +kernel
theorem dX4_stepNumber_77 : decode cX4_stepNumber 77 = .ok (.aload_n 0, 1) := by decide +kernel
theorem dX4_stepNumber_78 : decode cX4_stepNumber 78 = .ok (.aload_n 0, 1) := by decide +kernel
theorem dX4_stepNumber_79 : decode cX4_stepNumber 79 = .ok (.getfield 30, 3) := by decide +kernel
theorem dX4_stepNumber_82 : decode cX4_stepNumber 82 = .ok (.aload_n 0, 1) := by decide +kernel
theorem dX4_stepNumber_83 : decode cX4_stepNumber 83 = .ok (.getfield 102, 3) := by decide +kernel
theorem dX4_stepNumber_86 : decode cX4_stepNumber 86 = .ok (.isub, 1) := by decide +kernel
theorem dX4_stepNumber_87 : decode cX4_stepNumber 87 = .ok (.iconst 3, 1) := by decide +kernel
theorem dX4_stepNumber_88 : decode cX4_stepNumber 88 = .ok (.if_icmp .gt 7, 3) := by decide +kernel
theorem dX4_stepNumber_91 : decode cX4_stepNumber 91 = .ok (.iconst 2, 1) := by decide +kernel
theorem dX4_stepNumber_92 : decode cX4_stepNumber 92 = .ok (.goto 4, 3) := by decide +kernel
theorem dX4_stepNumber_95 : decode cX4_stepNumber 95 = .ok (.iconst 4, 1) := by decide +kernel
theorem dX4_stepNumber_96 : decode cX4_stepNumber 96 = .ok (.putfield 43, 3) := by decide +kernel
theorem dX4_stepNumber_99 : decode cX4_stepNumber 99 = .ok (.return_, 1) := by decide +kernel
theorem dX4_isLetter_0 : decode cX4_isLetter 0 = .ok (.aload_n 0, 1) := by decide +kernel
theorem dX4_isLetter_1 : decode cX4_isLetter 1 = .ok (.getfield 9, 3) := by decide +kernel
theorem dX4_isLetter_4 : decode cX4_isLetter 4 = .ok (.iload_n 1, 1) := by decide +kernel
theorem dX4_isLetter_5 : decode cX4_isLetter 5 = .ok (.baload, 1) := by decide +kernel
theorem dX4_isLetter_6 : decode cX4_isLetter 6 = .ok (.bipush 97, 2) := by decide +kernel
theorem dX4_isLetter_8 : decode cX4_isLetter 8 = .ok (.if_icmp .lt 18, 3) := by decide +kernel
theorem dX4_isLetter_11 : decode cX4_isLetter 11 = .ok (.aload_n 0, 1) := by decide +kernel
theorem dX4_isLetter_12 : decode cX4_isLetter 12 = .ok (.getfield 9, 3) := by decide +kernel
theorem dX4_isLetter_15 : decode cX4_isLetter 15 = .ok (.iload_n 1, 1) := by decide +kernel
theorem dX4_isLetter_16 : decode cX4_isLetter 16 = .ok (.baload, 1) := by decide +kernel
theorem dX4_isLetter_17 : decode cX4_isLetter 17 = .ok (.bipush 122, 2) := by decide +kernel
theorem dX4_isLetter_19 : decode cX4_isLetter 19 = .ok (.if_icmp .gt 7, 3) := by decide +kernel
theorem dX4_isLetter_22 : decode cX4_isLetter 22 = .ok (.iconst 1, 1) := by decide +kernel
theorem dX4_isLetter_23 : decode cX4_isLetter 23 = .ok (.goto 4, 3) := by decide +kernel
theorem dX4_isLetter_26 : decode cX4_isLetter 26 = .ok (.iconst 0, 1) := by decide +kernel
theorem dX4_isLetter_27 : decode cX4_isLetter 27 = .ok (.ireturn, 1) := by decide +kernel
theorem dX4_isFigure_0 : decode cX4_isFigure 0 = .ok (.aload_n 0, 1) := by decide +kernel
theorem dX4_isFigure_1 : decode cX4_isFigure 1 = .ok (.getfield 9, 3) := by decide +kernel
theorem dX4_isFigure_4 : decode cX4_isFigure 4 = .ok (.iload_n 1, 1) := by decide +kernel
theorem dX4_isFigure_5 : decode cX4_isFigure 5 = .ok (.baload, 1) := by decide +kernel
theorem dX4_isFigure_6 : decode cX4_isFigure 6 = .ok (.bipush 48, 2) := by decide +kernel
theorem dX4_isFigure_8 : decode cX4_isFigure 8 = .ok (.if_icmp .lt 18, 3) := by decide +kernel
theorem dX4_isFigure_11 : decode cX4_isFigure 11 = .ok (.aload_n 0, 1) := by decide +kernel
theorem dX4_isFigure_12 : decode cX4_isFigure 12 = .ok (.getfield 9, 3) := by decide +kernel
theorem dX4_isFigure_15 : decode cX4_isFigure 15 = .ok (.iload_n 1, 1) := by decide +kernel
theorem dX4_isFigure_16 : decode cX4_isFigure 16 = .ok (.baload, 1) := by decide +kernel
theorem dX4_isFigure_17 : decode cX4_isFigure 17 = .ok (.bipush 57, 2) := by decide +kernel
theorem dX4_isFigure_19 : decode cX4_isFigure 19 = .ok (.if_icmp .gt 7, 3) := by decide +kernel
theorem dX4_isFigure_22 : decode cX4_isFigure 22 = .ok (.iconst 1, 1) := by decide +kernel
theorem dX4_isFigure_23 : decode cX4_isFigure 23 = .ok (.goto 4, 3) := by decide +kernel
theorem dX4_isFigure_26 : decode cX4_isFigure 26 = .ok (.iconst 0, 1) := by decide +kernel
theorem dX4_isFigure_27 : decode cX4_isFigure 27 = .ok (.ireturn, 1) := by decide +kernel
theorem dX4_isWord_0 : decode cX4_isWord 0 = .ok (.aload_n 0, 1) := by decide +kernel
theorem dX4_isWord_1 : decode cX4_isWord 1 = .ok (.getfield 43, 3) := by decide +kernel
theorem dX4_isWord_4 : decode cX4_isWord 4 = .ok (.iconst 1, 1) := by decide +kernel
theorem dX4_isWord_5 : decode cX4_isWord 5 = .ok (.if_icmp .ne 19, 3) := by decide +kernel
theorem dX4_isWord_8 : decode cX4_isWord 8 = .ok (.aload_n 0, 1) := by decide +kernel
theorem dX4_isWord_9 : decode cX4_isWord 9 = .ok (.getfield 30, 3) := by decide +kernel
theorem dX4_isWord_12 : decode cX4_isWord 12 = .ok (.aload_n 0, 1) := by decide +kernel
theorem dX4_isWord_13 : decode cX4_isWord 13 = .ok (.getfield 102, 3) := by decide +kernel
theorem dX4_isWord_16 : decode cX4_isWord 16 = .ok (.isub, 1) := by decide +kernel
theorem dX4_isWord_17 : decode cX4_isWord 17 = .ok (.aload_n 1, 1) := by decide +kernel
theorem dX4_isWord_18 : decode cX4_isWord 18 = .ok (.invokevirtual 120, 3) := by decide +kernel
theorem dX4_isWord_21 : decode cX4_isWord 21 = .ok (.if_icmp .eq 5, 3) := by decide +kernel
theorem dX4_isWord_24 : decode cX4_isWord 24 = .ok (.iconst 0, 1) := by decide +kernel
theorem dX4_isWord_25 : decode cX4_isWord 25 = .ok (.ireturn, 1) := by decide +kernel
theorem dX4_isWord_26 : decode cX4_isWord 26 = .ok (.iconst 0, 1) := by decide +kernel
theorem dX4_isWord_27 : decode cX4_isWord 27 = .ok (.istore_n 2, 1) := by decide +kernel
theorem dX4_isWord_28 : decode cX4_isWord 28 = .ok (.iload_n 2, 1) := by decide +kernel
theorem dX4_isWord_29 : decode cX4_isWord 29 = .ok (.aload_n 1, 1) := by decide +kernel
theorem dX4_isWord_30 : decode cX4_isWord 30 = .ok (.invokevirtual 120, 3) := by decide +kernel
theorem dX4_isWord_33 : decode cX4_isWord 33 = .ok (.if_icmp .ge 30, 3) := by decide +kernel
theorem dX4_isWord_36 : decode cX4_isWord 36 = .ok (.aload_n 0, 1) := by decide +kernel
theorem dX4_isWord_37 : decode cX4_isWord 37 = .ok (.getfield 9, 3) := by decide +kernel
theorem dX4_isWord_40 : decode cX4_isWord 40 = .ok (.aload_n 0, 1) := by decide +kernel
theorem dX4_isWord_41 : decode cX4_isWord 41 = .ok (.getfield 102, 3) := by decide +kernel
theorem dX4_isWord_44 : decode cX4_isWord 44 = .ok (.iload_n 2, 1) := by decide +kernel
theorem dX4_isWord_45 : decode cX4_isWord 45 = .ok (.iadd, 1) := by decide +kernel
theorem dX4_isWord_46 : decode cX4_isWord 46 = .ok (.baload, 1) := by decide +kernel
theorem dX4_isWord_47 : decode cX4_isWord 47 = .ok (.aload_n 1, 1) := by decide +kernel
theorem dX4_isWord_48 : decode cX4_isWord 48 = .ok (.iload_n 2, 1) := by decide +kernel
theorem dX4_isWord_49 : decode cX4_isWord 49 = .ok (.invokevirtual 124, 3) := by decide +kernel
theorem dX4_isWord_52 : decode cX4_isWord 52 = .ok (.if_icmp .eq 5, 3) := by decide +kernel
theorem dX4_isWord_55 : decode cX4_isWord 55 = .ok (.iconst 0, 1) := by decide +kernel
theorem dX4_isWord_56 : decode cX4_isWord 56 = .ok (.ireturn, 1) := by decide +kernel
theorem dX4_isWord_57 : decode cX4_isWord 57 = .ok (.iinc 2 1, 3) := by decide +kernel
theorem dX4_isWord_60 : decode cX4_isWord 60 = .ok (.goto (-32), 3) := by decide +kernel
theorem dX4_isWord_63 : decode cX4_isWord 63 = .ok (.iconst 1, 1) := by decide +kernel
theorem dX4_isWord_64 : decode cX4_isWord 64 = .ok (.ireturn, 1) := by decide +kernel
theorem dX5_init_0 : decode cX5_init 0 = .ok (.aload_n 0, 1) := by decide +kernel
theorem dX5_init_1 : decode cX5_init 1 = .ok (.invokespecial 3, 3) := by decide +kernel
theorem dX5_init_4 : decode cX5_init 4 = .ok (.aload_n 0, 1) := by decide +kernel
theorem dX5_init_5 : decode cX5_init 5 = .ok (.bipush 40, 2) := by decide +kernel
theorem dX5_init_7 : decode cX5_init 7 = .ok (.newarray .int, 2) := by decide +kernel
theorem dX5_init_9 : decode cX5_init 9 = .ok (.putfield 9, 3) := by decide +kernel
theorem dX5_init_12 : decode cX5_init 12 = .ok (.return_, 1) := by decide +kernel
theorem dX5_begin_0 : decode cX5_begin 0 = .ok (.aload_n 0, 1) := by decide +kernel
theorem dX5_begin_1 : decode cX5_begin 1 = .ok (.getfield 9, 3) := by decide +kernel
theorem dX5_begin_4 : decode cX5_begin 4 = .ok (.iconst 0, 1) := by decide +kernel
theorem dX5_begin_5 : decode cX5_begin 5 = .ok (.invokestatic 15, 3) := by decide +kernel
theorem dX5_begin_8 : decode cX5_begin 8 = .ok (.aload_n 0, 1) := by decide +kernel
theorem dX5_begin_9 : decode cX5_begin 9 = .ok (.iconst 1, 1) := by decide +kernel
theorem dX5_begin_10 : decode cX5_begin 10 = .ok (.putfield 21, 3) := by decide +kernel
theorem dX5_begin_13 : decode cX5_begin 13 = .ok (.aload_n 0, 1) := by decide +kernel
theorem dX5_begin_14 : decode cX5_begin 14 = .ok (.iload_n 1, 1) := by decide +kernel
theorem dX5_begin_15 : decode cX5_begin 15 = .ok (.putfield 25, 3) := by decide +kernel
theorem dX5_begin_18 : decode cX5_begin 18 = .ok (.aload_n 0, 1) := by decide +kernel
theorem dX5_begin_19 : decode cX5_begin 19 = .ok (.iload_n 2, 1) := by decide +kernel
theorem dX5_begin_20 : decode cX5_begin 20 = .ok (.putfield 29, 3) := by decide +kernel
theorem dX5_begin_23 : decode cX5_begin 23 = .ok (.return_, 1) := by decide +kernel
theorem dX5_hasPlaces_0 : decode cX5_hasPlaces 0 = .ok (.iload_n 1, 1) := by decide +kernel
theorem dX5_hasPlaces_1 : decode cX5_hasPlaces 1 = .ok (.ifCond .lt 29, 3) := by decide +kernel
theorem dX5_hasPlaces_4 : decode cX5_hasPlaces 4 = .ok (.iload_n 2, 1) := by decide +kernel
theorem dX5_hasPlaces_5 : decode cX5_hasPlaces 5 = .ok (.ifCond .lt 25, 3) := by decide +kernel
theorem dX5_hasPlaces_8 : decode cX5_hasPlaces 8 = .ok (.iload_n 1, 1) := by decide +kernel
theorem dX5_hasPlaces_9 : decode cX5_hasPlaces 9 = .ok (.aload_n 0, 1) := by decide +kernel
theorem dX5_hasPlaces_10 : decode cX5_hasPlaces 10 = .ok (.getfield 29, 3) := by decide +kernel
theorem dX5_hasPlaces_13 : decode cX5_hasPlaces 13 = .ok (.if_icmp .gt 17, 3) := by decide +kernel
theorem dX5_hasPlaces_16 : decode cX5_hasPlaces 16 = .ok (.iload_n 2, 1) := by decide +kernel
theorem dX5_hasPlaces_17 : decode cX5_hasPlaces 17 = .ok (.aload_n 0, 1) := by decide +kernel
theorem dX5_hasPlaces_18 : decode cX5_hasPlaces 18 = .ok (.getfield 29, 3) := by decide +kernel
theorem dX5_hasPlaces_21 : decode cX5_hasPlaces 21 = .ok (.iload_n 1, 1) := by decide +kernel
theorem dX5_hasPlaces_22 : decode cX5_hasPlaces 22 = .ok (.isub, 1) := by decide +kernel
theorem dX5_hasPlaces_23 : decode cX5_hasPlaces 23 = .ok (.if_icmp .gt 7, 3) := by decide +kernel
theorem dX5_hasPlaces_26 : decode cX5_hasPlaces 26 = .ok (.iconst 1, 1) := by decide +kernel
theorem dX5_hasPlaces_27 : decode cX5_hasPlaces 27 = .ok (.goto 4, 3) := by decide +kernel
theorem dX5_hasPlaces_30 : decode cX5_hasPlaces 30 = .ok (.iconst 0, 1) := by decide +kernel
theorem dX5_hasPlaces_31 : decode cX5_hasPlaces 31 = .ok (.ireturn, 1) := by decide +kernel
theorem dX5_lowestBits_0 : decode cX5_lowestBits 0 = .ok (.aload_n 0, 1) := by decide +kernel
theorem dX5_lowestBits_1 : decode cX5_lowestBits 1 = .ok (.getfield 25, 3) := by decide +kernel
theorem dX5_lowestBits_4 : decode cX5_lowestBits 4 = .ok (.ifCond .ne 6, 3) := by decide +kernel
theorem dX5_lowestBits_7 : decode cX5_lowestBits 7 = .ok (.iload_n 1, 1) := by decide +kernel
theorem dX5_lowestBits_8 : decode cX5_lowestBits 8 = .ok (.i2b, 1) := by decide +kernel
theorem dX5_lowestBits_9 : decode cX5_lowestBits 9 = .ok (.ireturn, 1) := by decide +kernel
theorem dX5_lowestBits_10 : decode cX5_lowestBits 10 = .ok (.aload_n 0, 1) := by decide +kernel
theorem dX5_lowestBits_11 : decode cX5_lowestBits 11 = .ok (.getfield 25, 3) := by decide +kernel
theorem dX5_lowestBits_14 : decode cX5_lowestBits 14 = .ok (.iconst 1, 1) := by decide +kernel
theorem dX5_lowestBits_15 : decode cX5_lowestBits 15 = .ok (.if_icmp .ne 8, 3) := by decide +kernel
theorem dX5_lowestBits_18 : decode cX5_lowestBits 18 = .ok (.iload_n 1, 1) := by decide +kernel
theorem dX5_lowestBits_19 : decode cX5_lowestBits 19 = .ok (.i2s, 1) := by decide +kernel
theorem dX5_lowestBits_20 : decode cX5_lowestBits 20 = .ok (.goto 4, 3) := by decide +kernel
theorem dX5_lowestBits_23 : decode cX5_lowestBits 23 = .ok (.iload_n 1, 1) := by decide +kernel
theorem dX5_lowestBits_24 : decode cX5_lowestBits 24 = .ok (.ireturn, 1) := by decide +kernel
theorem dJ0_length_8abf5_0 : decode cJ0_length_8abf5 0 = .ok (.aload_n 0, 1) := by decide +kernel
theorem dJ0_length_8abf5_1 : decode cJ0_length_8abf5 1 = .ok (.getfield 9, 3) := by decide +kernel
theorem dJ0_length_8abf5_4 : decode cJ0_length_8abf5 4 = .ok (.arraylength, 1) := by decide +kernel
theorem dJ0_length_8abf5_5 : decode cJ0_length_8abf5 5 = .ok (.aload_n 0, 1) := by decide +kernel
theorem dJ0_length_8abf5_6 : decode cJ0_length_8abf5 6 = .ok (.invokevirtual 335, 3) := by decide +kernel
theorem dJ0_length_8abf5_9 : decode cJ0_length_8abf5 9 = .ok (.ishr, 1) := by decide +kernel
theorem dJ0_length_8abf5_10 : decode cJ0_length_8abf5 10 = .ok (.ireturn, 1) := by decide +kernel
theorem dJ0_charAt_5068e_0 : decode cJ0_charAt_5068e 0 = .ok (.aload_n 0, 1) := by decide +kernel
theorem dJ0_charAt_5068e_1 : decode cJ0_charAt_5068e 1 = .ok (.invokevirtual 492, 3) := by decide +kernel
theorem dJ0_charAt_5068e_4 : decode cJ0_charAt_5068e 4 = .ok (.ifCond .eq 12, 3) := by decide +kernel
theorem dJ0_charAt_5068e_7 : decode cJ0_charAt_5068e 7 = .ok (.aload_n 0, 1) := by decide +kernel
theorem dJ0_charAt_5068e_8 : decode cJ0_charAt_5068e 8 = .ok (.getfield 9, 3) := by decide +kernel
theorem dJ0_charAt_5068e_11 : decode cJ0_charAt_5068e 11 = .ok (.iload_n 1, 1) := by decide +kernel
theorem dJ0_charAt_5068e_12 : decode cJ0_charAt_5068e 12 = .ok (.invokestatic 495, 3) := by decide +kernel
theorem dJ0_charAt_5068e_15 : decode cJ0_charAt_5068e 15 = .ok (.ireturn, 1) := by decide +kernel
theorem dJ0_charAt_5068e_16 : decode cJ0_charAt_5068e 16 = .ok (.aload_n 0, 1) := by decide +kernel
theorem dJ0_charAt_5068e_17 : decode cJ0_charAt_5068e 17 = .ok (.getfield 9, 3) := by decide +kernel
theorem dJ0_charAt_5068e_20 : decode cJ0_charAt_5068e 20 = .ok (.iload_n 1, 1) := by decide +kernel
theorem dJ0_charAt_5068e_21 : decode cJ0_charAt_5068e 21 = .ok (.invokestatic 498, 3) := by decide +kernel
theorem dJ0_charAt_5068e_24 : decode cJ0_charAt_5068e 24 = .ok (.ireturn, 1) := by decide +kernel
theorem dJ0_coder_7d493_0 : decode cJ0_coder_7d493 0 = .ok (.getstatic 38, 3) := by decide +kernel
theorem dJ0_coder_7d493_3 : decode cJ0_coder_7d493 3 = .ok (.ifCond .eq 10, 3) := by decide +kernel
theorem dJ0_coder_7d493_6 : decode cJ0_coder_7d493 6 = .ok (.aload_n 0, 1) := by decide +kernel
theorem dJ0_coder_7d493_7 : decode cJ0_coder_7d493 7 = .ok (.getfield 15, 3) := by decide +kernel
theorem dJ0_coder_7d493_10 : decode cJ0_coder_7d493 10 = .ok (.goto 4, 3) := by decide +kernel
theorem dJ0_coder_7d493_13 : decode cJ0_coder_7d493 13 = .ok (.iconst 1, 1) := by decide +kernel
theorem dJ0_coder_7d493_14 : decode cJ0_coder_7d493 14 = .ok (.ireturn, 1) := by decide +kernel
theorem dJ0_isLatin1_aae02_0 : decode cJ0_isLatin1_aae02 0 = .ok (.getstatic 38, 3) := by decide +kernel
theorem dJ0_isLatin1_aae02_3 : decode cJ0_isLatin1_aae02 3 = .ok (.ifCond .eq 14, 3) := by decide +kernel
theorem dJ0_isLatin1_aae02_6 : decode cJ0_isLatin1_aae02 6 = .ok (.aload_n 0, 1) := by decide +kernel
theorem dJ0_isLatin1_aae02_7 : decode cJ0_isLatin1_aae02 7 = .ok (.getfield 15, 3) := by decide +kernel
theorem dJ0_isLatin1_aae02_10 : decode cJ0_isLatin1_aae02 10 = .ok (.ifCond .ne 7, 3) := by decide +kernel
theorem dJ0_isLatin1_aae02_13 : decode cJ0_isLatin1_aae02 13 = .ok (.iconst 1, 1) := by decide +kernel
theorem dJ0_isLatin1_aae02_14 : decode cJ0_isLatin1_aae02 14 = .ok (.goto 4, 3) := by decide +kernel
theorem dJ0_isLatin1_aae02_17 : decode cJ0_isLatin1_aae02 17 = .ok (.iconst 0, 1) := by decide +kernel
theorem dJ0_isLatin1_aae02_18 : decode cJ0_isLatin1_aae02 18 = .ok (.ireturn, 1) := by decide +kernel
theorem dJ0_checkIndex_df160_0 : decode cJ0_checkIndex_df160 0 = .ok (.iload_n 0, 1) := by decide +kernel
theorem dJ0_checkIndex_df160_1 : decode cJ0_checkIndex_df160 1 = .ok (.iload_n 1, 1) := by decide +kernel
theorem dJ0_checkIndex_df160_2 : decode cJ0_checkIndex_df160 2 = .ok (.getstatic 1053, 3) := by decide +kernel
theorem dJ0_checkIndex_df160_5 : decode cJ0_checkIndex_df160 5 = .ok (.invokestatic 1059, 3) := by decide +kernel
theorem dJ0_checkIndex_df160_8 : decode cJ0_checkIndex_df160 8 = .ok (.pop, 1) := by decide +kernel
theorem dJ0_checkIndex_df160_9 : decode cJ0_checkIndex_df160 9 = .ok (.return_, 1) := by decide +kernel
theorem dJ1_charAt_3b067_0 : decode cJ1_charAt_3b067 0 = .ok (.iload_n 1, 1) := by decide +kernel
theorem dJ1_charAt_3b067_1 : decode cJ1_charAt_3b067 1 = .ok (.aload_n 0, 1) := by decide +kernel
theorem dJ1_charAt_3b067_2 : decode cJ1_charAt_3b067 2 = .ok (.arraylength, 1) := by decide +kernel
theorem dJ1_charAt_3b067_3 : decode cJ1_charAt_3b067 3 = .ok (.invokestatic 9, 3) := by decide +kernel
theorem dJ1_charAt_3b067_6 : decode cJ1_charAt_3b067 6 = .ok (.aload_n 0, 1) := by decide +kernel
theorem dJ1_charAt_3b067_7 : decode cJ1_charAt_3b067 7 = .ok (.iload_n 1, 1) := by decide +kernel
theorem dJ1_charAt_3b067_8 : decode cJ1_charAt_3b067 8 = .ok (.baload, 1) := by decide +kernel
theorem dJ1_charAt_3b067_9 : decode cJ1_charAt_3b067 9 = .ok (.sipush 255, 3) := by decide +kernel
theorem dJ1_charAt_3b067_12 : decode cJ1_charAt_3b067 12 = .ok (.iand, 1) := by decide +kernel
theorem dJ1_charAt_3b067_13 : decode cJ1_charAt_3b067 13 = .ok (.i2c, 1) := by decide +kernel
theorem dJ1_charAt_3b067_14 : decode cJ1_charAt_3b067 14 = .ok (.ireturn, 1) := by decide +kernel
theorem dJ2_getChar_3b067_0 : decode cJ2_getChar_3b067 0 = .ok (.getstatic 44, 3) := by decide +kernel
theorem dJ2_getChar_3b067_3 : decode cJ2_getChar_3b067 3 = .ok (.ifCond .ne 25, 3) := by decide +kernel
theorem dJ2_getChar_3b067_6 : decode cJ2_getChar_3b067 6 = .ok (.iload_n 1, 1) := by decide +kernel
theorem dJ2_getChar_3b067_7 : decode cJ2_getChar_3b067 7 = .ok (.ifCond .lt 11, 3) := by decide +kernel
theorem dJ2_getChar_3b067_10 : decode cJ2_getChar_3b067 10 = .ok (.iload_n 1, 1) := by decide +kernel
theorem dJ2_getChar_3b067_11 : decode cJ2_getChar_3b067 11 = .ok (.aload_n 0, 1) := by decide +kernel
theorem dJ2_getChar_3b067_12 : decode cJ2_getChar_3b067 12 = .ok (.invokestatic 48, 3) := by decide +kernel
theorem dJ2_getChar_3b067_15 : decode cJ2_getChar_3b067 15 = .ok (.if_icmp .lt 13, 3) := by decide +kernel
theorem dJ2_getChar_3b067_18 : decode cJ2_getChar_3b067 18 = .ok (.new 52, 3) := by decide +kernel
theorem dJ2_getChar_3b067_21 : decode cJ2_getChar_3b067 21 = .ok (.dup, 1) := by decide +kernel
theorem dJ2_getChar_3b067_22 : decode cJ2_getChar_3b067 22 = .ok (.ldc 54, 2) := by decide +kernel
theorem dJ2_getChar_3b067_24 : decode cJ2_getChar_3b067 24 = .ok (.invokespecial 56, 3) := by decide +kernel
theorem dJ2_getChar_3b067_27 : decode cJ2_getChar_3b067 27 = .ok (.athrow, 1) := by decide +kernel
theorem dJ2_getChar_3b067_28 : decode cJ2_getChar_3b067 28 = .ok (.iload_n 1, 1) := by decide +kernel
theorem dJ2_getChar_3b067_29 : decode cJ2_getChar_3b067 29 = .ok (.iconst 1, 1) := by decide +kernel
theorem dJ2_getChar_3b067_30 : decode cJ2_getChar_3b067 30 = .ok (.ishl, 1) := by decide +kernel
theorem dJ2_getChar_3b067_31 : decode cJ2_getChar_3b067 31 = .ok (.istore_n 1, 1) := by decide +kernel
theorem dJ2_getChar_3b067_32 : decode cJ2_getChar_3b067 32 = .ok (.aload_n 0, 1) := by decide +kernel
theorem dJ2_getChar_3b067_33 : decode cJ2_getChar_3b067 33 = .ok (.iload_n 1, 1) := by decide +kernel
theorem dJ2_getChar_3b067_34 : decode cJ2_getChar_3b067 34 = .ok (.iinc 1 1, 3) := by decide +kernel
theorem dJ2_getChar_3b067_37 : decode cJ2_getChar_3b067 37 = .ok (.baload, 1) := by decide +kernel
theorem dJ2_getChar_3b067_38 : decode cJ2_getChar_3b067 38 = .ok (.sipush 255, 3) := by decide +kernel
theorem dJ2_getChar_3b067_41 : decode cJ2_getChar_3b067 41 = .ok (.iand, 1) := by decide +kernel
theorem dJ2_getChar_3b067_42 : decode cJ2_getChar_3b067 42 = .ok (.getstatic 59, 3) := by decide +kernel
theorem dJ2_getChar_3b067_45 : decode cJ2_getChar_3b067 45 = .ok (.ishl, 1) := by decide +kernel
theorem dJ2_getChar_3b067_46 : decode cJ2_getChar_3b067 46 = .ok (.aload_n 0, 1) := by decide +kernel
theorem dJ2_getChar_3b067_47 : decode cJ2_getChar_3b067 47 = .ok (.iload_n 1, 1) := by decide +kernel
theorem dJ2_getChar_3b067_48 : decode cJ2_getChar_3b067 48 = .ok (.baload, 1) := by decide +kernel
theorem dJ2_getChar_3b067_49 : decode cJ2_getChar_3b067 49 = .ok (.sipush 255, 3) := by decide +kernel
theorem dJ2_getChar_3b067_52 : decode cJ2_getChar_3b067 52 = .ok (.iand, 1) := by decide +kernel
theorem dJ2_getChar_3b067_53 : decode cJ2_getChar_3b067 53 = .ok (.getstatic 63, 3) := by decide +kernel
theorem dJ2_getChar_3b067_56 : decode cJ2_getChar_3b067 56 = .ok (.ishl, 1) := by decide +kernel
theorem dJ2_getChar_3b067_57 : decode cJ2_getChar_3b067 57 = .ok (.ior, 1) := by decide +kernel
theorem dJ2_getChar_3b067_58 : decode cJ2_getChar_3b067 58 = .ok (.i2c, 1) := by decide +kernel
theorem dJ2_getChar_3b067_59 : decode cJ2_getChar_3b067 59 = .ok (.ireturn, 1) := by decide +kernel
theorem dJ2_length_9d52b_0 : decode cJ2_length_9d52b 0 = .ok (.aload_n 0, 1) := by decide +kernel
theorem dJ2_length_9d52b_1 : decode cJ2_length_9d52b 1 = .ok (.arraylength, 1) := by decide +kernel
theorem dJ2_length_9d52b_2 : decode cJ2_length_9d52b 2 = .ok (.iconst 1, 1) := by decide +kernel
theorem dJ2_length_9d52b_3 : decode cJ2_length_9d52b 3 = .ok (.ishr, 1) := by decide +kernel
theorem dJ2_length_9d52b_4 : decode cJ2_length_9d52b 4 = .ok (.ireturn, 1) := by decide +kernel
theorem dJ2_charAt_3b067_0 : decode cJ2_charAt_3b067 0 = .ok (.iload_n 1, 1) := by decide +kernel
theorem dJ2_charAt_3b067_1 : decode cJ2_charAt_3b067 1 = .ok (.aload_n 0, 1) := by decide +kernel
theorem dJ2_charAt_3b067_2 : decode cJ2_charAt_3b067 2 = .ok (.invokestatic 67, 3) := by decide +kernel
theorem dJ2_charAt_3b067_5 : decode cJ2_charAt_3b067 5 = .ok (.aload_n 0, 1) := by decide +kernel
theorem dJ2_charAt_3b067_6 : decode cJ2_charAt_3b067 6 = .ok (.iload_n 1, 1) := by decide +kernel
theorem dJ2_charAt_3b067_7 : decode cJ2_charAt_3b067 7 = .ok (.invokestatic 71, 3) := by decide +kernel
theorem dJ2_charAt_3b067_10 : decode cJ2_charAt_3b067 10 = .ok (.ireturn, 1) := by decide +kernel
theorem dJ2_checkIndex_2214a_0 : decode cJ2_checkIndex_2214a 0 = .ok (.iload_n 0, 1) := by decide +kernel
theorem dJ2_checkIndex_2214a_1 : decode cJ2_checkIndex_2214a 1 = .ok (.aload_n 1, 1) := by decide +kernel
theorem dJ2_checkIndex_2214a_2 : decode cJ2_checkIndex_2214a 2 = .ok (.invokestatic 48, 3) := by decide +kernel
theorem dJ2_checkIndex_2214a_5 : decode cJ2_checkIndex_2214a 5 = .ok (.invokestatic 414, 3) := by decide +kernel
theorem dJ2_checkIndex_2214a_8 : decode cJ2_checkIndex_2214a 8 = .ok (.return_, 1) := by decide +kernel
theorem dJ3_checkIndex_8e157_0 : decode cJ3_checkIndex_8e157 0 = .ok (.iload_n 0, 1) := by decide +kernel
theorem dJ3_checkIndex_8e157_1 : decode cJ3_checkIndex_8e157 1 = .ok (.ifCond .lt 8, 3) := by decide +kernel
theorem dJ3_checkIndex_8e157_4 : decode cJ3_checkIndex_8e157 4 = .ok (.iload_n 0, 1) := by decide +kernel
theorem dJ3_checkIndex_8e157_5 : decode cJ3_checkIndex_8e157 5 = .ok (.iload_n 1, 1) := by decide +kernel
theorem dJ3_checkIndex_8e157_6 : decode cJ3_checkIndex_8e157 6 = .ok (.if_icmp .lt 10, 3) := by decide +kernel
theorem dJ3_checkIndex_8e157_9 : decode cJ3_checkIndex_8e157 9 = .ok (.aload_n 2, 1) := by decide +kernel
theorem dJ3_checkIndex_8e157_10 : decode cJ3_checkIndex_8e157 10 = .ok (.iload_n 0, 1) := by decide +kernel
theorem dJ3_checkIndex_8e157_11 : decode cJ3_checkIndex_8e157 11 = .ok (.iload_n 1, 1) := by decide +kernel
theorem dJ3_checkIndex_8e157_12 : decode cJ3_checkIndex_8e157 12 = .ok (.invokestatic 95, 3) := by decide +kernel
theorem dJ3_checkIndex_8e157_15 : decode cJ3_checkIndex_8e157 15 = .ok (.athrow, 1) := by decide +kernel
theorem dJ3_checkIndex_8e157_16 : decode cJ3_checkIndex_8e157 16 = .ok (.iload_n 0, 1) := by decide +kernel
theorem dJ3_checkIndex_8e157_17 : decode cJ3_checkIndex_8e157 17 = .ok (.ireturn, 1) := by decide +kernel
theorem dJ6_bitCount_0f7a4_0 : decode cJ6_bitCount_0f7a4 0 = .ok (.iload_n 0, 1) := by decide +kernel
theorem dJ6_bitCount_0f7a4_1 : decode cJ6_bitCount_0f7a4 1 = .ok (.iload_n 0, 1) := by decide +kernel
theorem dJ6_bitCount_0f7a4_2 : decode cJ6_bitCount_0f7a4 2 = .ok (.iconst 1, 1) := by decide +kernel
theorem dJ6_bitCount_0f7a4_3 : decode cJ6_bitCount_0f7a4 3 = .ok (.iushr, 1) := by decide +kernel
theorem dJ6_bitCount_0f7a4_4 : decode cJ6_bitCount_0f7a4 4 = .ok (.ldc_w 265, 3) := by decide +kernel
theorem dJ6_bitCount_0f7a4_7 : decode cJ6_bitCount_0f7a4 7 = .ok (.iand, 1) := by decide +kernel
theorem dJ6_bitCount_0f7a4_8 : decode cJ6_bitCount_0f7a4 8 = .ok (.isub, 1) := by decide +kernel
theorem dJ6_bitCount_0f7a4_9 : decode cJ6_bitCount_0f7a4 9 = .ok (.istore_n 0, 1) := by decide +kernel
theorem dJ6_bitCount_0f7a4_10 : decode cJ6_bitCount_0f7a4 10 = .ok (.iload_n 0, 1) := by decide +kernel
theorem dJ6_bitCount_0f7a4_11 : decode cJ6_bitCount_0f7a4 11 = .ok (.ldc_w 266, 3) := by decide +kernel
theorem dJ6_bitCount_0f7a4_14 : decode cJ6_bitCount_0f7a4 14 = .ok (.iand, 1) := by decide +kernel
theorem dJ6_bitCount_0f7a4_15 : decode cJ6_bitCount_0f7a4 15 = .ok (.iload_n 0, 1) := by decide +kernel
theorem dJ6_bitCount_0f7a4_16 : decode cJ6_bitCount_0f7a4 16 = .ok (.iconst 2, 1) := by decide +kernel
theorem dJ6_bitCount_0f7a4_17 : decode cJ6_bitCount_0f7a4 17 = .ok (.iushr, 1) := by decide +kernel
theorem dJ6_bitCount_0f7a4_18 : decode cJ6_bitCount_0f7a4 18 = .ok (.ldc_w 266, 3) := by decide +kernel
theorem dJ6_bitCount_0f7a4_21 : decode cJ6_bitCount_0f7a4 21 = .ok (.iand, 1) := by decide +kernel
theorem dJ6_bitCount_0f7a4_22 : decode cJ6_bitCount_0f7a4 22 = .ok (.iadd, 1) := by decide +kernel
theorem dJ6_bitCount_0f7a4_23 : decode cJ6_bitCount_0f7a4 23 = .ok (.istore_n 0, 1) := by decide +kernel
theorem dJ6_bitCount_0f7a4_24 : decode cJ6_bitCount_0f7a4 24 = .ok (.iload_n 0, 1) := by decide +kernel
theorem dJ6_bitCount_0f7a4_25 : decode cJ6_bitCount_0f7a4 25 = .ok (.iload_n 0, 1) := by decide +kernel
theorem dJ6_bitCount_0f7a4_26 : decode cJ6_bitCount_0f7a4 26 = .ok (.iconst 4, 1) := by decide +kernel
theorem dJ6_bitCount_0f7a4_27 : decode cJ6_bitCount_0f7a4 27 = .ok (.iushr, 1) := by decide +kernel
theorem dJ6_bitCount_0f7a4_28 : decode cJ6_bitCount_0f7a4 28 = .ok (.iadd, 1) := by decide +kernel
theorem dJ6_bitCount_0f7a4_29 : decode cJ6_bitCount_0f7a4 29 = .ok (.ldc_w 267, 3) := by decide +kernel
theorem dJ6_bitCount_0f7a4_32 : decode cJ6_bitCount_0f7a4 32 = .ok (.iand, 1) := by decide +kernel
theorem dJ6_bitCount_0f7a4_33 : decode cJ6_bitCount_0f7a4 33 = .ok (.istore_n 0, 1) := by decide +kernel
theorem dJ6_bitCount_0f7a4_34 : decode cJ6_bitCount_0f7a4 34 = .ok (.iload_n 0, 1) := by decide +kernel
theorem dJ6_bitCount_0f7a4_35 : decode cJ6_bitCount_0f7a4 35 = .ok (.iload_n 0, 1) := by decide +kernel
theorem dJ6_bitCount_0f7a4_36 : decode cJ6_bitCount_0f7a4 36 = .ok (.bipush 8, 2) := by decide +kernel
theorem dJ6_bitCount_0f7a4_38 : decode cJ6_bitCount_0f7a4 38 = .ok (.iushr, 1) := by decide +kernel
theorem dJ6_bitCount_0f7a4_39 : decode cJ6_bitCount_0f7a4 39 = .ok (.iadd, 1) := by decide +kernel
theorem dJ6_bitCount_0f7a4_40 : decode cJ6_bitCount_0f7a4 40 = .ok (.istore_n 0, 1) := by decide +kernel
theorem dJ6_bitCount_0f7a4_41 : decode cJ6_bitCount_0f7a4 41 = .ok (.iload_n 0, 1) := by decide +kernel
theorem dJ6_bitCount_0f7a4_42 : decode cJ6_bitCount_0f7a4 42 = .ok (.iload_n 0, 1) := by decide +kernel
theorem dJ6_bitCount_0f7a4_43 : decode cJ6_bitCount_0f7a4 43 = .ok (.bipush 16, 2) := by decide +kernel
theorem dJ6_bitCount_0f7a4_45 : decode cJ6_bitCount_0f7a4 45 = .ok (.iushr, 1) := by decide +kernel
theorem dJ6_bitCount_0f7a4_46 : decode cJ6_bitCount_0f7a4 46 = .ok (.iadd, 1) := by decide +kernel
theorem dJ6_bitCount_0f7a4_47 : decode cJ6_bitCount_0f7a4 47 = .ok (.istore_n 0, 1) := by decide +kernel
theorem dJ6_bitCount_0f7a4_48 : decode cJ6_bitCount_0f7a4 48 = .ok (.iload_n 0, 1) := by decide +kernel
theorem dJ6_bitCount_0f7a4_49 : decode cJ6_bitCount_0f7a4 49 = .ok (.bipush 63, 2) := by decide +kernel
theorem dJ6_bitCount_0f7a4_51 : decode cJ6_bitCount_0f7a4 51 = .ok (.iand, 1) := by decide +kernel
theorem dJ6_bitCount_0f7a4_52 : decode cJ6_bitCount_0f7a4 52 = .ok (.ireturn, 1) := by decide +kernel
theorem dJ7_fill_53178_0 : decode cJ7_fill_53178 0 = .ok (.iconst 0, 1) := by decide +kernel
theorem dJ7_fill_53178_1 : decode cJ7_fill_53178 1 = .ok (.istore_n 2, 1) := by decide +kernel
theorem dJ7_fill_53178_2 : decode cJ7_fill_53178 2 = .ok (.aload_n 0, 1) := by decide +kernel
theorem dJ7_fill_53178_3 : decode cJ7_fill_53178 3 = .ok (.arraylength, 1) := by decide +kernel
theorem dJ7_fill_53178_4 : decode cJ7_fill_53178 4 = .ok (.istore_n 3, 1) := by decide +kernel
theorem dJ7_fill_53178_5 : decode cJ7_fill_53178 5 = .ok (.iload_n 2, 1) := by decide +kernel
theorem dJ7_fill_53178_6 : decode cJ7_fill_53178 6 = .ok (.iload_n 3, 1) := by decide +kernel
theorem dJ7_fill_53178_7 : decode cJ7_fill_53178 7 = .ok (.if_icmp .ge 13, 3) := by decide +kernel
theorem dJ7_fill_53178_10 : decode cJ7_fill_53178 10 = .ok (.aload_n 0, 1) := by decide +kernel
theorem dJ7_fill_53178_11 : decode cJ7_fill_53178 11 = .ok (.iload_n 2, 1) := by decide +kernel
theorem dJ7_fill_53178_12 : decode cJ7_fill_53178 12 = .ok (.iload_n 1, 1) := by decide +kernel
theorem dJ7_fill_53178_13 : decode cJ7_fill_53178 13 = .ok (.iastore, 1) := by decide +kernel
theorem dJ7_fill_53178_14 : decode cJ7_fill_53178 14 = .ok (.iinc 2 1, 3) := by decide +kernel
theorem dJ7_fill_53178_17 : decode cJ7_fill_53178 17 = .ok (.goto (-12), 3) := by decide +kernel
theorem dJ7_fill_53178_20 : decode cJ7_fill_53178 20 = .ok (.return_, 1) := by decide +kernel
theorem dJ9_min_7cf53_0 : decode cJ9_min_7cf53 0 = .ok (.iload_n 0, 1) := by decide +kernel
theorem dJ9_min_7cf53_1 : decode cJ9_min_7cf53 1 = .ok (.iload_n 1, 1) := by decide +kernel
theorem dJ9_min_7cf53_2 : decode cJ9_min_7cf53 2 = .ok (.if_icmp .gt 7, 3) := by decide +kernel
theorem dJ9_min_7cf53_5 : decode cJ9_min_7cf53 5 = .ok (.iload_n 0, 1) := by decide +kernel
theorem dJ9_min_7cf53_6 : decode cJ9_min_7cf53 6 = .ok (.goto 4, 3) := by decide +kernel
theorem dJ9_min_7cf53_9 : decode cJ9_min_7cf53 9 = .ok (.iload_n 1, 1) := by decide +kernel
theorem dJ9_min_7cf53_10 : decode cJ9_min_7cf53 10 = .ok (.ireturn, 1) := by decide +kernel
