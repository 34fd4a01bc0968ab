theorem dX14_init_112 : decode cX14_init 112 = .ok (.bipush 10, 2) := by decide +kernel
theorem dX14_init_114 : decode cX14_init 114 = .ok (.ldc 56, 2) := by decide +kernel
theorem dX14_init_116 : decode cX14_init 116 = .ok (.aastore, 1) := by decide +kernel
theorem dX14_init_117 : decode cX14_init 117 = .ok (.dup, 1) := by decide +kernel
theorem dX14_init_118 : decode cX14_init 118 = .ok (.bipush 11, 2) := by decide +kernel
theorem dX14_init_120 : decode cX14_init 120 = .ok (.ldc 58, 2) := by decide +kernel
theorem dX14_init_122 : decode cX14_init 122 = .ok (.aastore, 1) := by decide +kernel
theorem dX14_init_123 : decode cX14_init 123 = .ok (.dup, 1) := by decide +kernel
theorem dX14_init_124 : decode cX14_init 124 = .ok (.bipush 12, 2) := by decide +kernel
theorem dX14_init_126 : decode cX14_init 126 = .ok (.ldc 60, 2) := by decide +kernel
theorem dX14_init_128 : decode cX14_init 128 = .ok (.aastore, 1) := by decide +kernel
theorem dX14_init_129 : decode cX14_init 129 = .ok (.dup, 1) := by decide +kernel
theorem dX14_init_130 : decode cX14_init 130 = .ok (.bipush 13, 2) := by decide +kernel
theorem dX14_init_132 : decode cX14_init 132 = .ok (.ldc 62, 2) := by decide +kernel
theorem dX14_init_134 : decode cX14_init 134 = .ok (.aastore, 1) := by decide +kernel
theorem dX14_init_135 : decode cX14_init 135 = .ok (.dup, 1) := by decide +kernel
theorem dX14_init_136 : decode cX14_init 136 = .ok (.bipush 14, 2) := by decide +kernel
theorem dX14_init_138 : decode cX14_init 138 = .ok (.ldc 64, 2) := by decide +kernel
theorem dX14_init_140 : decode cX14_init 140 = .ok (.aastore, 1) := by decide +kernel
theorem dX14_init_141 : decode cX14_init 141 = .ok (.putfield 66, 3) := by decide +kernel
theorem dX14_init_144 : decode cX14_init 144 = .ok (.aload_n 0, 1) := by decide +kernel
theorem dX14_init_145 : decode cX14_init 145 = .ok (.sipush 225, 3) := by decide +kernel
theorem dX14_init_148 : decode cX14_init 148 = .ok (.newarray .boolean, 2) := by decide +kernel
theorem dX14_init_150 : decode cX14_init 150 = .ok (.putfield 70, 3) := by decide +kernel
theorem dX14_init_153 : decode cX14_init 153 = .ok (.aload_n 0, 1) := by decide +kernel
theorem dX14_init_154 : decode cX14_init 154 = .ok (.bipush 101, 2) := by decide +kernel
theorem dX14_init_156 : decode cX14_init 156 = .ok (.newarray .boolean, 2) := by decide +kernel
theorem dX14_init_158 : decode cX14_init 158 = .ok (.putfield 74, 3) := by decide +kernel
theorem dX14_init_161 : decode cX14_init 161 = .ok (.aload_n 0, 1) := by decide +kernel
theorem dX14_init_162 : decode cX14_init 162 = .ok (.sipush 5000, 3) := by decide +kernel
theorem dX14_init_165 : decode cX14_init 165 = .ok (.newarray .int, 2) := by decide +kernel
theorem dX14_init_167 : decode cX14_init 167 = .ok (.putfield 77, 3) := by decide +kernel
theorem dX14_init_170 : decode cX14_init 170 = .ok (.aload_n 0, 1) := by decide +kernel
theorem dX14_init_171 : decode cX14_init 171 = .ok (.bipush 32, 2) := by decide +kernel
theorem dX14_init_173 : decode cX14_init 173 = .ok (.newarray .int, 2) := by decide +kernel
theorem dX14_init_175 : decode cX14_init 175 = .ok (.putfield 81, 3) := by decide +kernel
theorem dX14_init_178 : decode cX14_init 178 = .ok (.aload_n 0, 1) := by decide +kernel
theorem dX14_init_179 : decode cX14_init 179 = .ok (.bipush 8, 2) := by decide +kernel
theorem dX14_init_181 : decode cX14_init 181 = .ok (.newarray .int, 2) := by decide +kernel
theorem dX14_init_183 : decode cX14_init 183 = .ok (.putfield 84, 3) := by decide +kernel
theorem dX14_init_186 : decode cX14_init 186 = .ok (.aload_n 0, 1) := by decide +kernel
theorem dX14_init_187 : decode cX14_init 187 = .ok (.bipush 60, 2) := by decide +kernel
theorem dX14_init_189 : decode cX14_init 189 = .ok (.newarray .int, 2) := by decide +kernel
theorem dX14_init_191 : decode cX14_init 191 = .ok (.putfield 87, 3) := by decide +kernel
theorem dX14_init_194 : decode cX14_init 194 = .ok (.aload_n 0, 1) := by decide +kernel
theorem dX14_init_195 : decode cX14_init 195 = .ok (.bipush 101, 2) := by decide +kernel
theorem dX14_init_197 : decode cX14_init 197 = .ok (.newarray .int, 2) := by decide +kernel
theorem dX14_init_199 : decode cX14_init 199 = .ok (.putfield 90, 3) := by decide +kernel
theorem dX14_init_202 : decode cX14_init 202 = .ok (.aload_n 0, 1) := by decide +kernel
theorem dX14_init_203 : decode cX14_init 203 = .ok (.bipush 101, 2) := by decide +kernel
theorem dX14_init_205 : decode cX14_init 205 = .ok (.newarray .int, 2) := by decide +kernel
theorem dX14_init_207 : decode cX14_init 207 = .ok (.putfield 93, 3) := by decide +kernel
theorem dX14_init_210 : decode cX14_init 210 = .ok (.aload_n 0, 1) := by decide +kernel
theorem dX14_init_211 : decode cX14_init 211 = .ok (.sipush 4040, 3) := by decide +kernel
theorem dX14_init_214 : decode cX14_init 214 = .ok (.newarray .int, 2) := by decide +kernel
theorem dX14_init_216 : decode cX14_init 216 = .ok (.putfield 96, 3) := by decide +kernel
theorem dX14_init_219 : decode cX14_init 219 = .ok (.aload_n 0, 1) := by decide +kernel
theorem dX14_init_220 : decode cX14_init 220 = .ok (.bipush 40, 2) := by decide +kernel
theorem dX14_init_222 : decode cX14_init 222 = .ok (.newarray .int, 2) := by decide +kernel
theorem dX14_init_224 : decode cX14_init 224 = .ok (.putfield 99, 3) := by decide +kernel
theorem dX14_init_227 : decode cX14_init 227 = .ok (.aload_n 0, 1) := by decide +kernel
theorem dX14_init_228 : decode cX14_init 228 = .ok (.bipush 101, 2) := by decide +kernel
theorem dX14_init_230 : decode cX14_init 230 = .ok (.newarray .boolean, 2) := by decide +kernel
theorem dX14_init_232 : decode cX14_init 232 = .ok (.putfield 102, 3) := by decide +kernel
theorem dX14_init_235 : decode cX14_init 235 = .ok (.aload_n 0, 1) := by decide +kernel
theorem dX14_init_236 : decode cX14_init 236 = .ok (.bipush 32, 2) := by decide +kernel
theorem dX14_init_238 : decode cX14_init 238 = .ok (.newarray .int, 2) := by decide +kernel
theorem dX14_init_240 : decode cX14_init 240 = .ok (.putfield 105, 3) := by decide +kernel
theorem dX14_init_243 : decode cX14_init 243 = .ok (.aload_n 0, 1) := by decide +kernel
theorem dX14_init_244 : decode cX14_init 244 = .ok (.bipush 8, 2) := by decide +kernel
theorem dX14_init_246 : decode cX14_init 246 = .ok (.newarray .int, 2) := by decide +kernel
theorem dX14_init_248 : decode cX14_init 248 = .ok (.putfield 108, 3) := by decide +kernel
theorem dX14_init_251 : decode cX14_init 251 = .ok (.aload_n 0, 1) := by decide +kernel
theorem dX14_init_252 : decode cX14_init 252 = .ok (.bipush 60, 2) := by decide +kernel
theorem dX14_init_254 : decode cX14_init 254 = .ok (.newarray .int, 2) := by decide +kernel
theorem dX14_init_256 : decode cX14_init 256 = .ok (.putfield 111, 3) := by decide +kernel
theorem dX14_init_259 : decode cX14_init 259 = .ok (.aload_n 0, 1) := by decide +kernel
theorem dX14_init_260 : decode cX14_init 260 = .ok (.bipush 15, 2) := by decide +kernel
theorem dX14_init_262 : decode cX14_init 262 = .ok (.newarray .int, 2) := by decide +kernel
theorem dX14_init_264 : decode cX14_init 264 = .ok (.putfield 114, 3) := by decide +kernel
theorem dX14_init_267 : decode cX14_init 267 = .ok (.aload_n 0, 1) := by decide +kernel
theorem dX14_init_268 : decode cX14_init 268 = .ok (.sipush 225, 3) := by decide +kernel
theorem dX14_init_271 : decode cX14_init 271 = .ok (.newarray .int, 2) := by decide +kernel
theorem dX14_init_273 : decode cX14_init 273 = .ok (.putfield 117, 3) := by decide +kernel
theorem dX14_init_276 : decode cX14_init 276 = .ok (.aload_n 0, 1) := by decide +kernel
theorem dX14_init_277 : decode cX14_init 277 = .ok (.bipush 101, 2) := by decide +kernel
theorem dX14_init_279 : decode cX14_init 279 = .ok (.newarray .int, 2) := by decide +kernel
theorem dX14_init_281 : decode cX14_init 281 = .ok (.putfield 120, 3) := by decide +kernel
theorem dX14_init_284 : decode cX14_init 284 = .ok (.aload_n 0, 1) := by decide +kernel
theorem dX14_init_285 : decode cX14_init 285 = .ok (.iconst (-1), 1) := by decide +kernel
theorem dX14_init_286 : decode cX14_init 286 = .ok (.putfield 123, 3) := by decide +kernel
theorem dX14_init_289 : decode cX14_init 289 = .ok (.aload_n 0, 1) := by decide +kernel
theorem dX14_init_290 : decode cX14_init 290 = .ok (.bipush 101, 2) := by decide +kernel
theorem dX14_init_292 : decode cX14_init 292 = .ok (.newarray .int, 2) := by decide +kernel
theorem dX14_init_294 : decode cX14_init 294 = .ok (.putfield 126, 3) := by decide +kernel
theorem dX14_init_297 : decode cX14_init 297 = .ok (.return_, 1) := by decide +kernel
theorem dX14_thrown_0 : decode cX14_thrown 0 = .ok (.aload_n 0, 1) := by decide +kernel
theorem dX14_thrown_1 : decode cX14_thrown 1 = .ok (.getfield 129, 3) := by decide +kernel
theorem dX14_thrown_4 : decode cX14_thrown 4 = .ok (.ireturn, 1) := by decide +kernel
theorem dX14_refused_0 : decode cX14_refused 0 = .ok (.aload_n 0, 1) := by decide +kernel
theorem dX14_refused_1 : decode cX14_refused 1 = .ok (.iload_n 1, 1) := by decide +kernel
theorem dX14_refused_2 : decode cX14_refused 2 = .ok (.putfield 132, 3) := by decide +kernel
theorem dX14_refused_5 : decode cX14_refused 5 = .ok (.aload_n 0, 1) := by decide +kernel
theorem dX14_refused_6 : decode cX14_refused 6 = .ok (.iconst (-1), 1) := by decide +kernel
theorem dX14_refused_7 : decode cX14_refused 7 = .ok (.putfield 9, 3) := by decide +kernel
theorem dX14_refused_10 : decode cX14_refused 10 = .ok (.iconst (-1), 1) := by decide +kernel
theorem dX14_refused_11 : decode cX14_refused 11 = .ok (.ireturn, 1) := by decide +kernel
theorem dX14_done_0 : decode cX14_done 0 = .ok (.aload_n 0, 1) := by decide +kernel
theorem dX14_done_1 : decode cX14_done 1 = .ok (.iconst 0, 1) := by decide +kernel
theorem dX14_done_2 : decode cX14_done 2 = .ok (.putfield 132, 3) := by decide +kernel
theorem dX14_done_5 : decode cX14_done 5 = .ok (.aload_n 0, 1) := by decide +kernel
theorem dX14_done_6 : decode cX14_done 6 = .ok (.iconst (-1), 1) := by decide +kernel
theorem dX14_done_7 : decode cX14_done 7 = .ok (.putfield 9, 3) := by decide +kernel
theorem dX14_done_10 : decode cX14_done 10 = .ok (.iload_n 1, 1) := by decide +kernel
theorem dX14_done_11 : decode cX14_done 11 = .ok (.ireturn, 1) := by decide +kernel
theorem dX14_in_0 : decode cX14_in 0 = .ok (.iload_n 0, 1) := by decide +kernel
theorem dX14_in_1 : decode cX14_in 1 = .ok (.iload_n 1, 1) := by decide +kernel
theorem dX14_in_2 : decode cX14_in 2 = .ok (.if_icmp .lt 12, 3) := by decide +kernel
theorem dX14_in_5 : decode cX14_in 5 = .ok (.iload_n 0, 1) := by decide +kernel
theorem dX14_in_6 : decode cX14_in 6 = .ok (.iload_n 2, 1) := by decide +kernel
theorem dX14_in_7 : decode cX14_in 7 = .ok (.if_icmp .gt 7, 3) := by decide +kernel
theorem dX14_in_10 : decode cX14_in 10 = .ok (.iconst 1, 1) := by decide +kernel
theorem dX14_in_11 : decode cX14_in 11 = .ok (.goto 4, 3) := by decide +kernel
theorem dX14_in_14 : decode cX14_in 14 = .ok (.iconst 0, 1) := by decide +kernel
theorem dX14_in_15 : decode cX14_in 15 = .ok (.ireturn, 1) := by decide +kernel
theorem dX14_stop_0 : decode cX14_stop 0 = .ok (.aload_n 0, 1) := by decide +kernel
theorem dX14_stop_1 : decode cX14_stop 1 = .ok (.getfield 26, 3) := by decide +kernel
theorem dX14_stop_4 : decode cX14_stop 4 = .ok (.iload_n 1, 1) := by decide +kernel
theorem dX14_stop_5 : decode cX14_stop 5 = .ok (.putfield 135, 3) := by decide +kernel
theorem dX14_stop_8 : decode cX14_stop 8 = .ok (.aload_n 0, 1) := by decide +kernel
theorem dX14_stop_9 : decode cX14_stop 9 = .ok (.getfield 26, 3) := by decide +kernel
theorem dX14_stop_12 : decode cX14_stop 12 = .ok (.iload_n 2, 1) := by decide +kernel
theorem dX14_stop_13 : decode cX14_stop 13 = .ok (.putfield 138, 3) := by decide +kernel
theorem dX14_stop_16 : decode cX14_stop 16 = .ok (.aload_n 0, 1) := by decide +kernel
theorem dX14_stop_17 : decode cX14_stop 17 = .ok (.getfield 26, 3) := by decide +kernel
theorem dX14_stop_20 : decode cX14_stop 20 = .ok (.areturn, 1) := by decide +kernel
theorem dX14_byteAt_0 : decode cX14_byteAt 0 = .ok (.iload_n 1, 1) := by decide +kernel
theorem dX14_byteAt_1 : decode cX14_byteAt 1 = .ok (.aload_n 0, 1) := by decide +kernel
theorem dX14_byteAt_2 : decode cX14_byteAt 2 = .ok (.getfield 141, 3) := by decide +kernel
theorem dX14_byteAt_5 : decode cX14_byteAt 5 = .ok (.if_icmp .ge 16, 3) := by decide +kernel
theorem dX14_byteAt_8 : decode cX14_byteAt 8 = .ok (.aload_n 0, 1) := by decide +kernel
theorem dX14_byteAt_9 : decode cX14_byteAt 9 = .ok (.getfield 30, 3) := by decide +kernel
theorem dX14_byteAt_12 : decode cX14_byteAt 12 = .ok (.iload_n 1, 1) := by decide +kernel
theorem dX14_byteAt_13 : decode cX14_byteAt 13 = .ok (.baload, 1) := by decide +kernel
theorem dX14_byteAt_14 : decode cX14_byteAt 14 = .ok (.sipush 255, 3) := by decide +kernel
theorem dX14_byteAt_17 : decode cX14_byteAt 17 = .ok (.iand, 1) := by decide +kernel
theorem dX14_byteAt_18 : decode cX14_byteAt 18 = .ok (.goto 4, 3) := by decide +kernel
theorem dX14_byteAt_21 : decode cX14_byteAt 21 = .ok (.iconst (-1), 1) := by decide +kernel
theorem dX14_byteAt_22 : decode cX14_byteAt 22 = .ok (.ireturn, 1) := by decide +kernel
theorem dX14_isLetter_0 : decode cX14_isLetter 0 = .ok (.iload_n 0, 1) := by decide +kernel
theorem dX14_isLetter_1 : decode cX14_isLetter 1 = .ok (.bipush 97, 2) := by decide +kernel
theorem dX14_isLetter_3 : decode cX14_isLetter 3 = .ok (.if_icmp .lt 13, 3) := by decide +kernel
theorem dX14_isLetter_6 : decode cX14_isLetter 6 = .ok (.iload_n 0, 1) := by decide +kernel
theorem dX14_isLetter_7 : decode cX14_isLetter 7 = .ok (.bipush 122, 2) := by decide +kernel
theorem dX14_isLetter_9 : decode cX14_isLetter 9 = .ok (.if_icmp .gt 7, 3) := by decide +kernel
theorem dX14_isLetter_12 : decode cX14_isLetter 12 = .ok (.iconst 1, 1) := by decide +kernel
theorem dX14_isLetter_13 : decode cX14_isLetter 13 = .ok (.goto 4, 3) := by decide +kernel
theorem dX14_isLetter_16 : decode cX14_isLetter 16 = .ok (.iconst 0, 1) := by decide +kernel
theorem dX14_isLetter_17 : decode cX14_isLetter 17 = .ok (.ireturn, 1) := by decide +kernel
theorem dX14_isDigit_0 : decode cX14_isDigit 0 = .ok (.iload_n 0, 1) := by decide +kernel
theorem dX14_isDigit_1 : decode cX14_isDigit 1 = .ok (.bipush 48, 2) := by decide +kernel
theorem dX14_isDigit_3 : decode cX14_isDigit 3 = .ok (.if_icmp .lt 13, 3) := by decide +kernel
theorem dX14_isDigit_6 : decode cX14_isDigit 6 = .ok (.iload_n 0, 1) := by decide +kernel
theorem dX14_isDigit_7 : decode cX14_isDigit 7 = .ok (.bipush 57, 2) := by decide +kernel
theorem dX14_isDigit_9 : decode cX14_isDigit 9 = .ok (.if_icmp .gt 7, 3) := by decide +kernel
theorem dX14_isDigit_12 : decode cX14_isDigit 12 = .ok (.iconst 1, 1) := by decide +kernel
theorem dX14_isDigit_13 : decode cX14_isDigit 13 = .ok (.goto 4, 3) := by decide +kernel
theorem dX14_isDigit_16 : decode cX14_isDigit 16 = .ok (.iconst 0, 1) := by decide +kernel
theorem dX14_isDigit_17 : decode cX14_isDigit 17 = .ok (.ireturn, 1) := by decide +kernel
theorem dX14_wordOf_0 : decode cX14_wordOf 0 = .ok (.lconst 0, 1) := by decide +kernel
theorem dX14_wordOf_1 : decode cX14_wordOf 1 = .ok (.lstore_n 1, 1) := by decide +kernel
theorem dX14_wordOf_2 : decode cX14_wordOf 2 = .ok (.iconst 0, 1) := by decide +kernel
theorem dX14_wordOf_3 : decode cX14_wordOf 3 = .ok (.istore_n 3, 1) := by decide +kernel
theorem dX14_wordOf_4 : decode cX14_wordOf 4 = .ok (.iload_n 3, 1) := by decide +kernel
theorem dX14_wordOf_5 : decode cX14_wordOf 5 = .ok (.aload_n 0, 1) := by decide +kernel
theorem dX14_wordOf_6 : decode cX14_wordOf 6 = .ok (.invokevirtual 144, 3) := by decide +kernel
theorem dX14_wordOf_9 : decode cX14_wordOf 9 = .ok (.if_icmp .ge 27, 3) := by decide +kernel
theorem dX14_wordOf_12 : decode cX14_wordOf 12 = .ok (.ldc2_w 148, 3) := by decide +kernel
theorem dX14_wordOf_15 : decode cX14_wordOf 15 = .ok (.lload_n 1, 1) := by decide +kernel
theorem dX14_wordOf_16 : decode cX14_wordOf 16 = .ok (.lmul, 1) := by decide +kernel
theorem dX14_wordOf_17 : decode cX14_wordOf 17 = .ok (.aload_n 0, 1) := by decide +kernel
theorem dX14_wordOf_18 : decode cX14_wordOf 18 = .ok (.iload_n 3, 1) := by decide +kernel
theorem dX14_wordOf_19 : decode cX14_wordOf 19 = .ok (.invokevirtual 150, 3) := by decide +kernel
theorem dX14_wordOf_22 : decode cX14_wordOf 22 = .ok (.bipush 97, 2) := by decide +kernel
theorem dX14_wordOf_24 : decode cX14_wordOf 24 = .ok (.isub, 1) := by decide +kernel
theorem dX14_wordOf_25 : decode cX14_wordOf 25 = .ok (.iconst 1, 1) := by decide +kernel
theorem dX14_wordOf_26 : decode cX14_wordOf 26 = .ok (.iadd, 1) := by decide +kernel
theorem dX14_wordOf_27 : decode cX14_wordOf 27 = .ok (.i2l, 1) := by decide +kernel
theorem dX14_wordOf_28 : decode cX14_wordOf 28 = .ok (.ladd, 1) := by decide +kernel
theorem dX14_wordOf_29 : decode cX14_wordOf 29 = .ok (.lstore_n 1, 1) := by decide +kernel
theorem dX14_wordOf_30 : decode cX14_wordOf 30 = .ok (.iinc 3 1, 3) := by decide +kernel
theorem dX14_wordOf_33 : decode cX14_wordOf 33 = .ok (.goto (-29), 3) := by decide +kernel
theorem dX14_wordOf_36 : decode cX14_wordOf 36 = .ok (.lload_n 1, 1) := by decide +kernel
theorem dX14_wordOf_37 : decode cX14_wordOf 37 = .ok (.lreturn, 1) := by decide +kernel
theorem dX14_next_0 : decode cX14_next 0 = .ok (.aload_n 0, 1) := by decide +kernel
theorem dX14_next_1 : decode cX14_next 1 = .ok (.aload_n 0, 1) := by decide +kernel
theorem dX14_next_2 : decode cX14_next 2 = .ok (.getfield 154, 3) := by decide +kernel
theorem dX14_next_5 : decode cX14_next 5 = .ok (.invokevirtual 157, 3) := by decide +kernel
theorem dX14_next_8 : decode cX14_next 8 = .ok (.bipush 32, 2) := by decide +kernel
theorem dX14_next_10 : decode cX14_next 10 = .ok (.if_icmp .eq 16, 3) := by decide +kernel
theorem dX14_next_13 : decode cX14_next 13 = .ok (.aload_n 0, 1) := by decide +kernel
theorem dX14_next_14 : decode cX14_next 14 = .ok (.aload_n 0, 1) := by decide +kernel
theorem dX14_next_15 : decode cX14_next 15 = .ok (.getfield 154, 3) := by decide +kernel
theorem dX14_next_18 : decode cX14_next 18 = .ok (.invokevirtual 157, 3) := by decide +kernel
theorem dX14_next_21 : decode cX14_next 21 = .ok (.bipush 10, 2) := by decide +kernel
theorem dX14_next_23 : decode cX14_next 23 = .ok (.if_icmp .ne 16, 3) := by decide +kernel
theorem dX14_next_26 : decode cX14_next 26 = .ok (.aload_n 0, 1) := by decide +kernel
theorem dX14_next_27 : decode cX14_next 27 = .ok (.dup, 1) := by decide +kernel
theorem dX14_next_28 : decode cX14_next 28 = .ok (.getfield 154, 3) := by decide +kernel
theorem dX14_next_31 : decode cX14_next 31 = .ok (.iconst 1, 1) := by decide +kernel
theorem dX14_next_32 : decode cX14_next 32 = .ok (.iadd, 1) := by decide +kernel
theorem dX14_next_33 : decode cX14_next 33 = .ok (.putfield 154, 3) := by decide +kernel
theorem dX14_next_36 : decode cX14_next 36 = .ok (.goto (-36), 3) := by decide +kernel
theorem dX14_next_39 : decode cX14_next 39 = .ok (.aload_n 0, 1) := by decide +kernel
theorem dX14_next_40 : decode cX14_next 40 = .ok (.aload_n 0, 1) := by decide +kernel
theorem dX14_next_41 : decode cX14_next 41 = .ok (.getfield 154, 3) := by decide +kernel
theorem dX14_next_44 : decode cX14_next 44 = .ok (.putfield 161, 3) := by decide +kernel
theorem dX14_next_47 : decode cX14_next 47 = .ok (.aload_n 0, 1) := by decide +kernel
theorem dX14_next_48 : decode cX14_next 48 = .ok (.iconst 0, 1) := by decide +kernel
theorem dX14_next_49 : decode cX14_next 49 = .ok (.putfield 162, 3) := by decide +kernel
theorem dX14_next_52 : decode cX14_next 52 = .ok (.aload_n 0, 1) := by decide +kernel
theorem dX14_next_53 : decode cX14_next 53 = .ok (.iconst 0, 1) := by decide +kernel
theorem dX14_next_54 : decode cX14_next 54 = .ok (.putfield 165, 3) := by decide +kernel
theorem dX14_next_57 : decode cX14_next 57 = .ok (.aload_n 0, 1) := by decide +kernel
theorem dX14_next_58 : decode cX14_next 58 = .ok (.aload_n 0, 1) := by decide +kernel
theorem dX14_next_59 : decode cX14_next 59 = .ok (.getfield 154, 3) := by decide +kernel
theorem dX14_next_62 : decode cX14_next 62 = .ok (.invokevirtual 157, 3) := by decide +kernel
theorem dX14_next_65 : decode cX14_next 65 = .ok (.istore_n 1, 1) := by decide +kernel
theorem dX14_next_66 : decode cX14_next 66 = .ok (.iconst 0, 1) := by decide +kernel
theorem dX14_next_67 : decode cX14_next 67 = .ok (.istore_n 2, 1) := by decide +kernel
theorem dX14_next_68 : decode cX14_next 68 = .ok (.iload_n 1, 1) := by decide +kernel
theorem dX14_next_69 : decode cX14_next 69 = .ok (.iconst (-1), 1) := by decide +kernel
theorem dX14_next_70 : decode cX14_next 70 = .ok (.if_icmp .ne 11, 3) := by decide +kernel
theorem dX14_next_73 : decode cX14_next 73 = .ok (.aload_n 0, 1) := by decide +kernel
theorem dX14_next_74 : decode cX14_next 74 = .ok (.iconst 1, 1) := by decide +kernel
theorem dX14_next_75 : decode cX14_next 75 = .ok (.putfield 162, 3) := by decide +kernel
theorem dX14_next_78 : decode cX14_next 78 = .ok (.goto 207, 3) := by decide +kernel
theorem dX14_next_81 : decode cX14_next 81 = .ok (.iload_n 1, 1) := by decide +kernel
theorem dX14_next_82 : decode cX14_next 82 = .ok (.invokestatic 168, 3) := by decide +kernel
theorem dX14_next_85 : decode cX14_next 85 = .ok (.ifCond .eq 85, 3) := by decide +kernel
theorem dX14_next_88 : decode cX14_next 88 = .ok (.aload_n 0, 1) := by decide +kernel
theorem dX14_next_89 : decode cX14_next 89 = .ok (.lconst 0, 1) := by decide +kernel
theorem dX14_next_90 : decode cX14_next 90 = .ok (.putfield 172, 3) := by decide +kernel
theorem dX14_next_93 : decode cX14_next 93 = .ok (.aload_n 0, 1) := by decide +kernel
theorem dX14_next_94 : decode cX14_next 94 = .ok (.aload_n 0, 1) := by decide +kernel
theorem dX14_next_95 : decode cX14_next 95 = .ok (.getfield 154, 3) := by decide +kernel
theorem dX14_next_98 : decode cX14_next 98 = .ok (.invokevirtual 157, 3) := by decide +kernel
theorem dX14_next_101 : decode cX14_next 101 = .ok (.invokestatic 168, 3) := by decide +kernel
theorem dX14_next_104 : decode cX14_next 104 = .ok (.ifCond .eq 52, 3) := by decide +kernel
theorem dX14_next_107 : decode cX14_next 107 = .ok (.iload_n 2, 1) := by decide +kernel
theorem dX14_next_108 : decode cX14_next 108 = .ok (.bipush 8, 2) := by decide +kernel
theorem dX14_next_110 : decode cX14_next 110 = .ok (.if_icmp .ge 30, 3) := by decide +kernel
theorem dX14_next_113 : decode cX14_next 113 = .ok (.aload_n 0, 1) := by decide +kernel
theorem dX14_next_114 : decode cX14_next 114 = .ok (.ldc2_w 148, 3) := by decide +kernel
theorem dX14_next_117 : decode cX14_next 117 = .ok (.aload_n 0, 1) := by decide +kernel
theorem dX14_next_118 : decode cX14_next 118 = .ok (.getfield 172, 3) := by decide +kernel
theorem dX14_next_121 : decode cX14_next 121 = .ok (.lmul, 1) := by decide +kernel
theorem dX14_next_122 : decode cX14_next 122 = .ok (.aload_n 0, 1) := by decide +kernel
theorem dX14_next_123 : decode cX14_next 123 = .ok (.aload_n 0, 1) := by decide +kernel
theorem dX14_next_124 : decode cX14_next 124 = .ok (.getfield 154, 3) := by decide +kernel
theorem dX14_next_127 : decode cX14_next 127 = .ok (.invokevirtual 157, 3) := by decide +kernel
theorem dX14_next_130 : decode cX14_next 130 = .ok (.bipush 97, 2) := by decide +kernel
theorem dX14_next_132 : decode cX14_next 132 = .ok (.isub, 1) := by decide +kernel
theorem dX14_next_133 : decode cX14_next 133 = .ok (.iconst 1, 1) := by decide +kernel
theorem dX14_next_134 : decode cX14_next 134 = .ok (.iadd, 1) := by decide +kernel
theorem dX14_next_135 : decode cX14_next 135 = .ok (.i2l, 1) := by decide +kernel
theorem dX14_next_136 : decode cX14_next 136 = .ok (.ladd, 1) := by decide +kernel
theorem dX14_next_137 : decode cX14_next 137 = .ok (.putfield 172, 3) := by decide +kernel
theorem dX14_next_140 : decode cX14_next 140 = .ok (.iinc 2 1, 3) := by decide +kernel
theorem dX14_next_143 : decode cX14_next 143 = .ok (.aload_n 0, 1) := by decide +kernel
theorem dX14_next_144 : decode cX14_next 144 = .ok (.dup, 1) := by decide +kernel
theorem dX14_next_145 : decode cX14_next 145 = .ok (.getfield 154, 3) := by decide +kernel
theorem dX14_next_148 : decode cX14_next 148 = .ok (.iconst 1, 1) := by decide +kernel
theorem dX14_next_149 : decode cX14_next 149 = .ok (.iadd, 1) := by decide +kernel
theorem dX14_next_150 : decode cX14_next 150 = .ok (.putfield 154, 3) := by decide +kernel
theorem dX14_next_153 : decode cX14_next 153 = .ok (.goto (-60), 3) := by decide +kernel
theorem dX14_next_156 : decode cX14_next 156 = .ok (.iload_n 2, 1) := by decide +kernel
theorem dX14_next_157 : decode cX14_next 157 = .ok (.bipush 9, 2) := by decide +kernel
theorem dX14_next_159 : decode cX14_next 159 = .ok (.if_icmp .ge 126, 3) := by decide +kernel
theorem dX14_next_162 : decode cX14_next 162 = .ok (.aload_n 0, 1) := by decide +kernel
theorem dX14_next_163 : decode cX14_next 163 = .ok (.iconst 2, 1) := by decide +kernel
theorem dX14_next_164 : decode cX14_next 164 = .ok (.putfield 162, 3) := by decide +kernel
theorem dX14_next_167 : decode cX14_next 167 = .ok (.goto 118, 3) := by decide +kernel
theorem dX14_next_170 : decode cX14_next 170 = .ok (.iload_n 1, 1) := by decide +kernel
theorem dX14_next_171 : decode cX14_next 171 = .ok (.invokestatic 176, 3) := by decide +kernel
theorem dX14_next_174 : decode cX14_next 174 = .ok (.ifCond .eq 79, 3) := by decide +kernel
theorem dX14_next_177 : decode cX14_next 177 = .ok (.aload_n 0, 1) := by decide +kernel
theorem dX14_next_178 : decode cX14_next 178 = .ok (.iconst 0, 1) := by decide +kernel
theorem dX14_next_179 : decode cX14_next 179 = .ok (.putfield 179, 3) := by decide +kernel
theorem dX14_next_182 : decode cX14_next 182 = .ok (.aload_n 0, 1) := by decide +kernel
theorem dX14_next_183 : decode cX14_next 183 = .ok (.aload_n 0, 1) := by decide +kernel
theorem dX14_next_184 : decode cX14_next 184 = .ok (.getfield 154, 3) := by decide +kernel
theorem dX14_next_187 : decode cX14_next 187 = .ok (.invokevirtual 157, 3) := by decide +kernel
theorem dX14_next_190 : decode cX14_next 190 = .ok (.invokestatic 176, 3) := by decide +kernel
theorem dX14_next_193 : decode cX14_next 193 = .ok (.ifCond .eq 47, 3) := by decide +kernel
theorem dX14_next_196 : decode cX14_next 196 = .ok (.iload_n 2, 1) := by decide +kernel
theorem dX14_next_197 : decode cX14_next 197 = .ok (.iconst 3, 1) := by decide +kernel
theorem dX14_next_198 : decode cX14_next 198 = .ok (.if_icmp .ge 26, 3) := by decide +kernel
theorem dX14_next_201 : decode cX14_next 201 = .ok (.aload_n 0, 1) := by decide +kernel
theorem dX14_next_202 : decode cX14_next 202 = .ok (.bipush 10, 2) := by decide +kernel
theorem dX14_next_204 : decode cX14_next 204 = .ok (.aload_n 0, 1) := by decide +kernel
theorem dX14_next_205 : decode cX14_next 205 = .ok (.getfield 179, 3) := by decide +kernel
theorem dX14_next_208 : decode cX14_next 208 = .ok (.imul, 1) := by decide +kernel
theorem dX14_next_209 : decode cX14_next 209 = .ok (.aload_n 0, 1) := by decide +kernel
theorem dX14_next_210 : decode cX14_next 210 = .ok (.aload_n 0, 1) := by decide +kernel
theorem dX14_next_211 : decode cX14_next 211 = .ok (.getfield 154, 3) := by decide +kernel
theorem dX14_next_214 : decode cX14_next 214 = .ok (.invokevirtual 157, 3) := by decide +kernel
theorem dX14_next_217 : decode cX14_next 217 = .ok (.iadd, 1) := by decide +kernel
theorem dX14_next_218 : decode cX14_next 218 = .ok (.bipush 48, 2) := by decide +kernel
theorem dX14_next_220 : decode cX14_next 220 = .ok (.isub, 1) := by decide +kernel
theorem dX14_next_221 : decode cX14_next 221 = .ok (.putfield 179, 3) := by decide +kernel
theorem dX14_next_224 : decode cX14_next 224 = .ok (.iinc 2 1, 3) := by decide +kernel
theorem dX14_next_227 : decode cX14_next 227 = .ok (.aload_n 0, 1) := by decide +kernel
theorem dX14_next_228 : decode cX14_next 228 = .ok (.dup, 1) := by decide +kernel
theorem dX14_next_229 : decode cX14_next 229 = .ok (.getfield 154, 3) := by decide +kernel
theorem dX14_next_232 : decode cX14_next 232 = .ok (.iconst 1, 1) := by decide +kernel
theorem dX14_next_233 : decode cX14_next 233 = .ok (.iadd, 1) := by decide +kernel
theorem dX14_next_234 : decode cX14_next 234 = .ok (.putfield 154, 3) := by decide +kernel
theorem dX14_next_237 : decode cX14_next 237 = .ok (.goto (-55), 3) := by decide +kernel
theorem dX14_next_240 : decode cX14_next 240 = .ok (.iload_n 2, 1) := by decide +kernel
theorem dX14_next_241 : decode cX14_next 241 = .ok (.iconst 4, 1) := by decide +kernel
theorem dX14_next_242 : decode cX14_next 242 = .ok (.if_icmp .ge 43, 3) := by decide +kernel
theorem dX14_next_245 : decode cX14_next 245 = .ok (.aload_n 0, 1) := by decide +kernel
theorem dX14_next_246 : decode cX14_next 246 = .ok (.iconst 3, 1) := by decide +kernel
theorem dX14_next_247 : decode cX14_next 247 = .ok (.putfield 162, 3) := by decide +kernel
theorem dX14_next_250 : decode cX14_next 250 = .ok (.goto 35, 3) := by decide +kernel
theorem dX14_next_253 : decode cX14_next 253 = .ok (.iload_n 1, 1) := by decide +kernel
theorem dX14_next_254 : decode cX14_next 254 = .ok (.bipush 58, 2) := by decide +kernel
theorem dX14_next_256 : decode cX14_next 256 = .ok (.if_icmp .eq 9, 3) := by decide +kernel
theorem dX14_next_259 : decode cX14_next 259 = .ok (.iload_n 1, 1) := by decide +kernel
theorem dX14_next_260 : decode cX14_next 260 = .ok (.bipush 59, 2) := by decide +kernel
theorem dX14_next_262 : decode cX14_next 262 = .ok (.if_icmp .ne 23, 3) := by decide +kernel
theorem dX14_next_265 : decode cX14_next 265 = .ok (.aload_n 0, 1) := by decide +kernel
theorem dX14_next_266 : decode cX14_next 266 = .ok (.iconst 4, 1) := by decide +kernel
theorem dX14_next_267 : decode cX14_next 267 = .ok (.putfield 162, 3) := by decide +kernel
theorem dX14_next_270 : decode cX14_next 270 = .ok (.aload_n 0, 1) := by decide +kernel
theorem dX14_next_271 : decode cX14_next 271 = .ok (.iload_n 1, 1) := by decide +kernel
theorem dX14_next_272 : decode cX14_next 272 = .ok (.putfield 165, 3) := by decide +kernel
theorem dX14_next_275 : decode cX14_next 275 = .ok (.aload_n 0, 1) := by decide +kernel
theorem dX14_next_276 : decode cX14_next 276 = .ok (.dup, 1) := by decide +kernel
theorem dX14_next_277 : decode cX14_next 277 = .ok (.getfield 154, 3) := by decide +kernel
theorem dX14_next_280 : decode cX14_next 280 = .ok (.iconst 1, 1) := by decide +kernel
theorem dX14_next_281 : decode cX14_next 281 = .ok (.iadd, 1) := by decide +kernel
theorem dX14_next_282 : decode cX14_next 282 = .ok (.putfield 154, 3) := by decide +kernel
theorem dX14_next_285 : decode cX14_next 285 = .ok (.return_, 1) := by decide +kernel
theorem dX14_is_0 : decode cX14_is 0 = .ok (.aload_n 0, 1) := by decide +kernel
theorem dX14_is_1 : decode cX14_is 1 = .ok (.getfield 162, 3) := by decide +kernel
theorem dX14_is_4 : decode cX14_is 4 = .ok (.iconst 4, 1) := by decide +kernel
theorem dX14_is_5 : decode cX14_is 5 = .ok (.if_icmp .ne 15, 3) := by decide +kernel
theorem dX14_is_8 : decode cX14_is 8 = .ok (.aload_n 0, 1) := by decide +kernel
theorem dX14_is_9 : decode cX14_is 9 = .ok (.getfield 165, 3) := by decide +kernel
theorem dX14_is_12 : decode cX14_is 12 = .ok (.iload_n 1, 1) := by decide +kernel
theorem dX14_is_13 : decode cX14_is 13 = .ok (.if_icmp .ne 7, 3) := by decide +kernel
theorem dX14_is_16 : decode cX14_is 16 = .ok (.iconst 1, 1) := by decide +kernel
theorem dX14_is_17 : decode cX14_is 17 = .ok (.goto 4, 3) := by decide +kernel
theorem dX14_is_20 : decode cX14_is 20 = .ok (.iconst 0, 1) := by decide +kernel
theorem dX14_is_21 : decode cX14_is 21 = .ok (.ireturn, 1) := by decide +kernel
theorem dX14_kindOf_0 : decode cX14_kindOf 0 = .ok (.iconst 0, 1) := by decide +kernel
theorem dX14_kindOf_1 : decode cX14_kindOf 1 = .ok (.istore_n 3, 1) := by decide +kernel
theorem dX14_kindOf_2 : decode cX14_kindOf 2 = .ok (.iload_n 3, 1) := by decide +kernel
theorem dX14_kindOf_3 : decode cX14_kindOf 3 = .ok (.bipush 15, 2) := by decide +kernel
theorem dX14_kindOf_5 : decode cX14_kindOf 5 = .ok (.if_icmp .ge 23, 3) := by decide +kernel
theorem dX14_kindOf_8 : decode cX14_kindOf 8 = .ok (.lload_n 1, 1) := by decide +kernel
theorem dX14_kindOf_9 : decode cX14_kindOf 9 = .ok (.aload_n 0, 1) := by decide +kernel
theorem dX14_kindOf_10 : decode cX14_kindOf 10 = .ok (.getfield 66, 3) := by decide +kernel
theorem dX14_kindOf_13 : decode cX14_kindOf 13 = .ok (.iload_n 3, 1) := by decide +kernel
theorem dX14_kindOf_14 : decode cX14_kindOf 14 = .ok (.aaload, 1) := by decide +kernel
theorem dX14_kindOf_15 : decode cX14_kindOf 15 = .ok (.invokestatic 182, 3) := by decide +kernel
theorem dX14_kindOf_18 : decode cX14_kindOf 18 = .ok (.lcmp, 1) := by decide +kernel
theorem dX14_kindOf_19 : decode cX14_kindOf 19 = .ok (.ifCond .eq 9, 3) := by decide +kernel
theorem dX14_kindOf_22 : decode cX14_kindOf 22 = .ok (.iinc 3 1, 3) := by decide +kernel
theorem dX14_kindOf_25 : decode cX14_kindOf 25 = .ok (.goto (-23), 3) := by decide +kernel
theorem dX14_kindOf_28 : decode cX14_kindOf 28 = .ok (.iload_n 3, 1) := by decide +kernel
theorem dX14_kindOf_29 : decode cX14_kindOf 29 = .ok (.bipush 15, 2) := by decide +kernel
theorem dX14_kindOf_31 : decode cX14_kindOf 31 = .ok (.if_icmp .ge 7, 3) := by decide +kernel
theorem dX14_kindOf_34 : decode cX14_kindOf 34 = .ok (.iload_n 3, 1) := by decide +kernel
theorem dX14_kindOf_35 : decode cX14_kindOf 35 = .ok (.goto 4, 3) := by decide +kernel
theorem dX14_kindOf_38 : decode cX14_kindOf 38 = .ok (.iconst (-1), 1) := by decide +kernel
theorem dX14_kindOf_39 : decode cX14_kindOf 39 = .ok (.ireturn, 1) := by decide +kernel
theorem dX14_reads_0 : decode cX14_reads 0 = .ok (.aload_n 0, 1) := by decide +kernel
theorem dX14_reads_1 : decode cX14_reads 1 = .ok (.getfield 20, 3) := by decide +kernel
theorem dX14_reads_4 : decode cX14_reads 4 = .ok (.iconst 0, 1) := by decide +kernel
theorem dX14_reads_5 : decode cX14_reads 5 = .ok (.putfield 186, 3) := by decide +kernel
theorem dX14_reads_8 : decode cX14_reads 8 = .ok (.aload_n 0, 1) := by decide +kernel
theorem dX14_reads_9 : decode cX14_reads 9 = .ok (.getfield 20, 3) := by decide +kernel
theorem dX14_reads_12 : decode cX14_reads 12 = .ok (.iconst 0, 1) := by decide +kernel
theorem dX14_reads_13 : decode cX14_reads 13 = .ok (.putfield 189, 3) := by decide +kernel
theorem dX14_reads_16 : decode cX14_reads 16 = .ok (.iconst 0, 1) := by decide +kernel
theorem dX14_reads_17 : decode cX14_reads 17 = .ok (.istore_n 1, 1) := by decide +kernel
theorem dX14_reads_18 : decode cX14_reads 18 = .ok (.iload_n 1, 1) := by decide +kernel
theorem dX14_reads_19 : decode cX14_reads 19 = .ok (.bipush 100, 2) := by decide +kernel
theorem dX14_reads_21 : decode cX14_reads 21 = .ok (.if_icmp .gt 19, 3) := by decide +kernel
theorem dX14_reads_24 : decode cX14_reads 24 = .ok (.aload_n 0, 1) := by decide +kernel
theorem dX14_reads_25 : decode cX14_reads 25 = .ok (.getfield 20, 3) := by decide +kernel
theorem dX14_reads_28 : decode cX14_reads 28 = .ok (.getfield 192, 3) := by decide +kernel
theorem dX14_reads_31 : decode cX14_reads 31 = .ok (.iload_n 1, 1) := by decide +kernel
theorem dX14_reads_32 : decode cX14_reads 32 = .ok (.iconst 0, 1) := by decide +kernel
theorem dX14_reads_33 : decode cX14_reads 33 = .ok (.bastore, 1) := by decide +kernel
theorem dX14_reads_34 : decode cX14_reads 34 = .ok (.iinc 1 1, 3) := by decide +kernel
theorem dX14_reads_37 : decode cX14_reads 37 = .ok (.goto (-19), 3) := by decide +kernel
theorem dX14_reads_40 : decode cX14_reads 40 = .ok (.aload_n 0, 1) := by decide +kernel
theorem dX14_reads_41 : decode cX14_reads 41 = .ok (.invokevirtual 195, 3) := by decide +kernel
theorem dX14_reads_44 : decode cX14_reads 44 = .ok (.iconst 1, 1) := by decide +kernel
theorem dX14_reads_45 : decode cX14_reads 45 = .ok (.istore_n 1, 1) := by decide +kernel
theorem dX14_reads_46 : decode cX14_reads 46 = .ok (.iload_n 1, 1) := by decide +kernel
theorem dX14_reads_47 : decode cX14_reads 47 = .ok (.ifCond .eq 24, 3) := by decide +kernel
theorem dX14_reads_50 : decode cX14_reads 50 = .ok (.aload_n 0, 1) := by decide +kernel
theorem dX14_reads_51 : decode cX14_reads 51 = .ok (.invokevirtual 198, 3) := by decide +kernel
theorem dX14_reads_54 : decode cX14_reads 54 = .ok (.aload_n 0, 1) := by decide +kernel
theorem dX14_reads_55 : decode cX14_reads 55 = .ok (.getfield 162, 3) := by decide +kernel
theorem dX14_reads_58 : decode cX14_reads 58 = .ok (.iconst 1, 1) := by decide +kernel
theorem dX14_reads_59 : decode cX14_reads 59 = .ok (.if_icmp .eq 7, 3) := by decide +kernel
theorem dX14_reads_62 : decode cX14_reads 62 = .ok (.iconst 1, 1) := by decide +kernel
theorem dX14_reads_63 : decode cX14_reads 63 = .ok (.goto 4, 3) := by decide +kernel
theorem dX14_reads_66 : decode cX14_reads 66 = .ok (.iconst 0, 1) := by decide +kernel
theorem dX14_reads_67 : decode cX14_reads 67 = .ok (.istore_n 1, 1) := by decide +kernel
theorem dX14_reads_68 : decode cX14_reads 68 = .ok (.goto (-22), 3) := by decide +kernel
theorem dX14_reads_71 : decode cX14_reads 71 = .ok (.iconst 0, 1) := by decide +kernel
theorem dX14_reads_72 : decode cX14_reads 72 = .ok (.istore_n 2, 1) := by decide +kernel
theorem dX14_reads_73 : decode cX14_reads 73 = .ok (.iload_n 2, 1) := by decide +kernel
theorem dX14_reads_74 : decode cX14_reads 74 = .ok (.aload_n 0, 1) := by decide +kernel
theorem dX14_reads_75 : decode cX14_reads 75 = .ok (.getfield 20, 3) := by decide +kernel
theorem dX14_reads_78 : decode cX14_reads 78 = .ok (.getfield 186, 3) := by decide +kernel
theorem dX14_reads_81 : decode cX14_reads 81 = .ok (.if_icmp .ge 93, 3) := by decide +kernel
theorem dX14_reads_84 : decode cX14_reads 84 = .ok (.aload_n 0, 1) := by decide +kernel
theorem dX14_reads_85 : decode cX14_reads 85 = .ok (.getfield 20, 3) := by decide +kernel
theorem dX14_reads_88 : decode cX14_reads 88 = .ok (.getfield 201, 3) := by decide +kernel
theorem dX14_reads_91 : decode cX14_reads 91 = .ok (.iload_n 2, 1) := by decide +kernel
theorem dX14_reads_92 : decode cX14_reads 92 = .ok (.iaload, 1) := by decide +kernel
theorem dX14_reads_93 : decode cX14_reads 93 = .ok (.bipush 11, 2) := by decide +kernel
theorem dX14_reads_95 : decode cX14_reads 95 = .ok (.if_icmp .eq 20, 3) := by decide +kernel
theorem dX14_reads_98 : decode cX14_reads 98 = .ok (.aload_n 0, 1) := by decide +kernel
theorem dX14_reads_99 : decode cX14_reads 99 = .ok (.getfield 20, 3) := by decide +kernel
theorem dX14_reads_102 : decode cX14_reads 102 = .ok (.getfield 201, 3) := by decide +kernel
theorem dX14_reads_105 : decode cX14_reads 105 = .ok (.iload_n 2, 1) := by decide +kernel
theorem dX14_reads_106 : decode cX14_reads 106 = .ok (.iaload, 1) := by decide +kernel
theorem dX14_reads_107 : decode cX14_reads 107 = .ok (.bipush 12, 2) := by decide +kernel
theorem dX14_reads_109 : decode cX14_reads 109 = .ok (.if_icmp .eq 6, 3) := by decide +kernel
theorem dX14_reads_112 : decode cX14_reads 112 = .ok (.goto 56, 3) := by decide +kernel
theorem dX14_reads_115 : decode cX14_reads 115 = .ok (.aload_n 0, 1) := by decide +kernel
theorem dX14_reads_116 : decode cX14_reads 116 = .ok (.getfield 20, 3) := by decide +kernel
theorem dX14_reads_119 : decode cX14_reads 119 = .ok (.getfield 203, 3) := by decide +kernel
theorem dX14_reads_122 : decode cX14_reads 122 = .ok (.iload_n 2, 1) := by decide +kernel
theorem dX14_reads_123 : decode cX14_reads 123 = .ok (.aload_n 0, 1) := by decide +kernel
theorem dX14_reads_124 : decode cX14_reads 124 = .ok (.getfield 20, 3) := by decide +kernel
theorem dX14_reads_127 : decode cX14_reads 127 = .ok (.aload_n 0, 1) := by decide +kernel
theorem dX14_reads_128 : decode cX14_reads 128 = .ok (.getfield 20, 3) := by decide +kernel
theorem dX14_reads_131 : decode cX14_reads 131 = .ok (.getfield 206, 3) := by decide +kernel
theorem dX14_reads_134 : decode cX14_reads 134 = .ok (.iload_n 2, 1) := by decide +kernel
theorem dX14_reads_135 : decode cX14_reads 135 = .ok (.laload, 1) := by decide +kernel
theorem dX14_reads_136 : decode cX14_reads 136 = .ok (.invokevirtual 210, 3) := by decide +kernel
theorem dX14_reads_139 : decode cX14_reads 139 = .ok (.iastore, 1) := by decide +kernel
theorem dX14_reads_140 : decode cX14_reads 140 = .ok (.aload_n 0, 1) := by decide +kernel
theorem dX14_reads_141 : decode cX14_reads 141 = .ok (.getfield 20, 3) := by decide +kernel
theorem dX14_reads_144 : decode cX14_reads 144 = .ok (.getfield 203, 3) := by decide +kernel
theorem dX14_reads_147 : decode cX14_reads 147 = .ok (.iload_n 2, 1) := by decide +kernel
theorem dX14_reads_148 : decode cX14_reads 148 = .ok (.iaload, 1) := by decide +kernel
theorem dX14_reads_149 : decode cX14_reads 149 = .ok (.iconst (-1), 1) := by decide +kernel
theorem dX14_reads_150 : decode cX14_reads 150 = .ok (.if_icmp .ne 18, 3) := by decide +kernel
theorem dX14_reads_153 : decode cX14_reads 153 = .ok (.aload_n 0, 1) := by decide +kernel
theorem dX14_reads_154 : decode cX14_reads 154 = .ok (.iconst 2, 1) := by decide +kernel
theorem dX14_reads_155 : decode cX14_reads 155 = .ok (.aload_n 0, 1) := by decide +kernel
theorem dX14_reads_156 : decode cX14_reads 156 = .ok (.getfield 20, 3) := by decide +kernel
theorem dX14_reads_159 : decode cX14_reads 159 = .ok (.getfield 214, 3) := by decide +kernel
theorem dX14_reads_162 : decode cX14_reads 162 = .ok (.iload_n 2, 1) := by decide +kernel
theorem dX14_reads_163 : decode cX14_reads 163 = .ok (.iaload, 1) := by decide +kernel
theorem dX14_reads_164 : decode cX14_reads 164 = .ok (.invokevirtual 216, 3) := by decide +kernel
theorem dX14_reads_167 : decode cX14_reads 167 = .ok (.athrow, 1) := by decide +kernel
theorem dX14_reads_168 : decode cX14_reads 168 = .ok (.iinc 2 1, 3) := by decide +kernel
theorem dX14_reads_171 : decode cX14_reads 171 = .ok (.goto (-98), 3) := by decide +kernel
theorem dX14_reads_174 : decode cX14_reads 174 = .ok (.return_, 1) := by decide +kernel
theorem dX14_readItem_0 : decode cX14_readItem 0 = .ok (.aload_n 0, 1) := by decide +kernel
theorem dX14_readItem_1 : decode cX14_readItem 1 = .ok (.getfield 162, 3) := by decide +kernel
theorem dX14_readItem_4 : decode cX14_readItem 4 = .ok (.iconst 2, 1) := by decide +kernel
theorem dX14_readItem_5 : decode cX14_readItem 5 = .ok (.if_icmp .eq 13, 3) := by decide +kernel
theorem dX14_readItem_8 : decode cX14_readItem 8 = .ok (.aload_n 0, 1) := by decide +kernel
theorem dX14_readItem_9 : decode cX14_readItem 9 = .ok (.iconst 1, 1) := by decide +kernel
theorem dX14_readItem_10 : decode cX14_readItem 10 = .ok (.aload_n 0, 1) := by decide +kernel
theorem dX14_readItem_11 : decode cX14_readItem 11 = .ok (.getfield 161, 3) := by decide +kernel
theorem dX14_readItem_14 : decode cX14_readItem 14 = .ok (.invokevirtual 216, 3) := by decide +kernel
theorem dX14_readItem_17 : decode cX14_readItem 17 = .ok (.athrow, 1) := by decide +kernel
theorem dX14_readItem_18 : decode cX14_readItem 18 = .ok (.aload_n 0, 1) := by decide +kernel
theorem dX14_readItem_19 : decode cX14_readItem 19 = .ok (.getfield 172, 3) := by decide +kernel
theorem dX14_readItem_22 : decode cX14_readItem 22 = .ok (.lstore_n 1, 1) := by decide +kernel
theorem dX14_readItem_23 : decode cX14_readItem 23 = .ok (.aload_n 0, 1) := by decide +kernel
theorem dX14_readItem_24 : decode cX14_readItem 24 = .ok (.getfield 161, 3) := by decide +kernel
theorem dX14_readItem_27 : decode cX14_readItem 27 = .ok (.istore_n 3, 1) := by decide +kernel
theorem dX14_readItem_28 : decode cX14_readItem 28 = .ok (.aload_n 0, 1) := by decide +kernel
theorem dX14_readItem_29 : decode cX14_readItem 29 = .ok (.invokevirtual 195, 3) := by decide +kernel
theorem dX14_readItem_32 : decode cX14_readItem 32 = .ok (.aload_n 0, 1) := by decide +kernel
theorem dX14_readItem_33 : decode cX14_readItem 33 = .ok (.bipush 58, 2) := by decide +kernel
theorem dX14_readItem_35 : decode cX14_readItem 35 = .ok (.invokevirtual 219, 3) := by decide +kernel
theorem dX14_readItem_38 : decode cX14_readItem 38 = .ok (.ifCond .eq 137, 3) := by decide +kernel
theorem dX14_readItem_41 : decode cX14_readItem 41 = .ok (.aload_n 0, 1) := by decide +kernel
theorem dX14_readItem_42 : decode cX14_readItem 42 = .ok (.getfield 20, 3) := by decide +kernel
theorem dX14_readItem_45 : decode cX14_readItem 45 = .ok (.lload_n 1, 1) := by decide +kernel
theorem dX14_readItem_46 : decode cX14_readItem 46 = .ok (.invokevirtual 210, 3) := by decide +kernel
theorem dX14_readItem_49 : decode cX14_readItem 49 = .ok (.iconst (-1), 1) := by decide +kernel
theorem dX14_readItem_50 : decode cX14_readItem 50 = .ok (.if_icmp .eq 10, 3) := by decide +kernel
theorem dX14_readItem_53 : decode cX14_readItem 53 = .ok (.aload_n 0, 1) := by decide +kernel
theorem dX14_readItem_54 : decode cX14_readItem 54 = .ok (.iconst 3, 1) := by decide +kernel
theorem dX14_readItem_55 : decode cX14_readItem 55 = .ok (.iload_n 3, 1) := by decide +kernel
theorem dX14_readItem_56 : decode cX14_readItem 56 = .ok (.invokevirtual 216, 3) := by decide +kernel
theorem dX14_readItem_59 : decode cX14_readItem 59 = .ok (.athrow, 1) := by decide +kernel
theorem dX14_readItem_60 : decode cX14_readItem 60 = .ok (.aload_n 0, 1) := by decide +kernel
theorem dX14_readItem_61 : decode cX14_readItem 61 = .ok (.getfield 20, 3) := by decide +kernel
theorem dX14_readItem_64 : decode cX14_readItem 64 = .ok (.getfield 189, 3) := by decide +kernel
theorem dX14_readItem_67 : decode cX14_readItem 67 = .ok (.bipush 100, 2) := by decide +kernel
theorem dX14_readItem_69 : decode cX14_readItem 69 = .ok (.if_icmp .gt 54, 3) := by decide +kernel
theorem dX14_readItem_72 : decode cX14_readItem 72 = .ok (.aload_n 0, 1) := by decide +kernel
theorem dX14_readItem_73 : decode cX14_readItem 73 = .ok (.getfield 20, 3) := by decide +kernel
theorem dX14_readItem_76 : decode cX14_readItem 76 = .ok (.getfield 222, 3) := by decide +kernel
theorem dX14_readItem_79 : decode cX14_readItem 79 = .ok (.aload_n 0, 1) := by decide +kernel
theorem dX14_readItem_80 : decode cX14_readItem 80 = .ok (.getfield 20, 3) := by decide +kernel
theorem dX14_readItem_83 : decode cX14_readItem 83 = .ok (.getfield 189, 3) := by decide +kernel
theorem dX14_readItem_86 : decode cX14_readItem 86 = .ok (.lload_n 1, 1) := by decide +kernel
theorem dX14_readItem_87 : decode cX14_readItem 87 = .ok (.lastore, 1) := by decide +kernel
theorem dX14_readItem_88 : decode cX14_readItem 88 = .ok (.aload_n 0, 1) := by decide +kernel
theorem dX14_readItem_89 : decode cX14_readItem 89 = .ok (.getfield 20, 3) := by decide +kernel
theorem dX14_readItem_92 : decode cX14_readItem 92 = .ok (.getfield 225, 3) := by decide +kernel
theorem dX14_readItem_95 : decode cX14_readItem 95 = .ok (.aload_n 0, 1) := by decide +kernel
theorem dX14_readItem_96 : decode cX14_readItem 96 = .ok (.getfield 20, 3) := by decide +kernel
theorem dX14_readItem_99 : decode cX14_readItem 99 = .ok (.getfield 189, 3) := by decide +kernel
theorem dX14_readItem_102 : decode cX14_readItem 102 = .ok (.aload_n 0, 1) := by decide +kernel
theorem dX14_readItem_103 : decode cX14_readItem 103 = .ok (.getfield 20, 3) := by decide +kernel
theorem dX14_readItem_106 : decode cX14_readItem 106 = .ok (.getfield 186, 3) := by decide +kernel
theorem dX14_readItem_109 : decode cX14_readItem 109 = .ok (.iastore, 1) := by decide +kernel
theorem dX14_readItem_110 : decode cX14_readItem 110 = .ok (.aload_n 0, 1) := by decide +kernel
theorem dX14_readItem_111 : decode cX14_readItem 111 = .ok (.getfield 20, 3) := by decide +kernel
theorem dX14_readItem_114 : decode cX14_readItem 114 = .ok (.dup, 1) := by decide +kernel
theorem dX14_readItem_115 : decode cX14_readItem 115 = .ok (.getfield 189, 3) := by decide +kernel
theorem dX14_readItem_118 : decode cX14_readItem 118 = .ok (.iconst 1, 1) := by decide +kernel
theorem dX14_readItem_119 : decode cX14_readItem 119 = .ok (.iadd, 1) := by decide +kernel
theorem dX14_readItem_120 : decode cX14_readItem 120 = .ok (.putfield 189, 3) := by decide +kernel
theorem dX14_readItem_123 : decode cX14_readItem 123 = .ok (.aload_n 0, 1) := by decide +kernel
theorem dX14_readItem_124 : decode cX14_readItem 124 = .ok (.getfield 20, 3) := by decide +kernel
theorem dX14_readItem_127 : decode cX14_readItem 127 = .ok (.getfield 192, 3) := by decide +kernel
theorem dX14_readItem_130 : decode cX14_readItem 130 = .ok (.aload_n 0, 1) := by decide +kernel
theorem dX14_readItem_131 : decode cX14_readItem 131 = .ok (.getfield 20, 3) := by decide +kernel
theorem dX14_readItem_134 : decode cX14_readItem 134 = .ok (.getfield 186, 3) := by decide +kernel
theorem dX14_readItem_137 : decode cX14_readItem 137 = .ok (.iconst 1, 1) := by decide +kernel
theorem dX14_readItem_138 : decode cX14_readItem 138 = .ok (.bastore, 1) := by decide +kernel
theorem dX14_readItem_139 : decode cX14_readItem 139 = .ok (.aload_n 0, 1) := by decide +kernel
theorem dX14_readItem_140 : decode cX14_readItem 140 = .ok (.invokevirtual 195, 3) := by decide +kernel
theorem dX14_readItem_143 : decode cX14_readItem 143 = .ok (.aload_n 0, 1) := by decide +kernel
theorem dX14_readItem_144 : decode cX14_readItem 144 = .ok (.getfield 162, 3) := by decide +kernel
theorem dX14_readItem_147 : decode cX14_readItem 147 = .ok (.iconst 2, 1) := by decide +kernel
theorem dX14_readItem_148 : decode cX14_readItem 148 = .ok (.if_icmp .eq 13, 3) := by decide +kernel
theorem dX14_readItem_151 : decode cX14_readItem 151 = .ok (.aload_n 0, 1) := by decide +kernel
theorem dX14_readItem_152 : decode cX14_readItem 152 = .ok (.iconst 1, 1) := by decide +kernel
theorem dX14_readItem_153 : decode cX14_readItem 153 = .ok (.aload_n 0, 1) := by decide +kernel
theorem dX14_readItem_154 : decode cX14_readItem 154 = .ok (.getfield 161, 3) := by decide +kernel
theorem dX14_readItem_157 : decode cX14_readItem 157 = .ok (.invokevirtual 216, 3) := by decide +kernel
theorem dX14_readItem_160 : decode cX14_readItem 160 = .ok (.athrow, 1) := by decide +kernel
theorem dX14_readItem_161 : decode cX14_readItem 161 = .ok (.aload_n 0, 1) := by decide +kernel
theorem dX14_readItem_162 : decode cX14_readItem 162 = .ok (.getfield 172, 3) := by decide +kernel
theorem dX14_readItem_165 : decode cX14_readItem 165 = .ok (.lstore_n 1, 1) := by decide +kernel
theorem dX14_readItem_166 : decode cX14_readItem 166 = .ok (.aload_n 0, 1) := by decide +kernel
theorem dX14_readItem_167 : decode cX14_readItem 167 = .ok (.getfield 161, 3) := by decide +kernel
theorem dX14_readItem_170 : decode cX14_readItem 170 = .ok (.istore_n 3, 1) := by decide +kernel
theorem dX14_readItem_171 : decode cX14_readItem 171 = .ok (.aload_n 0, 1) := by decide +kernel
theorem dX14_readItem_172 : decode cX14_readItem 172 = .ok (.invokevirtual 195, 3) := by decide +kernel
theorem dX14_readItem_175 : decode cX14_readItem 175 = .ok (.aload_n 0, 1) := by decide +kernel
theorem dX14_readItem_176 : decode cX14_readItem 176 = .ok (.lload_n 1, 1) := by decide +kernel
theorem dX14_readItem_177 : decode cX14_readItem 177 = .ok (.invokevirtual 228, 3) := by decide +kernel
theorem dX14_readItem_180 : decode cX14_readItem 180 = .ok (.istore 4, 2) := by decide +kernel
theorem dX14_readItem_182 : decode cX14_readItem 182 = .ok (.iload 4, 2) := by decide +kernel
theorem dX14_readItem_184 : decode cX14_readItem 184 = .ok (.iconst (-1), 1) := by decide +kernel
theorem dX14_readItem_185 : decode cX14_readItem 185 = .ok (.if_icmp .ne 10, 3) := by decide +kernel
theorem dX14_readItem_188 : decode cX14_readItem 188 = .ok (.aload_n 0, 1) := by decide +kernel
theorem dX14_readItem_189 : decode cX14_readItem 189 = .ok (.iconst 2, 1) := by decide +kernel
theorem dX14_readItem_190 : decode cX14_readItem 190 = .ok (.iload_n 3, 1) := by decide +kernel
theorem dX14_readItem_191 : decode cX14_readItem 191 = .ok (.invokevirtual 216, 3) := by decide +kernel
theorem dX14_readItem_194 : decode cX14_readItem 194 = .ok (.athrow, 1) := by decide +kernel
theorem dX14_readItem_195 : decode cX14_readItem 195 = .ok (.aload_n 0, 1) := by decide +kernel
theorem dX14_readItem_196 : decode cX14_readItem 196 = .ok (.getfield 20, 3) := by decide +kernel
theorem dX14_readItem_199 : decode cX14_readItem 199 = .ok (.getfield 186, 3) := by decide +kernel
theorem dX14_readItem_202 : decode cX14_readItem 202 = .ok (.bipush 100, 2) := by decide +kernel
theorem dX14_readItem_204 : decode cX14_readItem 204 = .ok (.if_icmp .ne 10, 3) := by decide +kernel
theorem dX14_readItem_207 : decode cX14_readItem 207 = .ok (.aload_n 0, 1) := by decide +kernel
theorem dX14_readItem_208 : decode cX14_readItem 208 = .ok (.iconst 5, 1) := by decide +kernel
theorem dX14_readItem_209 : decode cX14_readItem 209 = .ok (.iload_n 3, 1) := by decide +kernel
theorem dX14_readItem_210 : decode cX14_readItem 210 = .ok (.invokevirtual 216, 3) := by decide +kernel
theorem dX14_readItem_213 : decode cX14_readItem 213 = .ok (.athrow, 1) := by decide +kernel
theorem dX14_readItem_214 : decode cX14_readItem 214 = .ok (.aload_n 0, 1) := by decide +kernel
theorem dX14_readItem_215 : decode cX14_readItem 215 = .ok (.getfield 20, 3) := by decide +kernel
theorem dX14_readItem_218 : decode cX14_readItem 218 = .ok (.getfield 186, 3) := by decide +kernel
theorem dX14_readItem_221 : decode cX14_readItem 221 = .ok (.istore 5, 2) := by decide +kernel
theorem dX14_readItem_223 : decode cX14_readItem 223 = .ok (.aload_n 0, 1) := by decide +kernel
theorem dX14_readItem_224 : decode cX14_readItem 224 = .ok (.getfield 20, 3) := by decide +kernel
theorem dX14_readItem_227 : decode cX14_readItem 227 = .ok (.getfield 201, 3) := by decide +kernel
theorem dX14_readItem_230 : decode cX14_readItem 230 = .ok (.iload 5, 2) := by decide +kernel
theorem dX14_readItem_232 : decode cX14_readItem 232 = .ok (.iload 4, 2) := by decide +kernel
theorem dX14_readItem_234 : decode cX14_readItem 234 = .ok (.iastore, 1) := by decide +kernel
theorem dX14_readItem_235 : decode cX14_readItem 235 = .ok (.aload_n 0, 1) := by decide +kernel
theorem dX14_readItem_236 : decode cX14_readItem 236 = .ok (.getfield 20, 3) := by decide +kernel
theorem dX14_readItem_239 : decode cX14_readItem 239 = .ok (.getfield 203, 3) := by decide +kernel
theorem dX14_readItem_242 : decode cX14_readItem 242 = .ok (.iload 5, 2) := by decide +kernel
theorem dX14_readItem_244 : decode cX14_readItem 244 = .ok (.iconst 0, 1) := by decide +kernel
theorem dX14_readItem_245 : decode cX14_readItem 245 = .ok (.iastore, 1) := by decide +kernel
theorem dX14_readItem_246 : decode cX14_readItem 246 = .ok (.aload_n 0, 1) := by decide +kernel
theorem dX14_readItem_247 : decode cX14_readItem 247 = .ok (.getfield 20, 3) := by decide +kernel
theorem dX14_readItem_250 : decode cX14_readItem 250 = .ok (.getfield 214, 3) := by decide +kernel
theorem dX14_readItem_253 : decode cX14_readItem 253 = .ok (.iload 5, 2) := by decide +kernel
theorem dX14_readItem_255 : decode cX14_readItem 255 = .ok (.aload_n 0, 1) := by decide +kernel
theorem dX14_readItem_256 : decode cX14_readItem 256 = .ok (.getfield 161, 3) := by decide +kernel
theorem dX14_readItem_259 : decode cX14_readItem 259 = .ok (.iastore, 1) := by decide +kernel
theorem dX14_readItem_260 : decode cX14_readItem 260 = .ok (.iload 4, 2) := by decide +kernel
theorem dX14_readItem_262 : decode cX14_readItem 262 = .ok (.ifCond .eq 17, 3) := by decide +kernel
theorem dX14_readItem_265 : decode cX14_readItem 265 = .ok (.iload 4, 2) := by decide +kernel
theorem dX14_readItem_267 : decode cX14_readItem 267 = .ok (.bipush 9, 2) := by decide +kernel
theorem dX14_readItem_269 : decode cX14_readItem 269 = .ok (.if_icmp .eq 10, 3) := by decide +kernel
theorem dX14_readItem_272 : decode cX14_readItem 272 = .ok (.iload 4, 2) := by decide +kernel
theorem dX14_readItem_274 : decode cX14_readItem 274 = .ok (.bipush 10, 2) := by decide +kernel
theorem dX14_readItem_276 : decode cX14_readItem 276 = .ok (.if_icmp .ne 66, 3) := by decide +kernel
theorem dX14_readItem_279 : decode cX14_readItem 279 = .ok (.aload_n 0, 1) := by decide +kernel
theorem dX14_readItem_280 : decode cX14_readItem 280 = .ok (.getfield 162, 3) := by decide +kernel
theorem dX14_readItem_283 : decode cX14_readItem 283 = .ok (.iconst 3, 1) := by decide +kernel
theorem dX14_readItem_284 : decode cX14_readItem 284 = .ok (.if_icmp .eq 13, 3) := by decide +kernel
theorem dX14_readItem_287 : decode cX14_readItem 287 = .ok (.aload_n 0, 1) := by decide +kernel
theorem dX14_readItem_288 : decode cX14_readItem 288 = .ok (.iconst 1, 1) := by decide +kernel
theorem dX14_readItem_289 : decode cX14_readItem 289 = .ok (.aload_n 0, 1) := by decide +kernel
theorem dX14_readItem_290 : decode cX14_readItem 290 = .ok (.getfield 161, 3) := by decide +kernel
theorem dX14_readItem_293 : decode cX14_readItem 293 = .ok (.invokevirtual 216, 3) := by decide +kernel
theorem dX14_readItem_296 : decode cX14_readItem 296 = .ok (.athrow, 1) := by decide +kernel
theorem dX14_readItem_297 : decode cX14_readItem 297 = .ok (.iload 4, 2) := by decide +kernel
theorem dX14_readItem_299 : decode cX14_readItem 299 = .ok (.ifCond .eq 22, 3) := by decide +kernel
theorem dX14_readItem_302 : decode cX14_readItem 302 = .ok (.aload_n 0, 1) := by decide +kernel
theorem dX14_readItem_303 : decode cX14_readItem 303 = .ok (.getfield 179, 3) := by decide +kernel
theorem dX14_readItem_306 : decode cX14_readItem 306 = .ok (.bipush 8, 2) := by decide +kernel
theorem dX14_readItem_308 : decode cX14_readItem 308 = .ok (.if_icmp .lt 13, 3) := by decide +kernel
theorem dX14_readItem_311 : decode cX14_readItem 311 = .ok (.aload_n 0, 1) := by decide +kernel
theorem dX14_readItem_312 : decode cX14_readItem 312 = .ok (.iconst 4, 1) := by decide +kernel
theorem dX14_readItem_313 : decode cX14_readItem 313 = .ok (.aload_n 0, 1) := by decide +kernel
theorem dX14_readItem_314 : decode cX14_readItem 314 = .ok (.getfield 161, 3) := by decide +kernel
theorem dX14_readItem_317 : decode cX14_readItem 317 = .ok (.invokevirtual 216, 3) := by decide +kernel
theorem dX14_readItem_320 : decode cX14_readItem 320 = .ok (.athrow, 1) := by decide +kernel
theorem dX14_readItem_321 : decode cX14_readItem 321 = .ok (.aload_n 0, 1) := by decide +kernel
theorem dX14_readItem_322 : decode cX14_readItem 322 = .ok (.getfield 20, 3) := by decide +kernel
theorem dX14_readItem_325 : decode cX14_readItem 325 = .ok (.getfield 203, 3) := by decide +kernel
theorem dX14_readItem_328 : decode cX14_readItem 328 = .ok (.iload 5, 2) := by decide +kernel
theorem dX14_readItem_330 : decode cX14_readItem 330 = .ok (.aload_n 0, 1) := by decide +kernel
theorem dX14_readItem_331 : decode cX14_readItem 331 = .ok (.getfield 179, 3) := by decide +kernel
theorem dX14_readItem_334 : decode cX14_readItem 334 = .ok (.iastore, 1) := by decide +kernel
theorem dX14_readItem_335 : decode cX14_readItem 335 = .ok (.aload_n 0, 1) := by decide +kernel
theorem dX14_readItem_336 : decode cX14_readItem 336 = .ok (.invokevirtual 195, 3) := by decide +kernel
theorem dX14_readItem_339 : decode cX14_readItem 339 = .ok (.goto 53, 3) := by decide +kernel
theorem dX14_readItem_342 : decode cX14_readItem 342 = .ok (.iload 4, 2) := by decide +kernel
theorem dX14_readItem_344 : decode cX14_readItem 344 = .ok (.bipush 11, 2) := by decide +kernel
theorem dX14_readItem_346 : decode cX14_readItem 346 = .ok (.if_icmp .eq 10, 3) := by decide +kernel
theorem dX14_readItem_349 : decode cX14_readItem 349 = .ok (.iload 4, 2) := by decide +kernel
theorem dX14_readItem_351 : decode cX14_readItem 351 = .ok (.bipush 12, 2) := by decide +kernel
theorem dX14_readItem_353 : decode cX14_readItem 353 = .ok (.if_icmp .ne 39, 3) := by decide +kernel
theorem dX14_readItem_356 : decode cX14_readItem 356 = .ok (.aload_n 0, 1) := by decide +kernel
theorem dX14_readItem_357 : decode cX14_readItem 357 = .ok (.getfield 162, 3) := by decide +kernel
theorem dX14_readItem_360 : decode cX14_readItem 360 = .ok (.iconst 2, 1) := by decide +kernel
theorem dX14_readItem_361 : decode cX14_readItem 361 = .ok (.if_icmp .eq 13, 3) := by decide +kernel
theorem dX14_readItem_364 : decode cX14_readItem 364 = .ok (.aload_n 0, 1) := by decide +kernel
theorem dX14_readItem_365 : decode cX14_readItem 365 = .ok (.iconst 1, 1) := by decide +kernel
theorem dX14_readItem_366 : decode cX14_readItem 366 = .ok (.aload_n 0, 1) := by decide +kernel
theorem dX14_readItem_367 : decode cX14_readItem 367 = .ok (.getfield 161, 3) := by decide +kernel
theorem dX14_readItem_370 : decode cX14_readItem 370 = .ok (.invokevirtual 216, 3) := by decide +kernel
theorem dX14_readItem_373 : decode cX14_readItem 373 = .ok (.athrow, 1) := by decide +kernel
theorem dX14_readItem_374 : decode cX14_readItem 374 = .ok (.aload_n 0, 1) := by decide +kernel
theorem dX14_readItem_375 : decode cX14_readItem 375 = .ok (.getfield 20, 3) := by decide +kernel
theorem dX14_readItem_378 : decode cX14_readItem 378 = .ok (.getfield 206, 3) := by decide +kernel
theorem dX14_readItem_381 : decode cX14_readItem 381 = .ok (.iload 5, 2) := by decide +kernel
theorem dX14_readItem_383 : decode cX14_readItem 383 = .ok (.aload_n 0, 1) := by decide +kernel
theorem dX14_readItem_384 : decode cX14_readItem 384 = .ok (.getfield 172, 3) := by decide +kernel
theorem dX14_readItem_387 : decode cX14_readItem 387 = .ok (.lastore, 1) := by decide +kernel
theorem dX14_readItem_388 : decode cX14_readItem 388 = .ok (.aload_n 0, 1) := by decide +kernel
theorem dX14_readItem_389 : decode cX14_readItem 389 = .ok (.invokevirtual 195, 3) := by decide +kernel
theorem dX14_readItem_392 : decode cX14_readItem 392 = .ok (.aload_n 0, 1) := by decide +kernel
theorem dX14_readItem_393 : decode cX14_readItem 393 = .ok (.bipush 59, 2) := by decide +kernel
theorem dX14_readItem_395 : decode cX14_readItem 395 = .ok (.invokevirtual 219, 3) := by decide +kernel
theorem dX14_readItem_398 : decode cX14_readItem 398 = .ok (.ifCond .ne 13, 3) := by decide +kernel
theorem dX14_readItem_401 : decode cX14_readItem 401 = .ok (.aload_n 0, 1) := by decide +kernel
theorem dX14_readItem_402 : decode cX14_readItem 402 = .ok (.iconst 1, 1) := by decide +kernel
theorem dX14_readItem_403 : decode cX14_readItem 403 = .ok (.aload_n 0, 1) := by decide +kernel
theorem dX14_readItem_404 : decode cX14_readItem 404 = .ok (.getfield 161, 3) := by decide +kernel
theorem dX14_readItem_407 : decode cX14_readItem 407 = .ok (.invokevirtual 216, 3) := by decide +kernel
theorem dX14_readItem_410 : decode cX14_readItem 410 = .ok (.athrow, 1) := by decide +kernel
theorem dX14_readItem_411 : decode cX14_readItem 411 = .ok (.aload_n 0, 1) := by decide +kernel
theorem dX14_readItem_412 : decode cX14_readItem 412 = .ok (.invokevirtual 195, 3) := by decide +kernel
theorem dX14_readItem_415 : decode cX14_readItem 415 = .ok (.aload_n 0, 1) := by decide +kernel
theorem dX14_readItem_416 : decode cX14_readItem 416 = .ok (.getfield 20, 3) := by decide +kernel
theorem dX14_readItem_419 : decode cX14_readItem 419 = .ok (.dup, 1) := by decide +kernel
theorem dX14_readItem_420 : decode cX14_readItem 420 = .ok (.getfield 186, 3) := by decide +kernel
theorem dX14_readItem_423 : decode cX14_readItem 423 = .ok (.iconst 1, 1) := by decide +kernel
theorem dX14_readItem_424 : decode cX14_readItem 424 = .ok (.iadd, 1) := by decide +kernel
theorem dX14_readItem_425 : decode cX14_readItem 425 = .ok (.putfield 186, 3) := by decide +kernel
theorem dX14_readItem_428 : decode cX14_readItem 428 = .ok (.return_, 1) := by decide +kernel
theorem dX14_feed_0 : decode cX14_feed 0 = .ok (.aload_n 0, 1) := by decide +kernel
theorem dX14_feed_1 : decode cX14_feed 1 = .ok (.iconst 0, 1) := by decide +kernel
theorem dX14_feed_2 : decode cX14_feed 2 = .ok (.putfield 129, 3) := by decide +kernel
theorem dX14_feed_5 : decode cX14_feed 5 = .ok (.aload_n 0, 1) := by decide +kernel
theorem dX14_feed_6 : decode cX14_feed 6 = .ok (.getfield 231, 3) := by decide +kernel
theorem dX14_feed_9 : decode cX14_feed 9 = .ok (.bipush 20, 2) := by decide +kernel
theorem dX14_feed_11 : decode cX14_feed 11 = .ok (.iadd, 1) := by decide +kernel
theorem dX14_feed_12 : decode cX14_feed 12 = .ok (.sipush 600, 3) := by decide +kernel
