theorem dX0_init_0 : decode cX0_init 0 = .ok (.aload_n 0, 1) := by decide +kernel
theorem dX0_init_1 : decode cX0_init 1 = .ok (.invokespecial 3, 3) := by decide +kernel
theorem dX0_init_4 : decode cX0_init 4 = .ok (.aload_n 0, 1) := by decide +kernel
theorem dX0_init_5 : decode cX0_init 5 = .ok (.bipush 20, 2) := by decide +kernel
theorem dX0_init_7 : decode cX0_init 7 = .ok (.newarray .int, 2) := by decide +kernel
theorem dX0_init_9 : decode cX0_init 9 = .ok (.putfield 9, 3) := by decide +kernel
theorem dX0_init_12 : decode cX0_init 12 = .ok (.return_, 1) := by decide +kernel
theorem dX0_begin_0 : decode cX0_begin 0 = .ok (.aload_n 0, 1) := by decide +kernel
theorem dX0_begin_1 : decode cX0_begin 1 = .ok (.iconst 0, 1) := by decide +kernel
theorem dX0_begin_2 : decode cX0_begin 2 = .ok (.putfield 15, 3) := by decide +kernel
theorem dX0_begin_5 : decode cX0_begin 5 = .ok (.return_, 1) := by decide +kernel
theorem dX0_run_0 : decode cX0_run 0 = .ok (.iload_n 2, 1) := by decide +kernel
theorem dX0_run_1 : decode cX0_run 1 = .ok (.iload_n 3, 1) := by decide +kernel
theorem dX0_run_2 : decode cX0_run 2 = .ok (.invokestatic 19, 3) := by decide +kernel
theorem dX0_run_5 : decode cX0_run 5 = .ok (.istore 6, 2) := by decide +kernel
theorem dX0_run_7 : decode cX0_run 7 = .ok (.iload 6, 2) := by decide +kernel
theorem dX0_run_9 : decode cX0_run 9 = .ok (.ifCond .lt 10, 3) := by decide +kernel
theorem dX0_run_12 : decode cX0_run 12 = .ok (.iload 5, 2) := by decide +kernel
theorem dX0_run_14 : decode cX0_run 14 = .ok (.bipush 40, 2) := by decide +kernel
theorem dX0_run_16 : decode cX0_run 16 = .ok (.if_icmp .le 5, 3) := by decide +kernel
theorem dX0_run_19 : decode cX0_run 19 = .ok (.iconst 0, 1) := by decide +kernel
theorem dX0_run_20 : decode cX0_run 20 = .ok (.ireturn, 1) := by decide +kernel
theorem dX0_run_21 : decode cX0_run 21 = .ok (.getstatic 23, 3) := by decide +kernel
theorem dX0_run_24 : decode cX0_run 24 = .ok (.iload 6, 2) := by decide +kernel
theorem dX0_run_26 : decode cX0_run 26 = .ok (.iconst 3, 1) := by decide +kernel
theorem dX0_run_27 : decode cX0_run 27 = .ok (.imul, 1) := by decide +kernel
theorem dX0_run_28 : decode cX0_run 28 = .ok (.iload_n 3, 1) := by decide +kernel
theorem dX0_run_29 : decode cX0_run 29 = .ok (.iadd, 1) := by decide +kernel
theorem dX0_run_30 : decode cX0_run 30 = .ok (.iaload, 1) := by decide +kernel
theorem dX0_run_31 : decode cX0_run 31 = .ok (.istore 7, 2) := by decide +kernel
theorem dX0_run_33 : decode cX0_run 33 = .ok (.getstatic 26, 3) := by decide +kernel
theorem dX0_run_36 : decode cX0_run 36 = .ok (.iload 6, 2) := by decide +kernel
theorem dX0_run_38 : decode cX0_run 38 = .ok (.iaload, 1) := by decide +kernel
theorem dX0_run_39 : decode cX0_run 39 = .ok (.istore 8, 2) := by decide +kernel
theorem dX0_run_41 : decode cX0_run 41 = .ok (.iload 5, 2) := by decide +kernel
theorem dX0_run_43 : decode cX0_run 43 = .ok (.iconst 1, 1) := by decide +kernel
theorem dX0_run_44 : decode cX0_run 44 = .ok (.iadd, 1) := by decide +kernel
theorem dX0_run_45 : decode cX0_run 45 = .ok (.istore 9, 2) := by decide +kernel
theorem dX0_run_47 : decode cX0_run 47 = .ok (.aload_n 0, 1) := by decide +kernel
theorem dX0_run_48 : decode cX0_run 48 = .ok (.iload 7, 2) := by decide +kernel
theorem dX0_run_50 : decode cX0_run 50 = .ok (.invokevirtual 29, 3) := by decide +kernel
theorem dX0_run_53 : decode cX0_run 53 = .ok (.iload 7, 2) := by decide +kernel
theorem dX0_run_55 : decode cX0_run 55 = .ok (.lookupswitch 238 #[(10, 81), (11, 89), (12, 106), (20, 141), (30, 159), (40, 174), (50, 189), (60, 207), (61, 223)], 81) := by decide +kernel
theorem dX0_run_136 : decode cX0_run 136 = .ok (.iload 4, 2) := by decide +kernel
theorem dX0_run_138 : decode cX0_run 138 = .ok (.aload_n 1, 1) := by decide +kernel
theorem dX0_run_139 : decode cX0_run 139 = .ok (.getfield 33, 3) := by decide +kernel
theorem dX0_run_142 : decode cX0_run 142 = .ok (.iadd, 1) := by decide +kernel
theorem dX0_run_143 : decode cX0_run 143 = .ok (.ireturn, 1) := by decide +kernel
theorem dX0_run_144 : decode cX0_run 144 = .ok (.aload_n 0, 1) := by decide +kernel
theorem dX0_run_145 : decode cX0_run 145 = .ok (.aload_n 1, 1) := by decide +kernel
theorem dX0_run_146 : decode cX0_run 146 = .ok (.aload_n 1, 1) := by decide +kernel
theorem dX0_run_147 : decode cX0_run 147 = .ok (.getfield 38, 3) := by decide +kernel
theorem dX0_run_150 : decode cX0_run 150 = .ok (.iconst 0, 1) := by decide +kernel
theorem dX0_run_151 : decode cX0_run 151 = .ok (.iload 4, 2) := by decide +kernel
theorem dX0_run_153 : decode cX0_run 153 = .ok (.iload 9, 2) := by decide +kernel
theorem dX0_run_155 : decode cX0_run 155 = .ok (.invokevirtual 41, 3) := by decide +kernel
theorem dX0_run_158 : decode cX0_run 158 = .ok (.iconst 2, 1) := by decide +kernel
theorem dX0_run_159 : decode cX0_run 159 = .ok (.imul, 1) := by decide +kernel
theorem dX0_run_160 : decode cX0_run 160 = .ok (.ireturn, 1) := by decide +kernel
theorem dX0_run_161 : decode cX0_run 161 = .ok (.aload_n 0, 1) := by decide +kernel
theorem dX0_run_162 : decode cX0_run 162 = .ok (.aload_n 1, 1) := by decide +kernel
theorem dX0_run_163 : decode cX0_run 163 = .ok (.aload_n 1, 1) := by decide +kernel
theorem dX0_run_164 : decode cX0_run 164 = .ok (.getfield 38, 3) := by decide +kernel
theorem dX0_run_167 : decode cX0_run 167 = .ok (.iconst 1, 1) := by decide +kernel
theorem dX0_run_168 : decode cX0_run 168 = .ok (.iload 4, 2) := by decide +kernel
theorem dX0_run_170 : decode cX0_run 170 = .ok (.iload 9, 2) := by decide +kernel
theorem dX0_run_172 : decode cX0_run 172 = .ok (.invokevirtual 41, 3) := by decide +kernel
theorem dX0_run_175 : decode cX0_run 175 = .ok (.aload_n 0, 1) := by decide +kernel
theorem dX0_run_176 : decode cX0_run 176 = .ok (.aload_n 1, 1) := by decide +kernel
theorem dX0_run_177 : decode cX0_run 177 = .ok (.aload_n 1, 1) := by decide +kernel
theorem dX0_run_178 : decode cX0_run 178 = .ok (.getfield 38, 3) := by decide +kernel
theorem dX0_run_181 : decode cX0_run 181 = .ok (.iconst 0, 1) := by decide +kernel
theorem dX0_run_182 : decode cX0_run 182 = .ok (.iload 4, 2) := by decide +kernel
theorem dX0_run_184 : decode cX0_run 184 = .ok (.aload_n 1, 1) := by decide +kernel
theorem dX0_run_185 : decode cX0_run 185 = .ok (.getfield 45, 3) := by decide +kernel
theorem dX0_run_188 : decode cX0_run 188 = .ok (.iadd, 1) := by decide +kernel
theorem dX0_run_189 : decode cX0_run 189 = .ok (.iload 9, 2) := by decide +kernel
theorem dX0_run_191 : decode cX0_run 191 = .ok (.invokevirtual 41, 3) := by decide +kernel
theorem dX0_run_194 : decode cX0_run 194 = .ok (.ixor, 1) := by decide +kernel
theorem dX0_run_195 : decode cX0_run 195 = .ok (.ireturn, 1) := by decide +kernel
theorem dX0_run_196 : decode cX0_run 196 = .ok (.aload_n 0, 1) := by decide +kernel
theorem dX0_run_197 : decode cX0_run 197 = .ok (.aload_n 1, 1) := by decide +kernel
theorem dX0_run_198 : decode cX0_run 198 = .ok (.iload 8, 2) := by decide +kernel
theorem dX0_run_200 : decode cX0_run 200 = .ok (.iconst 1, 1) := by decide +kernel
theorem dX0_run_201 : decode cX0_run 201 = .ok (.iload 4, 2) := by decide +kernel
theorem dX0_run_203 : decode cX0_run 203 = .ok (.iload 9, 2) := by decide +kernel
theorem dX0_run_205 : decode cX0_run 205 = .ok (.invokevirtual 41, 3) := by decide +kernel
theorem dX0_run_208 : decode cX0_run 208 = .ok (.aload_n 1, 1) := by decide +kernel
theorem dX0_run_209 : decode cX0_run 209 = .ok (.getfield 33, 3) := by decide +kernel
theorem dX0_run_212 : decode cX0_run 212 = .ok (.isub, 1) := by decide +kernel
theorem dX0_run_213 : decode cX0_run 213 = .ok (.ireturn, 1) := by decide +kernel
theorem dX0_run_214 : decode cX0_run 214 = .ok (.aload_n 0, 1) := by decide +kernel
theorem dX0_run_215 : decode cX0_run 215 = .ok (.aload_n 1, 1) := by decide +kernel
theorem dX0_run_216 : decode cX0_run 216 = .ok (.iload 8, 2) := by decide +kernel
theorem dX0_run_218 : decode cX0_run 218 = .ok (.iconst 0, 1) := by decide +kernel
theorem dX0_run_219 : decode cX0_run 219 = .ok (.iload 4, 2) := by decide +kernel
theorem dX0_run_221 : decode cX0_run 221 = .ok (.iload 9, 2) := by decide +kernel
theorem dX0_run_223 : decode cX0_run 223 = .ok (.invokevirtual 41, 3) := by decide +kernel
theorem dX0_run_226 : decode cX0_run 226 = .ok (.iconst 3, 1) := by decide +kernel
theorem dX0_run_227 : decode cX0_run 227 = .ok (.imul, 1) := by decide +kernel
theorem dX0_run_228 : decode cX0_run 228 = .ok (.ireturn, 1) := by decide +kernel
theorem dX0_run_229 : decode cX0_run 229 = .ok (.aload_n 0, 1) := by decide +kernel
theorem dX0_run_230 : decode cX0_run 230 = .ok (.aload_n 1, 1) := by decide +kernel
theorem dX0_run_231 : decode cX0_run 231 = .ok (.iload 8, 2) := by decide +kernel
theorem dX0_run_233 : decode cX0_run 233 = .ok (.iconst 2, 1) := by decide +kernel
theorem dX0_run_234 : decode cX0_run 234 = .ok (.iload 4, 2) := by decide +kernel
theorem dX0_run_236 : decode cX0_run 236 = .ok (.iconst 1, 1) := by decide +kernel
theorem dX0_run_237 : decode cX0_run 237 = .ok (.isub, 1) := by decide +kernel
theorem dX0_run_238 : decode cX0_run 238 = .ok (.iload 9, 2) := by decide +kernel
theorem dX0_run_240 : decode cX0_run 240 = .ok (.invokevirtual 41, 3) := by decide +kernel
theorem dX0_run_243 : decode cX0_run 243 = .ok (.ireturn, 1) := by decide +kernel
theorem dX0_run_244 : decode cX0_run 244 = .ok (.aload_n 0, 1) := by decide +kernel
theorem dX0_run_245 : decode cX0_run 245 = .ok (.aload_n 1, 1) := by decide +kernel
theorem dX0_run_246 : decode cX0_run 246 = .ok (.iload 8, 2) := by decide +kernel
theorem dX0_run_248 : decode cX0_run 248 = .ok (.iconst 2, 1) := by decide +kernel
theorem dX0_run_249 : decode cX0_run 249 = .ok (.iload 4, 2) := by decide +kernel
theorem dX0_run_251 : decode cX0_run 251 = .ok (.iload 9, 2) := by decide +kernel
theorem dX0_run_253 : decode cX0_run 253 = .ok (.invokevirtual 41, 3) := by decide +kernel
theorem dX0_run_256 : decode cX0_run 256 = .ok (.aload_n 1, 1) := by decide +kernel
theorem dX0_run_257 : decode cX0_run 257 = .ok (.getfield 33, 3) := by decide +kernel
theorem dX0_run_260 : decode cX0_run 260 = .ok (.iadd, 1) := by decide +kernel
theorem dX0_run_261 : decode cX0_run 261 = .ok (.ireturn, 1) := by decide +kernel
theorem dX0_run_262 : decode cX0_run 262 = .ok (.aload_n 0, 1) := by decide +kernel
theorem dX0_run_263 : decode cX0_run 263 = .ok (.aload_n 1, 1) := by decide +kernel
theorem dX0_run_264 : decode cX0_run 264 = .ok (.iload 8, 2) := by decide +kernel
theorem dX0_run_266 : decode cX0_run 266 = .ok (.iconst 1, 1) := by decide +kernel
theorem dX0_run_267 : decode cX0_run 267 = .ok (.iload 4, 2) := by decide +kernel
theorem dX0_run_269 : decode cX0_run 269 = .ok (.iload 9, 2) := by decide +kernel
theorem dX0_run_271 : decode cX0_run 271 = .ok (.invokevirtual 41, 3) := by decide +kernel
theorem dX0_run_274 : decode cX0_run 274 = .ok (.bipush 9, 2) := by decide +kernel
theorem dX0_run_276 : decode cX0_run 276 = .ok (.ixor, 1) := by decide +kernel
theorem dX0_run_277 : decode cX0_run 277 = .ok (.ireturn, 1) := by decide +kernel
theorem dX0_run_278 : decode cX0_run 278 = .ok (.aload_n 0, 1) := by decide +kernel
theorem dX0_run_279 : decode cX0_run 279 = .ok (.aload_n 1, 1) := by decide +kernel
theorem dX0_run_280 : decode cX0_run 280 = .ok (.iload 8, 2) := by decide +kernel
theorem dX0_run_282 : decode cX0_run 282 = .ok (.iconst 2, 1) := by decide +kernel
theorem dX0_run_283 : decode cX0_run 283 = .ok (.iload 4, 2) := by decide +kernel
theorem dX0_run_285 : decode cX0_run 285 = .ok (.iload 9, 2) := by decide +kernel
theorem dX0_run_287 : decode cX0_run 287 = .ok (.invokevirtual 41, 3) := by decide +kernel
theorem dX0_run_290 : decode cX0_run 290 = .ok (.iconst 2, 1) := by decide +kernel
theorem dX0_run_291 : decode cX0_run 291 = .ok (.imul, 1) := by decide +kernel
theorem dX0_run_292 : decode cX0_run 292 = .ok (.ireturn, 1) := by decide +kernel
theorem dX0_run_293 : decode cX0_run 293 = .ok (.aload_n 0, 1) := by decide +kernel
theorem dX0_run_294 : decode cX0_run 294 = .ok (.aload_n 1, 1) := by decide +kernel
theorem dX0_run_295 : decode cX0_run 295 = .ok (.iload 8, 2) := by decide +kernel
theorem dX0_run_297 : decode cX0_run 297 = .ok (.iconst 0, 1) := by decide +kernel
theorem dX0_run_298 : decode cX0_run 298 = .ok (.iload 4, 2) := by decide +kernel
theorem dX0_run_300 : decode cX0_run 300 = .ok (.iload 9, 2) := by decide +kernel
theorem dX0_run_302 : decode cX0_run 302 = .ok (.invokevirtual 41, 3) := by decide +kernel
theorem dX0_run_305 : decode cX0_run 305 = .ok (.aload_n 1, 1) := by decide +kernel
theorem dX0_run_306 : decode cX0_run 306 = .ok (.getfield 45, 3) := by decide +kernel
theorem dX0_run_309 : decode cX0_run 309 = .ok (.isub, 1) := by decide +kernel
theorem dX0_run_310 : decode cX0_run 310 = .ok (.ireturn, 1) := by decide +kernel
theorem dX0_kindWithBody_0 : decode cX0_kindWithBody 0 = .ok (.iload_n 0, 1) := by decide +kernel
theorem dX0_kindWithBody_1 : decode cX0_kindWithBody 1 = .ok (.istore_n 2, 1) := by decide +kernel
theorem dX0_kindWithBody_2 : decode cX0_kindWithBody 2 = .ok (.iconst 0, 1) := by decide +kernel
theorem dX0_kindWithBody_3 : decode cX0_kindWithBody 3 = .ok (.istore_n 3, 1) := by decide +kernel
theorem dX0_kindWithBody_4 : decode cX0_kindWithBody 4 = .ok (.iload_n 3, 1) := by decide +kernel
theorem dX0_kindWithBody_5 : decode cX0_kindWithBody 5 = .ok (.bipush 7, 2) := by decide +kernel
theorem dX0_kindWithBody_7 : decode cX0_kindWithBody 7 = .ok (.if_icmp .ge 39, 3) := by decide +kernel
theorem dX0_kindWithBody_10 : decode cX0_kindWithBody 10 = .ok (.iload_n 2, 1) := by decide +kernel
theorem dX0_kindWithBody_11 : decode cX0_kindWithBody 11 = .ok (.ifCond .lt 35, 3) := by decide +kernel
theorem dX0_kindWithBody_14 : decode cX0_kindWithBody 14 = .ok (.iload_n 2, 1) := by decide +kernel
theorem dX0_kindWithBody_15 : decode cX0_kindWithBody 15 = .ok (.bipush 7, 2) := by decide +kernel
theorem dX0_kindWithBody_17 : decode cX0_kindWithBody 17 = .ok (.if_icmp .ge 29, 3) := by decide +kernel
theorem dX0_kindWithBody_20 : decode cX0_kindWithBody 20 = .ok (.getstatic 23, 3) := by decide +kernel
theorem dX0_kindWithBody_23 : decode cX0_kindWithBody 23 = .ok (.iload_n 2, 1) := by decide +kernel
theorem dX0_kindWithBody_24 : decode cX0_kindWithBody 24 = .ok (.iconst 3, 1) := by decide +kernel
theorem dX0_kindWithBody_25 : decode cX0_kindWithBody 25 = .ok (.imul, 1) := by decide +kernel
theorem dX0_kindWithBody_26 : decode cX0_kindWithBody 26 = .ok (.iload_n 1, 1) := by decide +kernel
theorem dX0_kindWithBody_27 : decode cX0_kindWithBody 27 = .ok (.iadd, 1) := by decide +kernel
theorem dX0_kindWithBody_28 : decode cX0_kindWithBody 28 = .ok (.iaload, 1) := by decide +kernel
theorem dX0_kindWithBody_29 : decode cX0_kindWithBody 29 = .ok (.ifCond .eq 5, 3) := by decide +kernel
theorem dX0_kindWithBody_32 : decode cX0_kindWithBody 32 = .ok (.iload_n 2, 1) := by decide +kernel
theorem dX0_kindWithBody_33 : decode cX0_kindWithBody 33 = .ok (.ireturn, 1) := by decide +kernel
theorem dX0_kindWithBody_34 : decode cX0_kindWithBody 34 = .ok (.getstatic 26, 3) := by decide +kernel
theorem dX0_kindWithBody_37 : decode cX0_kindWithBody 37 = .ok (.iload_n 2, 1) := by decide +kernel
theorem dX0_kindWithBody_38 : decode cX0_kindWithBody 38 = .ok (.iaload, 1) := by decide +kernel
theorem dX0_kindWithBody_39 : decode cX0_kindWithBody 39 = .ok (.istore_n 2, 1) := by decide +kernel
theorem dX0_kindWithBody_40 : decode cX0_kindWithBody 40 = .ok (.iinc 3 1, 3) := by decide +kernel
theorem dX0_kindWithBody_43 : decode cX0_kindWithBody 43 = .ok (.goto (-39), 3) := by decide +kernel
theorem dX0_kindWithBody_46 : decode cX0_kindWithBody 46 = .ok (.iconst (-1), 1) := by decide +kernel
theorem dX0_kindWithBody_47 : decode cX0_kindWithBody 47 = .ok (.ireturn, 1) := by decide +kernel
theorem dX0_begins_0 : decode cX0_begins 0 = .ok (.aload_n 0, 1) := by decide +kernel
theorem dX0_begins_1 : decode cX0_begins 1 = .ok (.getfield 15, 3) := by decide +kernel
theorem dX0_begins_4 : decode cX0_begins 4 = .ok (.bipush 20, 2) := by decide +kernel
theorem dX0_begins_6 : decode cX0_begins 6 = .ok (.if_icmp .ge 13, 3) := by decide +kernel
theorem dX0_begins_9 : decode cX0_begins 9 = .ok (.aload_n 0, 1) := by decide +kernel
theorem dX0_begins_10 : decode cX0_begins 10 = .ok (.getfield 9, 3) := by decide +kernel
theorem dX0_begins_13 : decode cX0_begins 13 = .ok (.aload_n 0, 1) := by decide +kernel
theorem dX0_begins_14 : decode cX0_begins 14 = .ok (.getfield 15, 3) := by decide +kernel
theorem dX0_begins_17 : decode cX0_begins 17 = .ok (.iload_n 1, 1) := by decide +kernel
theorem dX0_begins_18 : decode cX0_begins 18 = .ok (.iastore, 1) := by decide +kernel
theorem dX0_begins_19 : decode cX0_begins 19 = .ok (.aload_n 0, 1) := by decide +kernel
theorem dX0_begins_20 : decode cX0_begins 20 = .ok (.dup, 1) := by decide +kernel
theorem dX0_begins_21 : decode cX0_begins 21 = .ok (.getfield 15, 3) := by decide +kernel
theorem dX0_begins_24 : decode cX0_begins 24 = .ok (.iconst 1, 1) := by decide +kernel
theorem dX0_begins_25 : decode cX0_begins 25 = .ok (.iadd, 1) := by decide +kernel
theorem dX0_begins_26 : decode cX0_begins 26 = .ok (.putfield 15, 3) := by decide +kernel
theorem dX0_begins_29 : decode cX0_begins 29 = .ok (.return_, 1) := by decide +kernel
theorem dX1_init_0 : decode cX1_init 0 = .ok (.aload_n 0, 1) := by decide +kernel
theorem dX1_init_1 : decode cX1_init 1 = .ok (.iload_n 1, 1) := by decide +kernel
theorem dX1_init_2 : decode cX1_init 2 = .ok (.iconst 5, 1) := by decide +kernel
theorem dX1_init_3 : decode cX1_init 3 = .ok (.aload_n 2, 1) := by decide +kernel
theorem dX1_init_4 : decode cX1_init 4 = .ok (.iconst 0, 1) := by decide +kernel
theorem dX1_init_5 : decode cX1_init 5 = .ok (.iload_n 3, 1) := by decide +kernel
theorem dX1_init_6 : decode cX1_init 6 = .ok (.invokespecial 3, 3) := by decide +kernel
theorem dX1_init_9 : decode cX1_init 9 = .ok (.aload_n 0, 1) := by decide +kernel
theorem dX1_init_10 : decode cX1_init 10 = .ok (.iconst 0, 1) := by decide +kernel
theorem dX1_init_11 : decode cX1_init 11 = .ok (.putfield 9, 3) := by decide +kernel
theorem dX1_init_14 : decode cX1_init 14 = .ok (.aload_n 0, 1) := by decide +kernel
theorem dX1_init_15 : decode cX1_init 15 = .ok (.iconst (-1), 1) := by decide +kernel
theorem dX1_init_16 : decode cX1_init 16 = .ok (.putfield 15, 3) := by decide +kernel
theorem dX1_init_19 : decode cX1_init 19 = .ok (.aload_n 0, 1) := by decide +kernel
theorem dX1_init_20 : decode cX1_init 20 = .ok (.iload 4, 2) := by decide +kernel
theorem dX1_init_22 : decode cX1_init 22 = .ok (.putfield 18, 3) := by decide +kernel
theorem dX1_init_25 : decode cX1_init 25 = .ok (.return_, 1) := by decide +kernel
theorem dX1_isOpen_0 : decode cX1_isOpen 0 = .ok (.aload_n 0, 1) := by decide +kernel
theorem dX1_isOpen_1 : decode cX1_isOpen 1 = .ok (.getfield 9, 3) := by decide +kernel
theorem dX1_isOpen_4 : decode cX1_isOpen 4 = .ok (.ifCond .eq 11, 3) := by decide +kernel
theorem dX1_isOpen_7 : decode cX1_isOpen 7 = .ok (.aload_n 0, 1) := by decide +kernel
theorem dX1_isOpen_8 : decode cX1_isOpen 8 = .ok (.getfield 9, 3) := by decide +kernel
theorem dX1_isOpen_11 : decode cX1_isOpen 11 = .ok (.iconst 1, 1) := by decide +kernel
theorem dX1_isOpen_12 : decode cX1_isOpen 12 = .ok (.if_icmp .ne 7, 3) := by decide +kernel
theorem dX1_isOpen_15 : decode cX1_isOpen 15 = .ok (.iconst 1, 1) := by decide +kernel
theorem dX1_isOpen_16 : decode cX1_isOpen 16 = .ok (.goto 4, 3) := by decide +kernel
theorem dX1_isOpen_19 : decode cX1_isOpen 19 = .ok (.iconst 0, 1) := by decide +kernel
theorem dX1_isOpen_20 : decode cX1_isOpen 20 = .ok (.ireturn, 1) := by decide +kernel
theorem dX1_settle_0 : decode cX1_settle 0 = .ok (.iload_n 2, 1) := by decide +kernel
theorem dX1_settle_1 : decode cX1_settle 1 = .ok (.aload_n 0, 1) := by decide +kernel
theorem dX1_settle_2 : decode cX1_settle 2 = .ok (.getfield 21, 3) := by decide +kernel
theorem dX1_settle_5 : decode cX1_settle 5 = .ok (.isub, 1) := by decide +kernel
theorem dX1_settle_6 : decode cX1_settle 6 = .ok (.bipush 30, 2) := by decide +kernel
theorem dX1_settle_8 : decode cX1_settle 8 = .ok (.idiv, 1) := by decide +kernel
theorem dX1_settle_9 : decode cX1_settle 9 = .ok (.istore_n 3, 1) := by decide +kernel
theorem dX1_settle_10 : decode cX1_settle 10 = .ok (.aload_n 0, 1) := by decide +kernel
theorem dX1_settle_11 : decode cX1_settle 11 = .ok (.iload_n 1, 1) := by decide +kernel
theorem dX1_settle_12 : decode cX1_settle 12 = .ok (.putfield 9, 3) := by decide +kernel
theorem dX1_settle_15 : decode cX1_settle 15 = .ok (.aload_n 0, 1) := by decide +kernel
theorem dX1_settle_16 : decode cX1_settle 16 = .ok (.aload_n 0, 1) := by decide +kernel
theorem dX1_settle_17 : decode cX1_settle 17 = .ok (.getfield 18, 3) := by decide +kernel
theorem dX1_settle_20 : decode cX1_settle 20 = .ok (.aload_n 0, 1) := by decide +kernel
theorem dX1_settle_21 : decode cX1_settle 21 = .ok (.getfield 18, 3) := by decide +kernel
theorem dX1_settle_24 : decode cX1_settle 24 = .ok (.iload_n 3, 1) := by decide +kernel
theorem dX1_settle_25 : decode cX1_settle 25 = .ok (.imul, 1) := by decide +kernel
theorem dX1_settle_26 : decode cX1_settle 26 = .ok (.bipush 100, 2) := by decide +kernel
theorem dX1_settle_28 : decode cX1_settle 28 = .ok (.idiv, 1) := by decide +kernel
theorem dX1_settle_29 : decode cX1_settle 29 = .ok (.iadd, 1) := by decide +kernel
theorem dX1_settle_30 : decode cX1_settle 30 = .ok (.putfield 24, 3) := by decide +kernel
theorem dX1_settle_33 : decode cX1_settle 33 = .ok (.return_, 1) := by decide +kernel
theorem dX2_init_0 : decode cX2_init 0 = .ok (.aload_n 0, 1) := by decide +kernel
theorem dX2_init_1 : decode cX2_init 1 = .ok (.invokespecial 3, 3) := by decide +kernel
theorem dX2_init_4 : decode cX2_init 4 = .ok (.aload_n 0, 1) := by decide +kernel
theorem dX2_init_5 : decode cX2_init 5 = .ok (.bipush 6, 2) := by decide +kernel
theorem dX2_init_7 : decode cX2_init 7 = .ok (.iconst 4, 1) := by decide +kernel
theorem dX2_init_8 : decode cX2_init 8 = .ok (.multianewarray 9 2, 4) := by decide +kernel
theorem dX2_init_12 : decode cX2_init 12 = .ok (.putfield 11, 3) := by decide +kernel
theorem dX2_init_15 : decode cX2_init 15 = .ok (.aload_n 0, 1) := by decide +kernel
theorem dX2_init_16 : decode cX2_init 16 = .ok (.bipush 6, 2) := by decide +kernel
theorem dX2_init_18 : decode cX2_init 18 = .ok (.iconst 4, 1) := by decide +kernel
theorem dX2_init_19 : decode cX2_init 19 = .ok (.multianewarray 9 2, 4) := by decide +kernel
theorem dX2_init_23 : decode cX2_init 23 = .ok (.putfield 16, 3) := by decide +kernel
theorem dX2_init_26 : decode cX2_init 26 = .ok (.aload_n 0, 1) := by decide +kernel
theorem dX2_init_27 : decode cX2_init 27 = .ok (.bipush 6, 2) := by decide +kernel
theorem dX2_init_29 : decode cX2_init 29 = .ok (.newarray .int, 2) := by decide +kernel
theorem dX2_init_31 : decode cX2_init 31 = .ok (.putfield 19, 3) := by decide +kernel
theorem dX2_init_34 : decode cX2_init 34 = .ok (.aload_n 0, 1) := by decide +kernel
theorem dX2_init_35 : decode cX2_init 35 = .ok (.bipush 6, 2) := by decide +kernel
theorem dX2_init_37 : decode cX2_init 37 = .ok (.newarray .int, 2) := by decide +kernel
theorem dX2_init_39 : decode cX2_init 39 = .ok (.putfield 23, 3) := by decide +kernel
theorem dX2_init_42 : decode cX2_init 42 = .ok (.return_, 1) := by decide +kernel
theorem dX2_greatest_0 : decode cX2_greatest 0 = .ok (.iconst (-1), 1) := by decide +kernel
theorem dX2_greatest_1 : decode cX2_greatest 1 = .ok (.istore_n 3, 1) := by decide +kernel
theorem dX2_greatest_2 : decode cX2_greatest 2 = .ok (.iconst 0, 1) := by decide +kernel
theorem dX2_greatest_3 : decode cX2_greatest 3 = .ok (.istore 4, 2) := by decide +kernel
theorem dX2_greatest_5 : decode cX2_greatest 5 = .ok (.iload 4, 2) := by decide +kernel
theorem dX2_greatest_7 : decode cX2_greatest 7 = .ok (.bipush 6, 2) := by decide +kernel
theorem dX2_greatest_9 : decode cX2_greatest 9 = .ok (.if_icmp .ge 66, 3) := by decide +kernel
theorem dX2_greatest_12 : decode cX2_greatest 12 = .ok (.iload 4, 2) := by decide +kernel
theorem dX2_greatest_14 : decode cX2_greatest 14 = .ok (.iload_n 2, 1) := by decide +kernel
theorem dX2_greatest_15 : decode cX2_greatest 15 = .ok (.if_icmp .eq 19, 3) := by decide +kernel
theorem dX2_greatest_18 : decode cX2_greatest 18 = .ok (.aload_n 0, 1) := by decide +kernel
theorem dX2_greatest_19 : decode cX2_greatest 19 = .ok (.getfield 11, 3) := by decide +kernel
theorem dX2_greatest_22 : decode cX2_greatest 22 = .ok (.iload 4, 2) := by decide +kernel
theorem dX2_greatest_24 : decode cX2_greatest 24 = .ok (.aaload, 1) := by decide +kernel
theorem dX2_greatest_25 : decode cX2_greatest 25 = .ok (.iload_n 1, 1) := by decide +kernel
theorem dX2_greatest_26 : decode cX2_greatest 26 = .ok (.iaload, 1) := by decide +kernel
theorem dX2_greatest_27 : decode cX2_greatest 27 = .ok (.ifCond .le 7, 3) := by decide +kernel
theorem dX2_greatest_30 : decode cX2_greatest 30 = .ok (.iconst 1, 1) := by decide +kernel
theorem dX2_greatest_31 : decode cX2_greatest 31 = .ok (.goto 4, 3) := by decide +kernel
theorem dX2_greatest_34 : decode cX2_greatest 34 = .ok (.iconst 0, 1) := by decide +kernel
theorem dX2_greatest_35 : decode cX2_greatest 35 = .ok (.istore 5, 2) := by decide +kernel
theorem dX2_greatest_37 : decode cX2_greatest 37 = .ok (.iload 5, 2) := by decide +kernel
theorem dX2_greatest_39 : decode cX2_greatest 39 = .ok (.ifCond .eq 30, 3) := by decide +kernel
theorem dX2_greatest_42 : decode cX2_greatest 42 = .ok (.iload_n 3, 1) := by decide +kernel
theorem dX2_greatest_43 : decode cX2_greatest 43 = .ok (.ifCond .lt 23, 3) := by decide +kernel
theorem dX2_greatest_46 : decode cX2_greatest 46 = .ok (.aload_n 0, 1) := by decide +kernel
theorem dX2_greatest_47 : decode cX2_greatest 47 = .ok (.getfield 16, 3) := by decide +kernel
theorem dX2_greatest_50 : decode cX2_greatest 50 = .ok (.iload 4, 2) := by decide +kernel
theorem dX2_greatest_52 : decode cX2_greatest 52 = .ok (.aaload, 1) := by decide +kernel
theorem dX2_greatest_53 : decode cX2_greatest 53 = .ok (.iload_n 1, 1) := by decide +kernel
theorem dX2_greatest_54 : decode cX2_greatest 54 = .ok (.iaload, 1) := by decide +kernel
theorem dX2_greatest_55 : decode cX2_greatest 55 = .ok (.aload_n 0, 1) := by decide +kernel
theorem dX2_greatest_56 : decode cX2_greatest 56 = .ok (.getfield 16, 3) := by decide +kernel
theorem dX2_greatest_59 : decode cX2_greatest 59 = .ok (.iload_n 3, 1) := by decide +kernel
theorem dX2_greatest_60 : decode cX2_greatest 60 = .ok (.aaload, 1) := by decide +kernel
theorem dX2_greatest_61 : decode cX2_greatest 61 = .ok (.iload_n 1, 1) := by decide +kernel
theorem dX2_greatest_62 : decode cX2_greatest 62 = .ok (.iaload, 1) := by decide +kernel
theorem dX2_greatest_63 : decode cX2_greatest 63 = .ok (.if_icmp .le 6, 3) := by decide +kernel
theorem dX2_greatest_66 : decode cX2_greatest 66 = .ok (.iload 4, 2) := by decide +kernel
theorem dX2_greatest_68 : decode cX2_greatest 68 = .ok (.istore_n 3, 1) := by decide +kernel
theorem dX2_greatest_69 : decode cX2_greatest 69 = .ok (.iinc 4 1, 3) := by decide +kernel
theorem dX2_greatest_72 : decode cX2_greatest 72 = .ok (.goto (-67), 3) := by decide +kernel
theorem dX2_greatest_75 : decode cX2_greatest 75 = .ok (.iload_n 3, 1) := by decide +kernel
theorem dX2_greatest_76 : decode cX2_greatest 76 = .ok (.ireturn, 1) := by decide +kernel
theorem dX2_sellOne_0 : decode cX2_sellOne 0 = .ok (.aload_n 0, 1) := by decide +kernel
theorem dX2_sellOne_1 : decode cX2_sellOne 1 = .ok (.iload_n 1, 1) := by decide +kernel
theorem dX2_sellOne_2 : decode cX2_sellOne 2 = .ok (.iload_n 2, 1) := by decide +kernel
theorem dX2_sellOne_3 : decode cX2_sellOne 3 = .ok (.invokevirtual 26, 3) := by decide +kernel
theorem dX2_sellOne_6 : decode cX2_sellOne 6 = .ok (.istore_n 3, 1) := by decide +kernel
theorem dX2_sellOne_7 : decode cX2_sellOne 7 = .ok (.iload_n 3, 1) := by decide +kernel
theorem dX2_sellOne_8 : decode cX2_sellOne 8 = .ok (.ifCond .ge 7, 3) := by decide +kernel
theorem dX2_sellOne_11 : decode cX2_sellOne 11 = .ok (.iconst 0, 1) := by decide +kernel
theorem dX2_sellOne_12 : decode cX2_sellOne 12 = .ok (.goto 11, 3) := by decide +kernel
theorem dX2_sellOne_15 : decode cX2_sellOne 15 = .ok (.aload_n 0, 1) := by decide +kernel
theorem dX2_sellOne_16 : decode cX2_sellOne 16 = .ok (.getfield 16, 3) := by decide +kernel
theorem dX2_sellOne_19 : decode cX2_sellOne 19 = .ok (.iload_n 3, 1) := by decide +kernel
theorem dX2_sellOne_20 : decode cX2_sellOne 20 = .ok (.aaload, 1) := by decide +kernel
theorem dX2_sellOne_21 : decode cX2_sellOne 21 = .ok (.iload_n 1, 1) := by decide +kernel
theorem dX2_sellOne_22 : decode cX2_sellOne 22 = .ok (.iaload, 1) := by decide +kernel
theorem dX2_sellOne_23 : decode cX2_sellOne 23 = .ok (.istore 4, 2) := by decide +kernel
theorem dX2_sellOne_25 : decode cX2_sellOne 25 = .ok (.aload_n 0, 1) := by decide +kernel
theorem dX2_sellOne_26 : decode cX2_sellOne 26 = .ok (.getfield 11, 3) := by decide +kernel
theorem dX2_sellOne_29 : decode cX2_sellOne 29 = .ok (.iload_n 2, 1) := by decide +kernel
theorem dX2_sellOne_30 : decode cX2_sellOne 30 = .ok (.aaload, 1) := by decide +kernel
theorem dX2_sellOne_31 : decode cX2_sellOne 31 = .ok (.iload_n 1, 1) := by decide +kernel
theorem dX2_sellOne_32 : decode cX2_sellOne 32 = .ok (.dup2, 1) := by decide +kernel
theorem dX2_sellOne_33 : decode cX2_sellOne 33 = .ok (.iaload, 1) := by decide +kernel
theorem dX2_sellOne_34 : decode cX2_sellOne 34 = .ok (.iconst 1, 1) := by decide +kernel
theorem dX2_sellOne_35 : decode cX2_sellOne 35 = .ok (.isub, 1) := by decide +kernel
theorem dX2_sellOne_36 : decode cX2_sellOne 36 = .ok (.iastore, 1) := by decide +kernel
theorem dX2_sellOne_37 : decode cX2_sellOne 37 = .ok (.aload_n 0, 1) := by decide +kernel
theorem dX2_sellOne_38 : decode cX2_sellOne 38 = .ok (.getfield 19, 3) := by decide +kernel
theorem dX2_sellOne_41 : decode cX2_sellOne 41 = .ok (.iload_n 2, 1) := by decide +kernel
theorem dX2_sellOne_42 : decode cX2_sellOne 42 = .ok (.dup2, 1) := by decide +kernel
theorem dX2_sellOne_43 : decode cX2_sellOne 43 = .ok (.iaload, 1) := by decide +kernel
theorem dX2_sellOne_44 : decode cX2_sellOne 44 = .ok (.iconst 1, 1) := by decide +kernel
theorem dX2_sellOne_45 : decode cX2_sellOne 45 = .ok (.iadd, 1) := by decide +kernel
theorem dX2_sellOne_46 : decode cX2_sellOne 46 = .ok (.iastore, 1) := by decide +kernel
theorem dX2_sellOne_47 : decode cX2_sellOne 47 = .ok (.aload_n 0, 1) := by decide +kernel
theorem dX2_sellOne_48 : decode cX2_sellOne 48 = .ok (.getfield 23, 3) := by decide +kernel
theorem dX2_sellOne_51 : decode cX2_sellOne 51 = .ok (.iload_n 2, 1) := by decide +kernel
theorem dX2_sellOne_52 : decode cX2_sellOne 52 = .ok (.dup2, 1) := by decide +kernel
theorem dX2_sellOne_53 : decode cX2_sellOne 53 = .ok (.iaload, 1) := by decide +kernel
theorem dX2_sellOne_54 : decode cX2_sellOne 54 = .ok (.iload 4, 2) := by decide +kernel
theorem dX2_sellOne_56 : decode cX2_sellOne 56 = .ok (.iadd, 1) := by decide +kernel
theorem dX2_sellOne_57 : decode cX2_sellOne 57 = .ok (.iastore, 1) := by decide +kernel
theorem dX2_sellOne_58 : decode cX2_sellOne 58 = .ok (.iload 4, 2) := by decide +kernel
theorem dX2_sellOne_60 : decode cX2_sellOne 60 = .ok (.ireturn, 1) := by decide +kernel
theorem dX3_init_0 : decode cX3_init 0 = .ok (.aload_n 0, 1) := by decide +kernel
theorem dX3_init_1 : decode cX3_init 1 = .ok (.invokespecial 3, 3) := by decide +kernel
theorem dX3_init_4 : decode cX3_init 4 = .ok (.aload_n 0, 1) := by decide +kernel
theorem dX3_init_5 : decode cX3_init 5 = .ok (.iconst 5, 1) := by decide +kernel
theorem dX3_init_6 : decode cX3_init 6 = .ok (.newarray .int, 2) := by decide +kernel
theorem dX3_init_8 : decode cX3_init 8 = .ok (.putfield 9, 3) := by decide +kernel
theorem dX3_init_11 : decode cX3_init 11 = .ok (.aload_n 0, 1) := by decide +kernel
theorem dX3_init_12 : decode cX3_init 12 = .ok (.new 15, 3) := by decide +kernel
theorem dX3_init_15 : decode cX3_init 15 = .ok (.dup, 1) := by decide +kernel
theorem dX3_init_16 : decode cX3_init 16 = .ok (.invokespecial 17, 3) := by decide +kernel
theorem dX3_init_19 : decode cX3_init 19 = .ok (.putfield 18, 3) := by decide +kernel
theorem dX3_init_22 : decode cX3_init 22 = .ok (.aload_n 0, 1) := by decide +kernel
theorem dX3_init_23 : decode cX3_init 23 = .ok (.iload_n 1, 1) := by decide +kernel
theorem dX3_init_24 : decode cX3_init 24 = .ok (.putfield 22, 3) := by decide +kernel
theorem dX3_init_27 : decode cX3_init 27 = .ok (.aload_n 0, 1) := by decide +kernel
theorem dX3_init_28 : decode cX3_init 28 = .ok (.iload_n 2, 1) := by decide +kernel
theorem dX3_init_29 : decode cX3_init 29 = .ok (.putfield 26, 3) := by decide +kernel
theorem dX3_init_32 : decode cX3_init 32 = .ok (.aload_n 0, 1) := by decide +kernel
theorem dX3_init_33 : decode cX3_init 33 = .ok (.aload_n 3, 1) := by decide +kernel
theorem dX3_init_34 : decode cX3_init 34 = .ok (.getfield 29, 3) := by decide +kernel
theorem dX3_init_37 : decode cX3_init 37 = .ok (.putfield 32, 3) := by decide +kernel
theorem dX3_init_40 : decode cX3_init 40 = .ok (.aload_n 0, 1) := by decide +kernel
theorem dX3_init_41 : decode cX3_init 41 = .ok (.iload 4, 2) := by decide +kernel
theorem dX3_init_43 : decode cX3_init 43 = .ok (.putfield 35, 3) := by decide +kernel
theorem dX3_init_46 : decode cX3_init 46 = .ok (.aload_n 0, 1) := by decide +kernel
theorem dX3_init_47 : decode cX3_init 47 = .ok (.iload 5, 2) := by decide +kernel
theorem dX3_init_49 : decode cX3_init 49 = .ok (.putfield 38, 3) := by decide +kernel
theorem dX3_init_52 : decode cX3_init 52 = .ok (.aload_n 0, 1) := by decide +kernel
theorem dX3_init_53 : decode cX3_init 53 = .ok (.aload_n 3, 1) := by decide +kernel
theorem dX3_init_54 : decode cX3_init 54 = .ok (.getfield 41, 3) := by decide +kernel
theorem dX3_init_57 : decode cX3_init 57 = .ok (.invokevirtual 44, 3) := by decide +kernel
theorem dX3_init_60 : decode cX3_init 60 = .ok (.checkcast 45, 3) := by decide +kernel
theorem dX3_init_63 : decode cX3_init 63 = .ok (.putfield 49, 3) := by decide +kernel
theorem dX3_init_66 : decode cX3_init 66 = .ok (.aload_n 0, 1) := by decide +kernel
theorem dX3_init_67 : decode cX3_init 67 = .ok (.getfield 9, 3) := by decide +kernel
theorem dX3_init_70 : decode cX3_init 70 = .ok (.iconst (-1), 1) := by decide +kernel
theorem dX3_init_71 : decode cX3_init 71 = .ok (.invokestatic 52, 3) := by decide +kernel
theorem dX3_init_74 : decode cX3_init 74 = .ok (.aload_n 0, 1) := by decide +kernel
theorem dX3_init_75 : decode cX3_init 75 = .ok (.getfield 9, 3) := by decide +kernel
theorem dX3_init_78 : decode cX3_init 78 = .ok (.aload_n 3, 1) := by decide +kernel
theorem dX3_init_79 : decode cX3_init 79 = .ok (.getfield 29, 3) := by decide +kernel
theorem dX3_init_82 : decode cX3_init 82 = .ok (.iload 5, 2) := by decide +kernel
theorem dX3_init_84 : decode cX3_init 84 = .ok (.iastore, 1) := by decide +kernel
theorem dX3_init_85 : decode cX3_init 85 = .ok (.return_, 1) := by decide +kernel
theorem dX3_comesAboard_0 : decode cX3_comesAboard 0 = .ok (.aload_n 0, 1) := by decide +kernel
theorem dX3_comesAboard_1 : decode cX3_comesAboard 1 = .ok (.dup, 1) := by decide +kernel
theorem dX3_comesAboard_2 : decode cX3_comesAboard 2 = .ok (.getfield 58, 3) := by decide +kernel
theorem dX3_comesAboard_5 : decode cX3_comesAboard 5 = .ok (.iconst 1, 1) := by decide +kernel
theorem dX3_comesAboard_6 : decode cX3_comesAboard 6 = .ok (.iadd, 1) := by decide +kernel
theorem dX3_comesAboard_7 : decode cX3_comesAboard 7 = .ok (.putfield 58, 3) := by decide +kernel
theorem dX3_comesAboard_10 : decode cX3_comesAboard 10 = .ok (.aload_n 1, 1) := by decide +kernel
theorem dX3_comesAboard_11 : decode cX3_comesAboard 11 = .ok (.getfield 61, 3) := by decide +kernel
theorem dX3_comesAboard_14 : decode cX3_comesAboard 14 = .ok (.aload_n 0, 1) := by decide +kernel
theorem dX3_comesAboard_15 : decode cX3_comesAboard 15 = .ok (.getfield 22, 3) := by decide +kernel
theorem dX3_comesAboard_18 : decode cX3_comesAboard 18 = .ok (.dup2, 1) := by decide +kernel
theorem dX3_comesAboard_19 : decode cX3_comesAboard 19 = .ok (.iaload, 1) := by decide +kernel
theorem dX3_comesAboard_20 : decode cX3_comesAboard 20 = .ok (.iconst 1, 1) := by decide +kernel
theorem dX3_comesAboard_21 : decode cX3_comesAboard 21 = .ok (.iadd, 1) := by decide +kernel
theorem dX3_comesAboard_22 : decode cX3_comesAboard 22 = .ok (.iastore, 1) := by decide +kernel
theorem dX3_comesAboard_23 : decode cX3_comesAboard 23 = .ok (.return_, 1) := by decide +kernel
theorem dX4_init_0 : decode cX4_init 0 = .ok (.aload_n 0, 1) := by decide +kernel
theorem dX4_init_1 : decode cX4_init 1 = .ok (.invokespecial 3, 3) := by decide +kernel
theorem dX4_init_4 : decode cX4_init 4 = .ok (.aload_n 0, 1) := by decide +kernel
theorem dX4_init_5 : decode cX4_init 5 = .ok (.new 9, 3) := by decide +kernel
theorem dX4_init_8 : decode cX4_init 8 = .ok (.dup, 1) := by decide +kernel
theorem dX4_init_9 : decode cX4_init 9 = .ok (.invokespecial 11, 3) := by decide +kernel
theorem dX4_init_12 : decode cX4_init 12 = .ok (.putfield 12, 3) := by decide +kernel
theorem dX4_init_15 : decode cX4_init 15 = .ok (.aload_n 0, 1) := by decide +kernel
theorem dX4_init_16 : decode cX4_init 16 = .ok (.iload_n 1, 1) := by decide +kernel
theorem dX4_init_17 : decode cX4_init 17 = .ok (.putfield 18, 3) := by decide +kernel
theorem dX4_init_20 : decode cX4_init 20 = .ok (.aload_n 0, 1) := by decide +kernel
theorem dX4_init_21 : decode cX4_init 21 = .ok (.iload_n 2, 1) := by decide +kernel
theorem dX4_init_22 : decode cX4_init 22 = .ok (.putfield 22, 3) := by decide +kernel
theorem dX4_init_25 : decode cX4_init 25 = .ok (.aload_n 0, 1) := by decide +kernel
theorem dX4_init_26 : decode cX4_init 26 = .ok (.iload_n 3, 1) := by decide +kernel
theorem dX4_init_27 : decode cX4_init 27 = .ok (.putfield 25, 3) := by decide +kernel
theorem dX4_init_30 : decode cX4_init 30 = .ok (.aload_n 0, 1) := by decide +kernel
theorem dX4_init_31 : decode cX4_init 31 = .ok (.iload 4, 2) := by decide +kernel
theorem dX4_init_33 : decode cX4_init 33 = .ok (.putfield 28, 3) := by decide +kernel
theorem dX4_init_36 : decode cX4_init 36 = .ok (.aload_n 0, 1) := by decide +kernel
theorem dX4_init_37 : decode cX4_init 37 = .ok (.iload 5, 2) := by decide +kernel
theorem dX4_init_39 : decode cX4_init 39 = .ok (.putfield 31, 3) := by decide +kernel
theorem dX4_init_42 : decode cX4_init 42 = .ok (.aload_n 0, 1) := by decide +kernel
theorem dX4_init_43 : decode cX4_init 43 = .ok (.iload_n 3, 1) := by decide +kernel
theorem dX4_init_44 : decode cX4_init 44 = .ok (.iconst 4, 1) := by decide +kernel
theorem dX4_init_45 : decode cX4_init 45 = .ok (.imul, 1) := by decide +kernel
theorem dX4_init_46 : decode cX4_init 46 = .ok (.iload 4, 2) := by decide +kernel
theorem dX4_init_48 : decode cX4_init 48 = .ok (.iconst 0, 1) := by decide +kernel
theorem dX4_init_49 : decode cX4_init 49 = .ok (.invokestatic 34, 3) := by decide +kernel
theorem dX4_init_52 : decode cX4_init 52 = .ok (.iadd, 1) := by decide +kernel
theorem dX4_init_53 : decode cX4_init 53 = .ok (.putfield 40, 3) := by decide +kernel
theorem dX4_init_56 : decode cX4_init 56 = .ok (.return_, 1) := by decide +kernel
theorem dX5_init_0 : decode cX5_init 0 = .ok (.aload_n 0, 1) := by decide +kernel
theorem dX5_init_1 : decode cX5_init 1 = .ok (.invokespecial 3, 3) := by decide +kernel
theorem dX5_init_4 : decode cX5_init 4 = .ok (.aload_n 0, 1) := by decide +kernel
theorem dX5_init_5 : decode cX5_init 5 = .ok (.iconst 4, 1) := by decide +kernel
theorem dX5_init_6 : decode cX5_init 6 = .ok (.newarray .int, 2) := by decide +kernel
theorem dX5_init_8 : decode cX5_init 8 = .ok (.putfield 9, 3) := by decide +kernel
theorem dX5_init_11 : decode cX5_init 11 = .ok (.aload_n 0, 1) := by decide +kernel
theorem dX5_init_12 : decode cX5_init 12 = .ok (.bipush 120, 2) := by decide +kernel
theorem dX5_init_14 : decode cX5_init 14 = .ok (.putfield 15, 3) := by decide +kernel
theorem dX5_init_17 : decode cX5_init 17 = .ok (.aload_n 0, 1) := by decide +kernel
theorem dX5_init_18 : decode cX5_init 18 = .ok (.bipush 120, 2) := by decide +kernel
theorem dX5_init_20 : decode cX5_init 20 = .ok (.putfield 19, 3) := by decide +kernel
theorem dX5_init_23 : decode cX5_init 23 = .ok (.aload_n 0, 1) := by decide +kernel
theorem dX5_init_24 : decode cX5_init 24 = .ok (.iconst 4, 1) := by decide +kernel
theorem dX5_init_25 : decode cX5_init 25 = .ok (.newarray .int, 2) := by decide +kernel
theorem dX5_init_27 : decode cX5_init 27 = .ok (.dup, 1) := by decide +kernel
theorem dX5_init_28 : decode cX5_init 28 = .ok (.iconst 0, 1) := by decide +kernel
theorem dX5_init_29 : decode cX5_init 29 = .ok (.bipush 20, 2) := by decide +kernel
theorem dX5_init_31 : decode cX5_init 31 = .ok (.iastore, 1) := by decide +kernel
theorem dX5_init_32 : decode cX5_init 32 = .ok (.dup, 1) := by decide +kernel
theorem dX5_init_33 : decode cX5_init 33 = .ok (.iconst 1, 1) := by decide +kernel
theorem dX5_init_34 : decode cX5_init 34 = .ok (.bipush 20, 2) := by decide +kernel
theorem dX5_init_36 : decode cX5_init 36 = .ok (.iastore, 1) := by decide +kernel
theorem dX5_init_37 : decode cX5_init 37 = .ok (.dup, 1) := by decide +kernel
theorem dX5_init_38 : decode cX5_init 38 = .ok (.iconst 2, 1) := by decide +kernel
theorem dX5_init_39 : decode cX5_init 39 = .ok (.bipush 20, 2) := by decide +kernel
theorem dX5_init_41 : decode cX5_init 41 = .ok (.iastore, 1) := by decide +kernel
theorem dX5_init_42 : decode cX5_init 42 = .ok (.dup, 1) := by decide +kernel
theorem dX5_init_43 : decode cX5_init 43 = .ok (.iconst 3, 1) := by decide +kernel
theorem dX5_init_44 : decode cX5_init 44 = .ok (.bipush 20, 2) := by decide +kernel
theorem dX5_init_46 : decode cX5_init 46 = .ok (.iastore, 1) := by decide +kernel
theorem dX5_init_47 : decode cX5_init 47 = .ok (.putfield 22, 3) := by decide +kernel
theorem dX5_init_50 : decode cX5_init 50 = .ok (.aload_n 0, 1) := by decide +kernel
theorem dX5_init_51 : decode cX5_init 51 = .ok (.iconst 4, 1) := by decide +kernel
theorem dX5_init_52 : decode cX5_init 52 = .ok (.newarray .int, 2) := by decide +kernel
theorem dX5_init_54 : decode cX5_init 54 = .ok (.putfield 25, 3) := by decide +kernel
theorem dX5_init_57 : decode cX5_init 57 = .ok (.aload_n 0, 1) := by decide +kernel
theorem dX5_init_58 : decode cX5_init 58 = .ok (.iconst 4, 1) := by decide +kernel
theorem dX5_init_59 : decode cX5_init 59 = .ok (.newarray .int, 2) := by decide +kernel
theorem dX5_init_61 : decode cX5_init 61 = .ok (.putfield 28, 3) := by decide +kernel
theorem dX5_init_64 : decode cX5_init 64 = .ok (.aload_n 0, 1) := by decide +kernel
theorem dX5_init_65 : decode cX5_init 65 = .ok (.iconst 4, 1) := by decide +kernel
theorem dX5_init_66 : decode cX5_init 66 = .ok (.newarray .int, 2) := by decide +kernel
theorem dX5_init_68 : decode cX5_init 68 = .ok (.putfield 31, 3) := by decide +kernel
theorem dX5_init_71 : decode cX5_init 71 = .ok (.aload_n 0, 1) := by decide +kernel
theorem dX5_init_72 : decode cX5_init 72 = .ok (.iconst 4, 1) := by decide +kernel
theorem dX5_init_73 : decode cX5_init 73 = .ok (.newarray .int, 2) := by decide +kernel
theorem dX5_init_75 : decode cX5_init 75 = .ok (.putfield 34, 3) := by decide +kernel
theorem dX5_init_78 : decode cX5_init 78 = .ok (.aload_n 0, 1) := by decide +kernel
theorem dX5_init_79 : decode cX5_init 79 = .ok (.new 37, 3) := by decide +kernel
theorem dX5_init_82 : decode cX5_init 82 = .ok (.dup, 1) := by decide +kernel
theorem dX5_init_83 : decode cX5_init 83 = .ok (.invokespecial 39, 3) := by decide +kernel
theorem dX5_init_86 : decode cX5_init 86 = .ok (.putfield 40, 3) := by decide +kernel
theorem dX5_init_89 : decode cX5_init 89 = .ok (.aload_n 0, 1) := by decide +kernel
theorem dX5_init_90 : decode cX5_init 90 = .ok (.new 37, 3) := by decide +kernel
theorem dX5_init_93 : decode cX5_init 93 = .ok (.dup, 1) := by decide +kernel
theorem dX5_init_94 : decode cX5_init 94 = .ok (.invokespecial 39, 3) := by decide +kernel
theorem dX5_init_97 : decode cX5_init 97 = .ok (.putfield 44, 3) := by decide +kernel
theorem dX5_init_100 : decode cX5_init 100 = .ok (.aload_n 0, 1) := by decide +kernel
theorem dX5_init_101 : decode cX5_init 101 = .ok (.bipush 28, 2) := by decide +kernel
theorem dX5_init_103 : decode cX5_init 103 = .ok (.newarray .int, 2) := by decide +kernel
theorem dX5_init_105 : decode cX5_init 105 = .ok (.putfield 47, 3) := by decide +kernel
theorem dX5_init_108 : decode cX5_init 108 = .ok (.aload_n 0, 1) := by decide +kernel
theorem dX5_init_109 : decode cX5_init 109 = .ok (.iconst (-1), 1) := by decide +kernel
theorem dX5_init_110 : decode cX5_init 110 = .ok (.putfield 50, 3) := by decide +kernel
theorem dX5_init_113 : decode cX5_init 113 = .ok (.aload_n 0, 1) := by decide +kernel
theorem dX5_init_114 : decode cX5_init 114 = .ok (.iload_n 1, 1) := by decide +kernel
theorem dX5_init_115 : decode cX5_init 115 = .ok (.putfield 53, 3) := by decide +kernel
theorem dX5_init_118 : decode cX5_init 118 = .ok (.return_, 1) := by decide +kernel
theorem dX5_priceOf_0 : decode cX5_priceOf 0 = .ok (.aload_n 0, 1) := by decide +kernel
theorem dX5_priceOf_1 : decode cX5_priceOf 1 = .ok (.getfield 22, 3) := by decide +kernel
theorem dX5_priceOf_4 : decode cX5_priceOf 4 = .ok (.iload_n 1, 1) := by decide +kernel
theorem dX5_priceOf_5 : decode cX5_priceOf 5 = .ok (.iaload, 1) := by decide +kernel
theorem dX5_priceOf_6 : decode cX5_priceOf 6 = .ok (.aload_n 0, 1) := by decide +kernel
theorem dX5_priceOf_7 : decode cX5_priceOf 7 = .ok (.getfield 25, 3) := by decide +kernel
theorem dX5_priceOf_10 : decode cX5_priceOf 10 = .ok (.iload_n 1, 1) := by decide +kernel
theorem dX5_priceOf_11 : decode cX5_priceOf 11 = .ok (.iaload, 1) := by decide +kernel
theorem dX5_priceOf_12 : decode cX5_priceOf 12 = .ok (.iconst 5, 1) := by decide +kernel
theorem dX5_priceOf_13 : decode cX5_priceOf 13 = .ok (.idiv, 1) := by decide +kernel
theorem dX5_priceOf_14 : decode cX5_priceOf 14 = .ok (.iadd, 1) := by decide +kernel
theorem dX5_priceOf_15 : decode cX5_priceOf 15 = .ok (.ireturn, 1) := by decide +kernel
theorem dX5_purchase_0 : decode cX5_purchase 0 = .ok (.iconst 0, 1) := by decide +kernel
theorem dX5_purchase_1 : decode cX5_purchase 1 = .ok (.istore 4, 2) := by decide +kernel
theorem dX5_purchase_3 : decode cX5_purchase 3 = .ok (.iconst 0, 1) := by decide +kernel
theorem dX5_purchase_4 : decode cX5_purchase 4 = .ok (.istore 5, 2) := by decide +kernel
theorem dX5_purchase_6 : decode cX5_purchase 6 = .ok (.iload 5, 2) := by decide +kernel
theorem dX5_purchase_8 : decode cX5_purchase 8 = .ok (.iload_n 2, 1) := by decide +kernel
theorem dX5_purchase_9 : decode cX5_purchase 9 = .ok (.if_icmp .ge 68, 3) := by decide +kernel
theorem dX5_purchase_12 : decode cX5_purchase 12 = .ok (.aload_n 0, 1) := by decide +kernel
theorem dX5_purchase_13 : decode cX5_purchase 13 = .ok (.iload_n 1, 1) := by decide +kernel
theorem dX5_purchase_14 : decode cX5_purchase 14 = .ok (.invokevirtual 56, 3) := by decide +kernel
theorem dX5_purchase_17 : decode cX5_purchase 17 = .ok (.istore 6, 2) := by decide +kernel
theorem dX5_purchase_19 : decode cX5_purchase 19 = .ok (.iload 6, 2) := by decide +kernel
theorem dX5_purchase_21 : decode cX5_purchase 21 = .ok (.aload_n 0, 1) := by decide +kernel
theorem dX5_purchase_22 : decode cX5_purchase 22 = .ok (.getfield 60, 3) := by decide +kernel
theorem dX5_purchase_25 : decode cX5_purchase 25 = .ok (.iload_n 3, 1) := by decide +kernel
theorem dX5_purchase_26 : decode cX5_purchase 26 = .ok (.isub, 1) := by decide +kernel
theorem dX5_purchase_27 : decode cX5_purchase 27 = .ok (.if_icmp .le 6, 3) := by decide +kernel
theorem dX5_purchase_30 : decode cX5_purchase 30 = .ok (.goto 47, 3) := by decide +kernel
theorem dX5_purchase_33 : decode cX5_purchase 33 = .ok (.aload_n 0, 1) := by decide +kernel
theorem dX5_purchase_34 : decode cX5_purchase 34 = .ok (.dup, 1) := by decide +kernel
theorem dX5_purchase_35 : decode cX5_purchase 35 = .ok (.getfield 60, 3) := by decide +kernel
theorem dX5_purchase_38 : decode cX5_purchase 38 = .ok (.iload 6, 2) := by decide +kernel
theorem dX5_purchase_40 : decode cX5_purchase 40 = .ok (.isub, 1) := by decide +kernel
theorem dX5_purchase_41 : decode cX5_purchase 41 = .ok (.putfield 60, 3) := by decide +kernel
theorem dX5_purchase_44 : decode cX5_purchase 44 = .ok (.iload 4, 2) := by decide +kernel
theorem dX5_purchase_46 : decode cX5_purchase 46 = .ok (.iload 6, 2) := by decide +kernel
theorem dX5_purchase_48 : decode cX5_purchase 48 = .ok (.iadd, 1) := by decide +kernel
theorem dX5_purchase_49 : decode cX5_purchase 49 = .ok (.istore 4, 2) := by decide +kernel
theorem dX5_purchase_51 : decode cX5_purchase 51 = .ok (.aload_n 0, 1) := by decide +kernel
theorem dX5_purchase_52 : decode cX5_purchase 52 = .ok (.getfield 9, 3) := by decide +kernel
theorem dX5_purchase_55 : decode cX5_purchase 55 = .ok (.iload_n 1, 1) := by decide +kernel
theorem dX5_purchase_56 : decode cX5_purchase 56 = .ok (.dup2, 1) := by decide +kernel
theorem dX5_purchase_57 : decode cX5_purchase 57 = .ok (.iaload, 1) := by decide +kernel
theorem dX5_purchase_58 : decode cX5_purchase 58 = .ok (.iconst 1, 1) := by decide +kernel
theorem dX5_purchase_59 : decode cX5_purchase 59 = .ok (.iadd, 1) := by decide +kernel
theorem dX5_purchase_60 : decode cX5_purchase 60 = .ok (.iastore, 1) := by decide +kernel
theorem dX5_purchase_61 : decode cX5_purchase 61 = .ok (.aload_n 0, 1) := by decide +kernel
theorem dX5_purchase_62 : decode cX5_purchase 62 = .ok (.getfield 25, 3) := by decide +kernel
theorem dX5_purchase_65 : decode cX5_purchase 65 = .ok (.iload_n 1, 1) := by decide +kernel
theorem dX5_purchase_66 : decode cX5_purchase 66 = .ok (.dup2, 1) := by decide +kernel
theorem dX5_purchase_67 : decode cX5_purchase 67 = .ok (.iaload, 1) := by decide +kernel
theorem dX5_purchase_68 : decode cX5_purchase 68 = .ok (.iconst 1, 1) := by decide +kernel
theorem dX5_purchase_69 : decode cX5_purchase 69 = .ok (.iadd, 1) := by decide +kernel
theorem dX5_purchase_70 : decode cX5_purchase 70 = .ok (.iastore, 1) := by decide +kernel
theorem dX5_purchase_71 : decode cX5_purchase 71 = .ok (.iinc 5 1, 3) := by decide +kernel
theorem dX5_purchase_74 : decode cX5_purchase 74 = .ok (.goto (-68), 3) := by decide +kernel
theorem dX5_purchase_77 : decode cX5_purchase 77 = .ok (.iload 4, 2) := by decide +kernel
theorem dX5_purchase_79 : decode cX5_purchase 79 = .ok (.ireturn, 1) := by decide +kernel
theorem dX5_receiveAdvances_0 : decode cX5_receiveAdvances 0 = .ok (.iconst 0, 1) := by decide +kernel
theorem dX5_receiveAdvances_1 : decode cX5_receiveAdvances 1 = .ok (.istore_n 2, 1) := by decide +kernel
theorem dX5_receiveAdvances_2 : decode cX5_receiveAdvances 2 = .ok (.iload_n 2, 1) := by decide +kernel
theorem dX5_receiveAdvances_3 : decode cX5_receiveAdvances 3 = .ok (.iconst 4, 1) := by decide +kernel
theorem dX5_receiveAdvances_4 : decode cX5_receiveAdvances 4 = .ok (.if_icmp .ge 96, 3) := by decide +kernel
theorem dX5_receiveAdvances_7 : decode cX5_receiveAdvances 7 = .ok (.iload_n 1, 1) := by decide +kernel
theorem dX5_receiveAdvances_8 : decode cX5_receiveAdvances 8 = .ok (.aload_n 0, 1) := by decide +kernel
theorem dX5_receiveAdvances_9 : decode cX5_receiveAdvances 9 = .ok (.getfield 28, 3) := by decide +kernel
theorem dX5_receiveAdvances_12 : decode cX5_receiveAdvances 12 = .ok (.iload_n 2, 1) := by decide +kernel
theorem dX5_receiveAdvances_13 : decode cX5_receiveAdvances 13 = .ok (.iaload, 1) := by decide +kernel
theorem dX5_receiveAdvances_14 : decode cX5_receiveAdvances 14 = .ok (.isub, 1) := by decide +kernel
theorem dX5_receiveAdvances_15 : decode cX5_receiveAdvances 15 = .ok (.istore_n 3, 1) := by decide +kernel
theorem dX5_receiveAdvances_16 : decode cX5_receiveAdvances 16 = .ok (.aload_n 0, 1) := by decide +kernel
theorem dX5_receiveAdvances_17 : decode cX5_receiveAdvances 17 = .ok (.getfield 34, 3) := by decide +kernel
theorem dX5_receiveAdvances_20 : decode cX5_receiveAdvances 20 = .ok (.iload_n 2, 1) := by decide +kernel
theorem dX5_receiveAdvances_21 : decode cX5_receiveAdvances 21 = .ok (.iaload, 1) := by decide +kernel
theorem dX5_receiveAdvances_22 : decode cX5_receiveAdvances 22 = .ok (.ifCond .le 72, 3) := by decide +kernel
theorem dX5_receiveAdvances_25 : decode cX5_receiveAdvances 25 = .ok (.iload_n 3, 1) := by decide +kernel
theorem dX5_receiveAdvances_26 : decode cX5_receiveAdvances 26 = .ok (.ifCond .le 68, 3) := by decide +kernel
theorem dX5_receiveAdvances_29 : decode cX5_receiveAdvances 29 = .ok (.iload_n 3, 1) := by decide +kernel
theorem dX5_receiveAdvances_30 : decode cX5_receiveAdvances 30 = .ok (.bipush 10, 2) := by decide +kernel
theorem dX5_receiveAdvances_32 : decode cX5_receiveAdvances 32 = .ok (.irem, 1) := by decide +kernel
theorem dX5_receiveAdvances_33 : decode cX5_receiveAdvances 33 = .ok (.ifCond .ne 61, 3) := by decide +kernel
theorem dX5_receiveAdvances_36 : decode cX5_receiveAdvances 36 = .ok (.iload_n 3, 1) := by decide +kernel
theorem dX5_receiveAdvances_37 : decode cX5_receiveAdvances 37 = .ok (.bipush 50, 2) := by decide +kernel
theorem dX5_receiveAdvances_39 : decode cX5_receiveAdvances 39 = .ok (.if_icmp .ge 14, 3) := by decide +kernel
theorem dX5_receiveAdvances_42 : decode cX5_receiveAdvances 42 = .ok (.aload_n 0, 1) := by decide +kernel
theorem dX5_receiveAdvances_43 : decode cX5_receiveAdvances 43 = .ok (.getfield 31, 3) := by decide +kernel
theorem dX5_receiveAdvances_46 : decode cX5_receiveAdvances 46 = .ok (.iload_n 2, 1) := by decide +kernel
theorem dX5_receiveAdvances_47 : decode cX5_receiveAdvances 47 = .ok (.iaload, 1) := by decide +kernel
theorem dX5_receiveAdvances_48 : decode cX5_receiveAdvances 48 = .ok (.iconst 5, 1) := by decide +kernel
theorem dX5_receiveAdvances_49 : decode cX5_receiveAdvances 49 = .ok (.idiv, 1) := by decide +kernel
theorem dX5_receiveAdvances_50 : decode cX5_receiveAdvances 50 = .ok (.goto 9, 3) := by decide +kernel
theorem dX5_receiveAdvances_53 : decode cX5_receiveAdvances 53 = .ok (.aload_n 0, 1) := by decide +kernel
theorem dX5_receiveAdvances_54 : decode cX5_receiveAdvances 54 = .ok (.getfield 34, 3) := by decide +kernel
theorem dX5_receiveAdvances_57 : decode cX5_receiveAdvances 57 = .ok (.iload_n 2, 1) := by decide +kernel
theorem dX5_receiveAdvances_58 : decode cX5_receiveAdvances 58 = .ok (.iaload, 1) := by decide +kernel
theorem dX5_receiveAdvances_59 : decode cX5_receiveAdvances 59 = .ok (.istore 4, 2) := by decide +kernel
theorem dX5_receiveAdvances_61 : decode cX5_receiveAdvances 61 = .ok (.aload_n 0, 1) := by decide +kernel
theorem dX5_receiveAdvances_62 : decode cX5_receiveAdvances 62 = .ok (.getfield 34, 3) := by decide +kernel
theorem dX5_receiveAdvances_65 : decode cX5_receiveAdvances 65 = .ok (.iload_n 2, 1) := by decide +kernel
theorem dX5_receiveAdvances_66 : decode cX5_receiveAdvances 66 = .ok (.dup2, 1) := by decide +kernel
theorem dX5_receiveAdvances_67 : decode cX5_receiveAdvances 67 = .ok (.iaload, 1) := by decide +kernel
theorem dX5_receiveAdvances_68 : decode cX5_receiveAdvances 68 = .ok (.iload 4, 2) := by decide +kernel
theorem dX5_receiveAdvances_70 : decode cX5_receiveAdvances 70 = .ok (.isub, 1) := by decide +kernel
theorem dX5_receiveAdvances_71 : decode cX5_receiveAdvances 71 = .ok (.iastore, 1) := by decide +kernel
theorem dX5_receiveAdvances_72 : decode cX5_receiveAdvances 72 = .ok (.aload_n 0, 1) := by decide +kernel
theorem dX5_receiveAdvances_73 : decode cX5_receiveAdvances 73 = .ok (.getfield 9, 3) := by decide +kernel
theorem dX5_receiveAdvances_76 : decode cX5_receiveAdvances 76 = .ok (.iload_n 2, 1) := by decide +kernel
theorem dX5_receiveAdvances_77 : decode cX5_receiveAdvances 77 = .ok (.dup2, 1) := by decide +kernel
theorem dX5_receiveAdvances_78 : decode cX5_receiveAdvances 78 = .ok (.iaload, 1) := by decide +kernel
theorem dX5_receiveAdvances_79 : decode cX5_receiveAdvances 79 = .ok (.iload 4, 2) := by decide +kernel
theorem dX5_receiveAdvances_81 : decode cX5_receiveAdvances 81 = .ok (.iload 4, 2) := by decide +kernel
theorem dX5_receiveAdvances_83 : decode cX5_receiveAdvances 83 = .ok (.aload_n 0, 1) := by decide +kernel
theorem dX5_receiveAdvances_84 : decode cX5_receiveAdvances 84 = .ok (.getfield 63, 3) := by decide +kernel
theorem dX5_receiveAdvances_87 : decode cX5_receiveAdvances 87 = .ok (.imul, 1) := by decide +kernel
theorem dX5_receiveAdvances_88 : decode cX5_receiveAdvances 88 = .ok (.bipush 100, 2) := by decide +kernel
theorem dX5_receiveAdvances_90 : decode cX5_receiveAdvances 90 = .ok (.idiv, 1) := by decide +kernel
theorem dX5_receiveAdvances_91 : decode cX5_receiveAdvances 91 = .ok (.isub, 1) := by decide +kernel
theorem dX5_receiveAdvances_92 : decode cX5_receiveAdvances 92 = .ok (.iadd, 1) := by decide +kernel
theorem dX5_receiveAdvances_93 : decode cX5_receiveAdvances 93 = .ok (.iastore, 1) := by decide +kernel
theorem dX5_receiveAdvances_94 : decode cX5_receiveAdvances 94 = .ok (.iinc 2 1, 3) := by decide +kernel
theorem dX5_receiveAdvances_97 : decode cX5_receiveAdvances 97 = .ok (.goto (-95), 3) := by decide +kernel
theorem dX5_receiveAdvances_100 : decode cX5_receiveAdvances 100 = .ok (.return_, 1) := by decide +kernel
theorem dX5_coolDown_0 : decode cX5_coolDown 0 = .ok (.iconst 0, 1) := by decide +kernel
theorem dX5_coolDown_1 : decode cX5_coolDown 1 = .ok (.istore_n 1, 1) := by decide +kernel
theorem dX5_coolDown_2 : decode cX5_coolDown 2 = .ok (.iload_n 1, 1) := by decide +kernel
theorem dX5_coolDown_3 : decode cX5_coolDown 3 = .ok (.iconst 4, 1) := by decide +kernel
theorem dX5_coolDown_4 : decode cX5_coolDown 4 = .ok (.if_icmp .ge 27, 3) := by decide +kernel
theorem dX5_coolDown_7 : decode cX5_coolDown 7 = .ok (.aload_n 0, 1) := by decide +kernel
theorem dX5_coolDown_8 : decode cX5_coolDown 8 = .ok (.getfield 25, 3) := by decide +kernel
theorem dX5_coolDown_11 : decode cX5_coolDown 11 = .ok (.iload_n 1, 1) := by decide +kernel
theorem dX5_coolDown_12 : decode cX5_coolDown 12 = .ok (.aload_n 0, 1) := by decide +kernel
theorem dX5_coolDown_13 : decode cX5_coolDown 13 = .ok (.getfield 25, 3) := by decide +kernel
theorem dX5_coolDown_16 : decode cX5_coolDown 16 = .ok (.iload_n 1, 1) := by decide +kernel
theorem dX5_coolDown_17 : decode cX5_coolDown 17 = .ok (.iaload, 1) := by decide +kernel
theorem dX5_coolDown_18 : decode cX5_coolDown 18 = .ok (.iconst 5, 1) := by decide +kernel
theorem dX5_coolDown_19 : decode cX5_coolDown 19 = .ok (.isub, 1) := by decide +kernel
theorem dX5_coolDown_20 : decode cX5_coolDown 20 = .ok (.iconst 0, 1) := by decide +kernel
theorem dX5_coolDown_21 : decode cX5_coolDown 21 = .ok (.invokestatic 66, 3) := by decide +kernel
theorem dX5_coolDown_24 : decode cX5_coolDown 24 = .ok (.iastore, 1) := by decide +kernel
theorem dX5_coolDown_25 : decode cX5_coolDown 25 = .ok (.iinc 1 1, 3) := by decide +kernel
theorem dX5_coolDown_28 : decode cX5_coolDown 28 = .ok (.goto (-26), 3) := by decide +kernel
theorem dX5_coolDown_31 : decode cX5_coolDown 31 = .ok (.return_, 1) := by decide +kernel
theorem dX5_receiveOrder_0 : decode cX5_receiveOrder 0 = .ok (.aload_n 0, 1) := by decide +kernel
theorem dX5_receiveOrder_1 : decode cX5_receiveOrder 1 = .ok (.getfield 40, 3) := by decide +kernel
theorem dX5_receiveOrder_4 : decode cX5_receiveOrder 4 = .ok (.invokevirtual 72, 3) := by decide +kernel
theorem dX5_receiveOrder_7 : decode cX5_receiveOrder 7 = .ok (.istore_n 2, 1) := by decide +kernel
theorem dX5_receiveOrder_8 : decode cX5_receiveOrder 8 = .ok (.iload_n 2, 1) := by decide +kernel
theorem dX5_receiveOrder_9 : decode cX5_receiveOrder 9 = .ok (.ifCond .le 30, 3) := by decide +kernel
theorem dX5_receiveOrder_12 : decode cX5_receiveOrder 12 = .ok (.aload_n 0, 1) := by decide +kernel
theorem dX5_receiveOrder_13 : decode cX5_receiveOrder 13 = .ok (.aload_n 0, 1) := by decide +kernel
theorem dX5_receiveOrder_14 : decode cX5_receiveOrder 14 = .ok (.getfield 40, 3) := by decide +kernel
theorem dX5_receiveOrder_17 : decode cX5_receiveOrder 17 = .ok (.iload_n 2, 1) := by decide +kernel
theorem dX5_receiveOrder_18 : decode cX5_receiveOrder 18 = .ok (.iconst 1, 1) := by decide +kernel
theorem dX5_receiveOrder_19 : decode cX5_receiveOrder 19 = .ok (.isub, 1) := by decide +kernel
theorem dX5_receiveOrder_20 : decode cX5_receiveOrder 20 = .ok (.invokevirtual 76, 3) := by decide +kernel
theorem dX5_receiveOrder_23 : decode cX5_receiveOrder 23 = .ok (.checkcast 80, 3) := by decide +kernel
theorem dX5_receiveOrder_26 : decode cX5_receiveOrder 26 = .ok (.aload_n 1, 1) := by decide +kernel
theorem dX5_receiveOrder_27 : decode cX5_receiveOrder 27 = .ok (.invokevirtual 82, 3) := by decide +kernel
theorem dX5_receiveOrder_30 : decode cX5_receiveOrder 30 = .ok (.ifCond .eq 9, 3) := by decide +kernel
theorem dX5_receiveOrder_33 : decode cX5_receiveOrder 33 = .ok (.iinc 2 (-1), 3) := by decide +kernel
theorem dX5_receiveOrder_36 : decode cX5_receiveOrder 36 = .ok (.goto (-28), 3) := by decide +kernel
theorem dX5_receiveOrder_39 : decode cX5_receiveOrder 39 = .ok (.aload_n 0, 1) := by decide +kernel
theorem dX5_receiveOrder_40 : decode cX5_receiveOrder 40 = .ok (.getfield 40, 3) := by decide +kernel
theorem dX5_receiveOrder_43 : decode cX5_receiveOrder 43 = .ok (.iload_n 2, 1) := by decide +kernel
theorem dX5_receiveOrder_44 : decode cX5_receiveOrder 44 = .ok (.aload_n 1, 1) := by decide +kernel
theorem dX5_receiveOrder_45 : decode cX5_receiveOrder 45 = .ok (.invokevirtual 86, 3) := by decide +kernel
theorem dX5_receiveOrder_48 : decode cX5_receiveOrder 48 = .ok (.aload_n 0, 1) := by decide +kernel
theorem dX5_receiveOrder_49 : decode cX5_receiveOrder 49 = .ok (.invokevirtual 90, 3) := by decide +kernel
theorem dX5_receiveOrder_52 : decode cX5_receiveOrder 52 = .ok (.return_, 1) := by decide +kernel
theorem dX5_comesBehind_0 : decode cX5_comesBehind 0 = .ok (.aload_n 1, 1) := by decide +kernel
theorem dX5_comesBehind_1 : decode cX5_comesBehind 1 = .ok (.getfield 93, 3) := by decide +kernel
theorem dX5_comesBehind_4 : decode cX5_comesBehind 4 = .ok (.aload_n 0, 1) := by decide +kernel
theorem dX5_comesBehind_5 : decode cX5_comesBehind 5 = .ok (.getfield 53, 3) := by decide +kernel
theorem dX5_comesBehind_8 : decode cX5_comesBehind 8 = .ok (.iaload, 1) := by decide +kernel
theorem dX5_comesBehind_9 : decode cX5_comesBehind 9 = .ok (.aload_n 2, 1) := by decide +kernel
theorem dX5_comesBehind_10 : decode cX5_comesBehind 10 = .ok (.getfield 93, 3) := by decide +kernel
theorem dX5_comesBehind_13 : decode cX5_comesBehind 13 = .ok (.aload_n 0, 1) := by decide +kernel
theorem dX5_comesBehind_14 : decode cX5_comesBehind 14 = .ok (.getfield 53, 3) := by decide +kernel
theorem dX5_comesBehind_17 : decode cX5_comesBehind 17 = .ok (.iaload, 1) := by decide +kernel
theorem dX5_comesBehind_18 : decode cX5_comesBehind 18 = .ok (.if_icmp .ne 18, 3) := by decide +kernel
theorem dX5_comesBehind_21 : decode cX5_comesBehind 21 = .ok (.aload_n 1, 1) := by decide +kernel
theorem dX5_comesBehind_22 : decode cX5_comesBehind 22 = .ok (.getfield 96, 3) := by decide +kernel
theorem dX5_comesBehind_25 : decode cX5_comesBehind 25 = .ok (.aload_n 2, 1) := by decide +kernel
theorem dX5_comesBehind_26 : decode cX5_comesBehind 26 = .ok (.getfield 96, 3) := by decide +kernel
theorem dX5_comesBehind_29 : decode cX5_comesBehind 29 = .ok (.if_icmp .le 7, 3) := by decide +kernel
theorem dX5_comesBehind_32 : decode cX5_comesBehind 32 = .ok (.iconst 1, 1) := by decide +kernel
theorem dX5_comesBehind_33 : decode cX5_comesBehind 33 = .ok (.goto 4, 3) := by decide +kernel
theorem dX5_comesBehind_36 : decode cX5_comesBehind 36 = .ok (.iconst 0, 1) := by decide +kernel
theorem dX5_comesBehind_37 : decode cX5_comesBehind 37 = .ok (.ireturn, 1) := by decide +kernel
theorem dX5_settleForce_0 : decode cX5_settleForce 0 = .ok (.iconst 0, 1) := by decide +kernel
theorem dX5_settleForce_1 : decode cX5_settleForce 1 = .ok (.istore_n 1, 1) := by decide +kernel
theorem dX5_settleForce_2 : decode cX5_settleForce 2 = .ok (.iload_n 1, 1) := by decide +kernel
theorem dX5_settleForce_3 : decode cX5_settleForce 3 = .ok (.aload_n 0, 1) := by decide +kernel
theorem dX5_settleForce_4 : decode cX5_settleForce 4 = .ok (.getfield 40, 3) := by decide +kernel
theorem dX5_settleForce_7 : decode cX5_settleForce 7 = .ok (.invokevirtual 72, 3) := by decide +kernel
theorem dX5_settleForce_10 : decode cX5_settleForce 10 = .ok (.if_icmp .ge 60, 3) := by decide +kernel
theorem dX5_settleForce_13 : decode cX5_settleForce 13 = .ok (.aload_n 0, 1) := by decide +kernel
theorem dX5_settleForce_14 : decode cX5_settleForce 14 = .ok (.getfield 40, 3) := by decide +kernel
theorem dX5_settleForce_17 : decode cX5_settleForce 17 = .ok (.iload_n 1, 1) := by decide +kernel
theorem dX5_settleForce_18 : decode cX5_settleForce 18 = .ok (.invokevirtual 76, 3) := by decide +kernel
theorem dX5_settleForce_21 : decode cX5_settleForce 21 = .ok (.checkcast 80, 3) := by decide +kernel
theorem dX5_settleForce_24 : decode cX5_settleForce 24 = .ok (.astore_n 2, 1) := by decide +kernel
theorem dX5_settleForce_25 : decode cX5_settleForce 25 = .ok (.iconst 0, 1) := by decide +kernel
theorem dX5_settleForce_26 : decode cX5_settleForce 26 = .ok (.istore_n 3, 1) := by decide +kernel
theorem dX5_settleForce_27 : decode cX5_settleForce 27 = .ok (.iload_n 3, 1) := by decide +kernel
theorem dX5_settleForce_28 : decode cX5_settleForce 28 = .ok (.aload_n 2, 1) := by decide +kernel
theorem dX5_settleForce_29 : decode cX5_settleForce 29 = .ok (.getfield 97, 3) := by decide +kernel
theorem dX5_settleForce_32 : decode cX5_settleForce 32 = .ok (.invokevirtual 72, 3) := by decide +kernel
theorem dX5_settleForce_35 : decode cX5_settleForce 35 = .ok (.if_icmp .ge 29, 3) := by decide +kernel
theorem dX5_settleForce_38 : decode cX5_settleForce 38 = .ok (.aload_n 0, 1) := by decide +kernel
theorem dX5_settleForce_39 : decode cX5_settleForce 39 = .ok (.getfield 47, 3) := by decide +kernel
theorem dX5_settleForce_42 : decode cX5_settleForce 42 = .ok (.aload_n 2, 1) := by decide +kernel
theorem dX5_settleForce_43 : decode cX5_settleForce 43 = .ok (.getfield 97, 3) := by decide +kernel
theorem dX5_settleForce_46 : decode cX5_settleForce 46 = .ok (.iload_n 3, 1) := by decide +kernel
theorem dX5_settleForce_47 : decode cX5_settleForce 47 = .ok (.invokevirtual 76, 3) := by decide +kernel
theorem dX5_settleForce_50 : decode cX5_settleForce 50 = .ok (.checkcast 100, 3) := by decide +kernel
theorem dX5_settleForce_53 : decode cX5_settleForce 53 = .ok (.getfield 102, 3) := by decide +kernel
theorem dX5_settleForce_56 : decode cX5_settleForce 56 = .ok (.iload_n 1, 1) := by decide +kernel
theorem dX5_settleForce_57 : decode cX5_settleForce 57 = .ok (.iastore, 1) := by decide +kernel
theorem dX5_settleForce_58 : decode cX5_settleForce 58 = .ok (.iinc 3 1, 3) := by decide +kernel
theorem dX5_settleForce_61 : decode cX5_settleForce 61 = .ok (.goto (-34), 3) := by decide +kernel
theorem dX5_settleForce_64 : decode cX5_settleForce 64 = .ok (.iinc 1 1, 3) := by decide +kernel
theorem dX5_settleForce_67 : decode cX5_settleForce 67 = .ok (.goto (-65), 3) := by decide +kernel
theorem dX5_settleForce_70 : decode cX5_settleForce 70 = .ok (.aload_n 0, 1) := by decide +kernel
theorem dX5_settleForce_71 : decode cX5_settleForce 71 = .ok (.getfield 44, 3) := by decide +kernel
theorem dX5_settleForce_74 : decode cX5_settleForce 74 = .ok (.invokevirtual 105, 3) := by decide +kernel
theorem dX5_settleForce_77 : decode cX5_settleForce 77 = .ok (.iconst 0, 1) := by decide +kernel
theorem dX5_settleForce_78 : decode cX5_settleForce 78 = .ok (.istore_n 1, 1) := by decide +kernel
theorem dX5_settleForce_79 : decode cX5_settleForce 79 = .ok (.iload_n 1, 1) := by decide +kernel
theorem dX5_settleForce_80 : decode cX5_settleForce 80 = .ok (.aload_n 0, 1) := by decide +kernel
theorem dX5_settleForce_81 : decode cX5_settleForce 81 = .ok (.getfield 40, 3) := by decide +kernel
theorem dX5_settleForce_84 : decode cX5_settleForce 84 = .ok (.invokevirtual 72, 3) := by decide +kernel
theorem dX5_settleForce_87 : decode cX5_settleForce 87 = .ok (.if_icmp .ge 77, 3) := by decide +kernel
theorem dX5_settleForce_90 : decode cX5_settleForce 90 = .ok (.aload_n 0, 1) := by decide +kernel
theorem dX5_settleForce_91 : decode cX5_settleForce 91 = .ok (.getfield 40, 3) := by decide +kernel
theorem dX5_settleForce_94 : decode cX5_settleForce 94 = .ok (.iload_n 1, 1) := by decide +kernel
theorem dX5_settleForce_95 : decode cX5_settleForce 95 = .ok (.invokevirtual 76, 3) := by decide +kernel
theorem dX5_settleForce_98 : decode cX5_settleForce 98 = .ok (.checkcast 80, 3) := by decide +kernel
theorem dX5_settleForce_101 : decode cX5_settleForce 101 = .ok (.astore_n 2, 1) := by decide +kernel
theorem dX5_settleForce_102 : decode cX5_settleForce 102 = .ok (.iconst 0, 1) := by decide +kernel
theorem dX5_settleForce_103 : decode cX5_settleForce 103 = .ok (.istore_n 3, 1) := by decide +kernel
theorem dX5_settleForce_104 : decode cX5_settleForce 104 = .ok (.iload_n 3, 1) := by decide +kernel
theorem dX5_settleForce_105 : decode cX5_settleForce 105 = .ok (.aload_n 2, 1) := by decide +kernel
theorem dX5_settleForce_106 : decode cX5_settleForce 106 = .ok (.getfield 97, 3) := by decide +kernel
theorem dX5_settleForce_109 : decode cX5_settleForce 109 = .ok (.invokevirtual 72, 3) := by decide +kernel
theorem dX5_settleForce_112 : decode cX5_settleForce 112 = .ok (.if_icmp .ge 46, 3) := by decide +kernel
theorem dX5_settleForce_115 : decode cX5_settleForce 115 = .ok (.aload_n 2, 1) := by decide +kernel
theorem dX5_settleForce_116 : decode cX5_settleForce 116 = .ok (.getfield 97, 3) := by decide +kernel
theorem dX5_settleForce_119 : decode cX5_settleForce 119 = .ok (.iload_n 3, 1) := by decide +kernel
theorem dX5_settleForce_120 : decode cX5_settleForce 120 = .ok (.invokevirtual 76, 3) := by decide +kernel
theorem dX5_settleForce_123 : decode cX5_settleForce 123 = .ok (.checkcast 100, 3) := by decide +kernel
theorem dX5_settleForce_126 : decode cX5_settleForce 126 = .ok (.astore 4, 2) := by decide +kernel
theorem dX5_settleForce_128 : decode cX5_settleForce 128 = .ok (.aload_n 0, 1) := by decide +kernel
theorem dX5_settleForce_129 : decode cX5_settleForce 129 = .ok (.getfield 47, 3) := by decide +kernel
theorem dX5_settleForce_132 : decode cX5_settleForce 132 = .ok (.aload 4, 2) := by decide +kernel
theorem dX5_settleForce_134 : decode cX5_settleForce 134 = .ok (.getfield 102, 3) := by decide +kernel
theorem dX5_settleForce_137 : decode cX5_settleForce 137 = .ok (.iaload, 1) := by decide +kernel
theorem dX5_settleForce_138 : decode cX5_settleForce 138 = .ok (.iload_n 1, 1) := by decide +kernel
theorem dX5_settleForce_139 : decode cX5_settleForce 139 = .ok (.if_icmp .ne 13, 3) := by decide +kernel
theorem dX5_settleForce_142 : decode cX5_settleForce 142 = .ok (.aload_n 0, 1) := by decide +kernel
theorem dX5_settleForce_143 : decode cX5_settleForce 143 = .ok (.getfield 44, 3) := by decide +kernel
theorem dX5_settleForce_146 : decode cX5_settleForce 146 = .ok (.aload 4, 2) := by decide +kernel
theorem dX5_settleForce_148 : decode cX5_settleForce 148 = .ok (.invokevirtual 108, 3) := by decide +kernel
theorem dX5_settleForce_151 : decode cX5_settleForce 151 = .ok (.pop, 1) := by decide +kernel
theorem dX5_settleForce_152 : decode cX5_settleForce 152 = .ok (.iinc 3 1, 3) := by decide +kernel
theorem dX5_settleForce_155 : decode cX5_settleForce 155 = .ok (.goto (-51), 3) := by decide +kernel
theorem dX5_settleForce_158 : decode cX5_settleForce 158 = .ok (.iinc 1 1, 3) := by decide +kernel
theorem dX5_settleForce_161 : decode cX5_settleForce 161 = .ok (.goto (-82), 3) := by decide +kernel
theorem dX5_settleForce_164 : decode cX5_settleForce 164 = .ok (.return_, 1) := by decide +kernel
theorem dX6_init_0 : decode cX6_init 0 = .ok (.aload_n 0, 1) := by decide +kernel
theorem dX6_init_1 : decode cX6_init 1 = .ok (.invokespecial 3, 3) := by decide +kernel
theorem dX6_init_4 : decode cX6_init 4 = .ok (.aload_n 0, 1) := by decide +kernel
theorem dX6_init_5 : decode cX6_init 5 = .ok (.bipush 120, 2) := by decide +kernel
theorem dX6_init_7 : decode cX6_init 7 = .ok (.newarray .int, 2) := by decide +kernel
theorem dX6_init_9 : decode cX6_init 9 = .ok (.putfield 9, 3) := by decide +kernel
theorem dX6_init_12 : decode cX6_init 12 = .ok (.return_, 1) := by decide +kernel
theorem dX6_hasRoomFor_0 : decode cX6_hasRoomFor 0 = .ok (.iload_n 1, 1) := by decide +kernel
theorem dX6_hasRoomFor_1 : decode cX6_hasRoomFor 1 = .ok (.bipush 120, 2) := by decide +kernel
theorem dX6_hasRoomFor_3 : decode cX6_hasRoomFor 3 = .ok (.aload_n 0, 1) := by decide +kernel
theorem dX6_hasRoomFor_4 : decode cX6_hasRoomFor 4 = .ok (.getfield 15, 3) := by decide +kernel
theorem dX6_hasRoomFor_7 : decode cX6_hasRoomFor 7 = .ok (.isub, 1) := by decide +kernel
theorem dX6_hasRoomFor_8 : decode cX6_hasRoomFor 8 = .ok (.if_icmp .gt 7, 3) := by decide +kernel
theorem dX6_hasRoomFor_11 : decode cX6_hasRoomFor 11 = .ok (.iconst 1, 1) := by decide +kernel
theorem dX6_hasRoomFor_12 : decode cX6_hasRoomFor 12 = .ok (.goto 4, 3) := by decide +kernel
theorem dX6_hasRoomFor_15 : decode cX6_hasRoomFor 15 = .ok (.iconst 0, 1) := by decide +kernel
theorem dX6_hasRoomFor_16 : decode cX6_hasRoomFor 16 = .ok (.ireturn, 1) := by decide +kernel
theorem dX6_append_0 : decode cX6_append 0 = .ok (.aload_n 0, 1) := by decide +kernel
theorem dX6_append_1 : decode cX6_append 1 = .ok (.getfield 15, 3) := by decide +kernel
theorem dX6_append_4 : decode cX6_append 4 = .ok (.bipush 120, 2) := by decide +kernel
theorem dX6_append_6 : decode cX6_append 6 = .ok (.if_icmp .ge 27, 3) := by decide +kernel
theorem dX6_append_9 : decode cX6_append 9 = .ok (.aload_n 0, 1) := by decide +kernel
theorem dX6_append_10 : decode cX6_append 10 = .ok (.getfield 9, 3) := by decide +kernel
theorem dX6_append_13 : decode cX6_append 13 = .ok (.aload_n 0, 1) := by decide +kernel
theorem dX6_append_14 : decode cX6_append 14 = .ok (.getfield 15, 3) := by decide +kernel
theorem dX6_append_17 : decode cX6_append 17 = .ok (.iload_n 1, 1) := by decide +kernel
theorem dX6_append_18 : decode cX6_append 18 = .ok (.sipush 255, 3) := by decide +kernel
theorem dX6_append_21 : decode cX6_append 21 = .ok (.iand, 1) := by decide +kernel
theorem dX6_append_22 : decode cX6_append 22 = .ok (.iastore, 1) := by decide +kernel
theorem dX6_append_23 : decode cX6_append 23 = .ok (.aload_n 0, 1) := by decide +kernel
theorem dX6_append_24 : decode cX6_append 24 = .ok (.dup, 1) := by decide +kernel
theorem dX6_append_25 : decode cX6_append 25 = .ok (.getfield 15, 3) := by decide +kernel
theorem dX6_append_28 : decode cX6_append 28 = .ok (.iconst 1, 1) := by decide +kernel
theorem dX6_append_29 : decode cX6_append 29 = .ok (.iadd, 1) := by decide +kernel
theorem dX6_append_30 : decode cX6_append 30 = .ok (.putfield 15, 3) := by decide +kernel
theorem dX6_append_33 : decode cX6_append 33 = .ok (.return_, 1) := by decide +kernel
theorem dX6_readInto_0 : decode cX6_readInto 0 = .ok (.aload_n 0, 1) := by decide +kernel
theorem dX6_readInto_1 : decode cX6_readInto 1 = .ok (.iconst 0, 1) := by decide +kernel
theorem dX6_readInto_2 : decode cX6_readInto 2 = .ok (.putfield 19, 3) := by decide +kernel
theorem dX6_readInto_5 : decode cX6_readInto 5 = .ok (.aload_n 0, 1) := by decide +kernel
theorem dX6_readInto_6 : decode cX6_readInto 6 = .ok (.iconst (-1), 1) := by decide +kernel
theorem dX6_readInto_7 : decode cX6_readInto 7 = .ok (.putfield 22, 3) := by decide +kernel
theorem dX6_readInto_10 : decode cX6_readInto 10 = .ok (.iconst 0, 1) := by decide +kernel
theorem dX6_readInto_11 : decode cX6_readInto 11 = .ok (.istore_n 2, 1) := by decide +kernel
theorem dX6_readInto_12 : decode cX6_readInto 12 = .ok (.iload_n 2, 1) := by decide +kernel
theorem dX6_readInto_13 : decode cX6_readInto 13 = .ok (.bipush 6, 2) := by decide +kernel
theorem dX6_readInto_15 : decode cX6_readInto 15 = .ok (.if_icmp .ge 32, 3) := by decide +kernel
theorem dX6_readInto_18 : decode cX6_readInto 18 = .ok (.aload_n 0, 1) := by decide +kernel
theorem dX6_readInto_19 : decode cX6_readInto 19 = .ok (.aload_n 1, 1) := by decide +kernel
theorem dX6_readInto_20 : decode cX6_readInto 20 = .ok (.iload_n 2, 1) := by decide +kernel
theorem dX6_readInto_21 : decode cX6_readInto 21 = .ok (.invokevirtual 25, 3) := by decide +kernel
theorem dX6_readInto_24 : decode cX6_readInto 24 = .ok (.iload_n 2, 1) := by decide +kernel
theorem dX6_readInto_25 : decode cX6_readInto 25 = .ok (.iconst 5, 1) := by decide +kernel
theorem dX6_readInto_26 : decode cX6_readInto 26 = .ok (.if_icmp .eq 21, 3) := by decide +kernel
theorem dX6_readInto_29 : decode cX6_readInto 29 = .ok (.aload_n 0, 1) := by decide +kernel
theorem dX6_readInto_30 : decode cX6_readInto 30 = .ok (.bipush 59, 2) := by decide +kernel
theorem dX6_readInto_32 : decode cX6_readInto 32 = .ok (.invokevirtual 29, 3) := by decide +kernel
theorem dX6_readInto_35 : decode cX6_readInto 35 = .ok (.ifCond .ne 6, 3) := by decide +kernel
theorem dX6_readInto_38 : decode cX6_readInto 38 = .ok (.goto 9, 3) := by decide +kernel
theorem dX6_readInto_41 : decode cX6_readInto 41 = .ok (.iinc 2 1, 3) := by decide +kernel
theorem dX6_readInto_44 : decode cX6_readInto 44 = .ok (.goto (-32), 3) := by decide +kernel
theorem dX6_readInto_47 : decode cX6_readInto 47 = .ok (.aload_n 0, 1) := by decide +kernel
theorem dX6_readInto_48 : decode cX6_readInto 48 = .ok (.getfield 19, 3) := by decide +kernel
theorem dX6_readInto_51 : decode cX6_readInto 51 = .ok (.aload_n 0, 1) := by decide +kernel
theorem dX6_readInto_52 : decode cX6_readInto 52 = .ok (.getfield 15, 3) := by decide +kernel
theorem dX6_readInto_55 : decode cX6_readInto 55 = .ok (.if_icmp .ge 7, 3) := by decide +kernel
theorem dX6_readInto_58 : decode cX6_readInto 58 = .ok (.aload_n 0, 1) := by decide +kernel
theorem dX6_readInto_59 : decode cX6_readInto 59 = .ok (.invokevirtual 33, 3) := by decide +kernel
theorem dX6_readInto_62 : decode cX6_readInto 62 = .ok (.aload_n 0, 1) := by decide +kernel
theorem dX6_readInto_63 : decode cX6_readInto 63 = .ok (.iconst 0, 1) := by decide +kernel
theorem dX6_readInto_64 : decode cX6_readInto 64 = .ok (.putfield 15, 3) := by decide +kernel
theorem dX6_readInto_67 : decode cX6_readInto 67 = .ok (.aload_n 0, 1) := by decide +kernel
theorem dX6_readInto_68 : decode cX6_readInto 68 = .ok (.getfield 22, 3) := by decide +kernel
theorem dX6_readInto_71 : decode cX6_readInto 71 = .ok (.ireturn, 1) := by decide +kernel
theorem dX6_readParagraph_0 : decode cX6_readParagraph 0 = .ok (.aload_n 0, 1) := by decide +kernel
theorem dX6_readParagraph_1 : decode cX6_readParagraph 1 = .ok (.invokevirtual 36, 3) := by decide +kernel
theorem dX6_readParagraph_4 : decode cX6_readParagraph 4 = .ok (.istore_n 3, 1) := by decide +kernel
theorem dX6_readParagraph_5 : decode cX6_readParagraph 5 = .ok (.iconst (-1), 1) := by decide +kernel
theorem dX6_readParagraph_6 : decode cX6_readParagraph 6 = .ok (.istore 4, 2) := by decide +kernel
theorem dX6_readParagraph_8 : decode cX6_readParagraph 8 = .ok (.iload_n 3, 1) := by decide +kernel
theorem dX6_readParagraph_9 : decode cX6_readParagraph 9 = .ok (.ifCond .eq 13, 3) := by decide +kernel
theorem dX6_readParagraph_12 : decode cX6_readParagraph 12 = .ok (.iload_n 3, 1) := by decide +kernel
theorem dX6_readParagraph_13 : decode cX6_readParagraph 13 = .ok (.iconst 1, 1) := by decide +kernel
theorem dX6_readParagraph_14 : decode cX6_readParagraph 14 = .ok (.if_icmp .eq 8, 3) := by decide +kernel
theorem dX6_readParagraph_17 : decode cX6_readParagraph 17 = .ok (.iload_n 3, 1) := by decide +kernel
theorem dX6_readParagraph_18 : decode cX6_readParagraph 18 = .ok (.iconst 2, 1) := by decide +kernel
theorem dX6_readParagraph_19 : decode cX6_readParagraph 19 = .ok (.if_icmp .ne 15, 3) := by decide +kernel
theorem dX6_readParagraph_22 : decode cX6_readParagraph 22 = .ok (.aload_n 0, 1) := by decide +kernel
theorem dX6_readParagraph_23 : decode cX6_readParagraph 23 = .ok (.invokevirtual 40, 3) := by decide +kernel
theorem dX6_readParagraph_26 : decode cX6_readParagraph 26 = .ok (.istore 4, 2) := by decide +kernel
theorem dX6_readParagraph_28 : decode cX6_readParagraph 28 = .ok (.aload_n 0, 1) := by decide +kernel
theorem dX6_readParagraph_29 : decode cX6_readParagraph 29 = .ok (.ldc 43, 2) := by decide +kernel
theorem dX6_readParagraph_31 : decode cX6_readParagraph 31 = .ok (.invokevirtual 45, 3) := by decide +kernel
theorem dX6_readParagraph_34 : decode cX6_readParagraph 34 = .ok (.new 49, 3) := by decide +kernel
theorem dX6_readParagraph_37 : decode cX6_readParagraph 37 = .ok (.dup, 1) := by decide +kernel
theorem dX6_readParagraph_38 : decode cX6_readParagraph 38 = .ok (.aload_n 1, 1) := by decide +kernel
theorem dX6_readParagraph_39 : decode cX6_readParagraph 39 = .ok (.getfield 51, 3) := by decide +kernel
theorem dX6_readParagraph_42 : decode cX6_readParagraph 42 = .ok (.iload_n 2, 1) := by decide +kernel
theorem dX6_readParagraph_43 : decode cX6_readParagraph 43 = .ok (.iload_n 3, 1) := by decide +kernel
theorem dX6_readParagraph_44 : decode cX6_readParagraph 44 = .ok (.iload 4, 2) := by decide +kernel
theorem dX6_readParagraph_46 : decode cX6_readParagraph 46 = .ok (.aload_n 0, 1) := by decide +kernel
theorem dX6_readParagraph_47 : decode cX6_readParagraph 47 = .ok (.invokevirtual 56, 3) := by decide +kernel
theorem dX6_readParagraph_50 : decode cX6_readParagraph 50 = .ok (.invokespecial 59, 3) := by decide +kernel
theorem dX6_readParagraph_53 : decode cX6_readParagraph 53 = .ok (.astore 5, 2) := by decide +kernel
theorem dX6_readParagraph_55 : decode cX6_readParagraph 55 = .ok (.aload_n 0, 1) := by decide +kernel
theorem dX6_readParagraph_56 : decode cX6_readParagraph 56 = .ok (.bipush 32, 2) := by decide +kernel
theorem dX6_readParagraph_58 : decode cX6_readParagraph 58 = .ok (.invokevirtual 29, 3) := by decide +kernel
theorem dX6_readParagraph_61 : decode cX6_readParagraph 61 = .ok (.ifCond .eq 15, 3) := by decide +kernel
theorem dX6_readParagraph_64 : decode cX6_readParagraph 64 = .ok (.aload_n 0, 1) := by decide +kernel
theorem dX6_readParagraph_65 : decode cX6_readParagraph 65 = .ok (.ldc 62, 2) := by decide +kernel
theorem dX6_readParagraph_67 : decode cX6_readParagraph 67 = .ok (.invokevirtual 45, 3) := by decide +kernel
theorem dX6_readParagraph_70 : decode cX6_readParagraph 70 = .ok (.aload_n 0, 1) := by decide +kernel
theorem dX6_readParagraph_71 : decode cX6_readParagraph 71 = .ok (.aload 5, 2) := by decide +kernel
theorem dX6_readParagraph_73 : decode cX6_readParagraph 73 = .ok (.invokevirtual 64, 3) := by decide +kernel
theorem dX6_readParagraph_76 : decode cX6_readParagraph 76 = .ok (.aload_n 0, 1) := by decide +kernel
theorem dX6_readParagraph_77 : decode cX6_readParagraph 77 = .ok (.getfield 22, 3) := by decide +kernel
theorem dX6_readParagraph_80 : decode cX6_readParagraph 80 = .ok (.ifCond .ge 13, 3) := by decide +kernel
theorem dX6_readParagraph_83 : decode cX6_readParagraph 83 = .ok (.aload_n 1, 1) := by decide +kernel
theorem dX6_readParagraph_84 : decode cX6_readParagraph 84 = .ok (.getfield 68, 3) := by decide +kernel
theorem dX6_readParagraph_87 : decode cX6_readParagraph 87 = .ok (.aload 5, 2) := by decide +kernel
theorem dX6_readParagraph_89 : decode cX6_readParagraph 89 = .ok (.invokevirtual 72, 3) := by decide +kernel
theorem dX6_readParagraph_92 : decode cX6_readParagraph 92 = .ok (.pop, 1) := by decide +kernel
theorem dX6_readParagraph_93 : decode cX6_readParagraph 93 = .ok (.return_, 1) := by decide +kernel
theorem dX6_readAct_0 : decode cX6_readAct 0 = .ok (.aload_n 0, 1) := by decide +kernel
theorem dX6_readAct_1 : decode cX6_readAct 1 = .ok (.bipush 98, 2) := by decide +kernel
theorem dX6_readAct_3 : decode cX6_readAct 3 = .ok (.invokevirtual 29, 3) := by decide +kernel
theorem dX6_readAct_6 : decode cX6_readAct 6 = .ok (.ifCond .eq 11, 3) := by decide +kernel
theorem dX6_readAct_9 : decode cX6_readAct 9 = .ok (.aload_n 0, 1) := by decide +kernel
theorem dX6_readAct_10 : decode cX6_readAct 10 = .ok (.ldc 78, 2) := by decide +kernel
theorem dX6_readAct_12 : decode cX6_readAct 12 = .ok (.invokevirtual 45, 3) := by decide +kernel
theorem dX6_readAct_15 : decode cX6_readAct 15 = .ok (.iconst 0, 1) := by decide +kernel
theorem dX6_readAct_16 : decode cX6_readAct 16 = .ok (.ireturn, 1) := by decide +kernel
theorem dX6_readAct_17 : decode cX6_readAct 17 = .ok (.aload_n 0, 1) := by decide +kernel
theorem dX6_readAct_18 : decode cX6_readAct 18 = .ok (.bipush 97, 2) := by decide +kernel
theorem dX6_readAct_20 : decode cX6_readAct 20 = .ok (.invokevirtual 29, 3) := by decide +kernel
theorem dX6_readAct_23 : decode cX6_readAct 23 = .ok (.ifCond .eq 11, 3) := by decide +kernel
theorem dX6_readAct_26 : decode cX6_readAct 26 = .ok (.aload_n 0, 1) := by decide +kernel
theorem dX6_readAct_27 : decode cX6_readAct 27 = .ok (.ldc 80, 2) := by decide +kernel
theorem dX6_readAct_29 : decode cX6_readAct 29 = .ok (.invokevirtual 45, 3) := by decide +kernel
theorem dX6_readAct_32 : decode cX6_readAct 32 = .ok (.iconst 1, 1) := by decide +kernel
theorem dX6_readAct_33 : decode cX6_readAct 33 = .ok (.ireturn, 1) := by decide +kernel
theorem dX6_readAct_34 : decode cX6_readAct 34 = .ok (.aload_n 0, 1) := by decide +kernel
theorem dX6_readAct_35 : decode cX6_readAct 35 = .ok (.bipush 108, 2) := by decide +kernel
theorem dX6_readAct_37 : decode cX6_readAct 37 = .ok (.invokevirtual 29, 3) := by decide +kernel
theorem dX6_readAct_40 : decode cX6_readAct 40 = .ok (.ifCond .eq 11, 3) := by decide +kernel
theorem dX6_readAct_43 : decode cX6_readAct 43 = .ok (.aload_n 0, 1) := by decide +kernel
theorem dX6_readAct_44 : decode cX6_readAct 44 = .ok (.ldc 82, 2) := by decide +kernel
theorem dX6_readAct_46 : decode cX6_readAct 46 = .ok (.invokevirtual 45, 3) := by decide +kernel
theorem dX6_readAct_49 : decode cX6_readAct 49 = .ok (.iconst 2, 1) := by decide +kernel
theorem dX6_readAct_50 : decode cX6_readAct 50 = .ok (.ireturn, 1) := by decide +kernel
theorem dX6_readAct_51 : decode cX6_readAct 51 = .ok (.aload_n 0, 1) := by decide +kernel
theorem dX6_readAct_52 : decode cX6_readAct 52 = .ok (.bipush 115, 2) := by decide +kernel
theorem dX6_readAct_54 : decode cX6_readAct 54 = .ok (.invokevirtual 29, 3) := by decide +kernel
theorem dX6_readAct_57 : decode cX6_readAct 57 = .ok (.ifCond .eq 11, 3) := by decide +kernel
theorem dX6_readAct_60 : decode cX6_readAct 60 = .ok (.aload_n 0, 1) := by decide +kernel
theorem dX6_readAct_61 : decode cX6_readAct 61 = .ok (.ldc 84, 2) := by decide +kernel
theorem dX6_readAct_63 : decode cX6_readAct 63 = .ok (.invokevirtual 45, 3) := by decide +kernel
theorem dX6_readAct_66 : decode cX6_readAct 66 = .ok (.iconst 3, 1) := by decide +kernel
theorem dX6_readAct_67 : decode cX6_readAct 67 = .ok (.ireturn, 1) := by decide +kernel
theorem dX6_readAct_68 : decode cX6_readAct 68 = .ok (.aload_n 0, 1) := by decide +kernel
theorem dX6_readAct_69 : decode cX6_readAct 69 = .ok (.bipush 100, 2) := by decide +kernel
theorem dX6_readAct_71 : decode cX6_readAct 71 = .ok (.invokevirtual 29, 3) := by decide +kernel
theorem dX6_readAct_74 : decode cX6_readAct 74 = .ok (.ifCond .eq 11, 3) := by decide +kernel
theorem dX6_readAct_77 : decode cX6_readAct 77 = .ok (.aload_n 0, 1) := by decide +kernel
theorem dX6_readAct_78 : decode cX6_readAct 78 = .ok (.ldc 86, 2) := by decide +kernel
theorem dX6_readAct_80 : decode cX6_readAct 80 = .ok (.invokevirtual 45, 3) := by decide +kernel
theorem dX6_readAct_83 : decode cX6_readAct 83 = .ok (.iconst 4, 1) := by decide +kernel
theorem dX6_readAct_84 : decode cX6_readAct 84 = .ok (.ireturn, 1) := by decide +kernel
theorem dX6_readAct_85 : decode cX6_readAct 85 = .ok (.aload_n 0, 1) := by decide +kernel
theorem dX6_readAct_86 : decode cX6_readAct 86 = .ok (.ldc 88, 2) := by decide +kernel
theorem dX6_readAct_88 : decode cX6_readAct 88 = .ok (.invokevirtual 45, 3) := by decide +kernel
theorem dX6_readAct_91 : decode cX6_readAct 91 = .ok (.bipush 6, 2) := by decide +kernel
theorem dX6_readAct_93 : decode cX6_readAct 93 = .ok (.ireturn, 1) := by decide +kernel
theorem dX6_readTests_0 : decode cX6_readTests 0 = .ok (.iconst 0, 1) := by decide +kernel
theorem dX6_readTests_1 : decode cX6_readTests 1 = .ok (.istore_n 2, 1) := by decide +kernel
theorem dX6_readTests_2 : decode cX6_readTests 2 = .ok (.iconst 0, 1) := by decide +kernel
theorem dX6_readTests_3 : decode cX6_readTests 3 = .ok (.istore_n 3, 1) := by decide +kernel
theorem dX6_readTests_4 : decode cX6_readTests 4 = .ok (.iload_n 3, 1) := by decide +kernel
theorem dX6_readTests_5 : decode cX6_readTests 5 = .ok (.iconst 4, 1) := by decide +kernel
theorem dX6_readTests_6 : decode cX6_readTests 6 = .ok (.if_icmp .ge 61, 3) := by decide +kernel
theorem dX6_readTests_9 : decode cX6_readTests 9 = .ok (.aload_n 1, 1) := by decide +kernel
theorem dX6_readTests_10 : decode cX6_readTests 10 = .ok (.getfield 90, 3) := by decide +kernel
theorem dX6_readTests_13 : decode cX6_readTests 13 = .ok (.aload_n 0, 1) := by decide +kernel
theorem dX6_readTests_14 : decode cX6_readTests 14 = .ok (.iload_n 2, 1) := by decide +kernel
theorem dX6_readTests_15 : decode cX6_readTests 15 = .ok (.invokevirtual 93, 3) := by decide +kernel
theorem dX6_readTests_18 : decode cX6_readTests 18 = .ok (.invokevirtual 72, 3) := by decide +kernel
theorem dX6_readTests_21 : decode cX6_readTests 21 = .ok (.pop, 1) := by decide +kernel
theorem dX6_readTests_22 : decode cX6_readTests 22 = .ok (.iload_n 3, 1) := by decide +kernel
theorem dX6_readTests_23 : decode cX6_readTests 23 = .ok (.iconst 3, 1) := by decide +kernel
theorem dX6_readTests_24 : decode cX6_readTests 24 = .ok (.if_icmp .eq 43, 3) := by decide +kernel
theorem dX6_readTests_27 : decode cX6_readTests 27 = .ok (.aload_n 0, 1) := by decide +kernel
theorem dX6_readTests_28 : decode cX6_readTests 28 = .ok (.bipush 32, 2) := by decide +kernel
theorem dX6_readTests_30 : decode cX6_readTests 30 = .ok (.invokevirtual 29, 3) := by decide +kernel
theorem dX6_readTests_33 : decode cX6_readTests 33 = .ok (.ifCond .ne 6, 3) := by decide +kernel
theorem dX6_readTests_36 : decode cX6_readTests 36 = .ok (.goto 31, 3) := by decide +kernel
theorem dX6_readTests_39 : decode cX6_readTests 39 = .ok (.aload_n 0, 1) := by decide +kernel
theorem dX6_readTests_40 : decode cX6_readTests 40 = .ok (.bipush 111, 2) := by decide +kernel
theorem dX6_readTests_42 : decode cX6_readTests 42 = .ok (.invokevirtual 29, 3) := by decide +kernel
theorem dX6_readTests_45 : decode cX6_readTests 45 = .ok (.istore_n 2, 1) := by decide +kernel
theorem dX6_readTests_46 : decode cX6_readTests 46 = .ok (.aload_n 0, 1) := by decide +kernel
theorem dX6_readTests_47 : decode cX6_readTests 47 = .ok (.iload_n 2, 1) := by decide +kernel
theorem dX6_readTests_48 : decode cX6_readTests 48 = .ok (.ifCond .eq 8, 3) := by decide +kernel
theorem dX6_readTests_51 : decode cX6_readTests 51 = .ok (.ldc 97, 2) := by decide +kernel
theorem dX6_readTests_53 : decode cX6_readTests 53 = .ok (.goto 5, 3) := by decide +kernel
theorem dX6_readTests_56 : decode cX6_readTests 56 = .ok (.ldc 99, 2) := by decide +kernel
theorem dX6_readTests_58 : decode cX6_readTests 58 = .ok (.invokevirtual 45, 3) := by decide +kernel
theorem dX6_readTests_61 : decode cX6_readTests 61 = .ok (.iinc 3 1, 3) := by decide +kernel
theorem dX6_readTests_64 : decode cX6_readTests 64 = .ok (.goto (-60), 3) := by decide +kernel
theorem dX6_readTests_67 : decode cX6_readTests 67 = .ok (.return_, 1) := by decide +kernel
theorem dX6_readTest_0 : decode cX6_readTest 0 = .ok (.aload_n 0, 1) := by decide +kernel
theorem dX6_readTest_1 : decode cX6_readTest 1 = .ok (.bipush 110, 2) := by decide +kernel
theorem dX6_readTest_3 : decode cX6_readTest 3 = .ok (.invokevirtual 29, 3) := by decide +kernel
theorem dX6_readTest_6 : decode cX6_readTest 6 = .ok (.istore_n 2, 1) := by decide +kernel
theorem dX6_readTest_7 : decode cX6_readTest 7 = .ok (.iload_n 2, 1) := by decide +kernel
theorem dX6_readTest_8 : decode cX6_readTest 8 = .ok (.ifCond .eq 9, 3) := by decide +kernel
theorem dX6_readTest_11 : decode cX6_readTest 11 = .ok (.aload_n 0, 1) := by decide +kernel
theorem dX6_readTest_12 : decode cX6_readTest 12 = .ok (.ldc 101, 2) := by decide +kernel
theorem dX6_readTest_14 : decode cX6_readTest 14 = .ok (.invokevirtual 45, 3) := by decide +kernel
theorem dX6_readTest_17 : decode cX6_readTest 17 = .ok (.aload_n 0, 1) := by decide +kernel
theorem dX6_readTest_18 : decode cX6_readTest 18 = .ok (.invokevirtual 103, 3) := by decide +kernel
theorem dX6_readTest_21 : decode cX6_readTest 21 = .ok (.istore_n 3, 1) := by decide +kernel
theorem dX6_readTest_22 : decode cX6_readTest 22 = .ok (.iload_n 3, 1) := by decide +kernel
theorem dX6_readTest_23 : decode cX6_readTest 23 = .ok (.ifCond .eq 8, 3) := by decide +kernel
theorem dX6_readTest_26 : decode cX6_readTest 26 = .ok (.iload_n 3, 1) := by decide +kernel
theorem dX6_readTest_27 : decode cX6_readTest 27 = .ok (.iconst 1, 1) := by decide +kernel
theorem dX6_readTest_28 : decode cX6_readTest 28 = .ok (.if_icmp .ne 10, 3) := by decide +kernel
theorem dX6_readTest_31 : decode cX6_readTest 31 = .ok (.aload_n 0, 1) := by decide +kernel
theorem dX6_readTest_32 : decode cX6_readTest 32 = .ok (.invokevirtual 40, 3) := by decide +kernel
theorem dX6_readTest_35 : decode cX6_readTest 35 = .ok (.goto 4, 3) := by decide +kernel
theorem dX6_readTest_38 : decode cX6_readTest 38 = .ok (.iconst (-1), 1) := by decide +kernel
theorem dX6_readTest_39 : decode cX6_readTest 39 = .ok (.istore 4, 2) := by decide +kernel
theorem dX6_readTest_41 : decode cX6_readTest 41 = .ok (.aload_n 0, 1) := by decide +kernel
theorem dX6_readTest_42 : decode cX6_readTest 42 = .ok (.invokevirtual 106, 3) := by decide +kernel
theorem dX6_readTest_45 : decode cX6_readTest 45 = .ok (.istore 5, 2) := by decide +kernel
theorem dX6_readTest_47 : decode cX6_readTest 47 = .ok (.new 109, 3) := by decide +kernel
theorem dX6_readTest_50 : decode cX6_readTest 50 = .ok (.dup, 1) := by decide +kernel
theorem dX6_readTest_51 : decode cX6_readTest 51 = .ok (.iload_n 1, 1) := by decide +kernel
theorem dX6_readTest_52 : decode cX6_readTest 52 = .ok (.iload_n 2, 1) := by decide +kernel
theorem dX6_readTest_53 : decode cX6_readTest 53 = .ok (.iload_n 3, 1) := by decide +kernel
theorem dX6_readTest_54 : decode cX6_readTest 54 = .ok (.iload 4, 2) := by decide +kernel
theorem dX6_readTest_56 : decode cX6_readTest 56 = .ok (.iload 5, 2) := by decide +kernel
theorem dX6_readTest_58 : decode cX6_readTest 58 = .ok (.aload_n 0, 1) := by decide +kernel
theorem dX6_readTest_59 : decode cX6_readTest 59 = .ok (.invokevirtual 56, 3) := by decide +kernel
theorem dX6_readTest_62 : decode cX6_readTest 62 = .ok (.invokespecial 111, 3) := by decide +kernel
theorem dX6_readTest_65 : decode cX6_readTest 65 = .ok (.areturn, 1) := by decide +kernel
theorem dX6_readField_0 : decode cX6_readField 0 = .ok (.aload_n 0, 1) := by decide +kernel
theorem dX6_readField_1 : decode cX6_readField 1 = .ok (.bipush 112, 2) := by decide +kernel
theorem dX6_readField_3 : decode cX6_readField 3 = .ok (.invokevirtual 29, 3) := by decide +kernel
theorem dX6_readField_6 : decode cX6_readField 6 = .ok (.ifCond .eq 11, 3) := by decide +kernel
theorem dX6_readField_9 : decode cX6_readField 9 = .ok (.aload_n 0, 1) := by decide +kernel
theorem dX6_readField_10 : decode cX6_readField 10 = .ok (.ldc 114, 2) := by decide +kernel
theorem dX6_readField_12 : decode cX6_readField 12 = .ok (.invokevirtual 45, 3) := by decide +kernel
theorem dX6_readField_15 : decode cX6_readField 15 = .ok (.iconst 0, 1) := by decide +kernel
theorem dX6_readField_16 : decode cX6_readField 16 = .ok (.ireturn, 1) := by decide +kernel
theorem dX6_readField_17 : decode cX6_readField 17 = .ok (.aload_n 0, 1) := by decide +kernel
theorem dX6_readField_18 : decode cX6_readField 18 = .ok (.bipush 98, 2) := by decide +kernel
theorem dX6_readField_20 : decode cX6_readField 20 = .ok (.invokevirtual 29, 3) := by decide +kernel
theorem dX6_readField_23 : decode cX6_readField 23 = .ok (.ifCond .eq 11, 3) := by decide +kernel
theorem dX6_readField_26 : decode cX6_readField 26 = .ok (.aload_n 0, 1) := by decide +kernel
theorem dX6_readField_27 : decode cX6_readField 27 = .ok (.ldc 116, 2) := by decide +kernel
theorem dX6_readField_29 : decode cX6_readField 29 = .ok (.invokevirtual 45, 3) := by decide +kernel
theorem dX6_readField_32 : decode cX6_readField 32 = .ok (.iconst 2, 1) := by decide +kernel
theorem dX6_readField_33 : decode cX6_readField 33 = .ok (.ireturn, 1) := by decide +kernel
theorem dX6_readField_34 : decode cX6_readField 34 = .ok (.aload_n 0, 1) := by decide +kernel
theorem dX6_readField_35 : decode cX6_readField 35 = .ok (.bipush 115, 2) := by decide +kernel
theorem dX6_readField_37 : decode cX6_readField 37 = .ok (.invokevirtual 29, 3) := by decide +kernel
theorem dX6_readField_40 : decode cX6_readField 40 = .ok (.ifCond .eq 35, 3) := by decide +kernel
theorem dX6_readField_43 : decode cX6_readField 43 = .ok (.aload_n 0, 1) := by decide +kernel
theorem dX6_readField_44 : decode cX6_readField 44 = .ok (.bipush 116, 2) := by decide +kernel
theorem dX6_readField_46 : decode cX6_readField 46 = .ok (.invokevirtual 29, 3) := by decide +kernel
theorem dX6_readField_49 : decode cX6_readField 49 = .ok (.istore_n 1, 1) := by decide +kernel
theorem dX6_readField_50 : decode cX6_readField 50 = .ok (.aload_n 0, 1) := by decide +kernel
theorem dX6_readField_51 : decode cX6_readField 51 = .ok (.iload_n 1, 1) := by decide +kernel
theorem dX6_readField_52 : decode cX6_readField 52 = .ok (.ifCond .eq 8, 3) := by decide +kernel
theorem dX6_readField_55 : decode cX6_readField 55 = .ok (.ldc 118, 2) := by decide +kernel
theorem dX6_readField_57 : decode cX6_readField 57 = .ok (.goto 5, 3) := by decide +kernel
theorem dX6_readField_60 : decode cX6_readField 60 = .ok (.ldc 120, 2) := by decide +kernel
theorem dX6_readField_62 : decode cX6_readField 62 = .ok (.invokevirtual 45, 3) := by decide +kernel
theorem dX6_readField_65 : decode cX6_readField 65 = .ok (.iload_n 1, 1) := by decide +kernel
theorem dX6_readField_66 : decode cX6_readField 66 = .ok (.ifCond .eq 7, 3) := by decide +kernel
theorem dX6_readField_69 : decode cX6_readField 69 = .ok (.iconst 1, 1) := by decide +kernel
theorem dX6_readField_70 : decode cX6_readField 70 = .ok (.goto 4, 3) := by decide +kernel
theorem dX6_readField_73 : decode cX6_readField 73 = .ok (.iconst 3, 1) := by decide +kernel
theorem dX6_readField_74 : decode cX6_readField 74 = .ok (.ireturn, 1) := by decide +kernel
theorem dX6_readField_75 : decode cX6_readField 75 = .ok (.aload_n 0, 1) := by decide +kernel
theorem dX6_readField_76 : decode cX6_readField 76 = .ok (.ldc 122, 2) := by decide +kernel
theorem dX6_readField_78 : decode cX6_readField 78 = .ok (.invokevirtual 45, 3) := by decide +kernel
theorem dX6_readField_81 : decode cX6_readField 81 = .ok (.iconst 4, 1) := by decide +kernel
theorem dX6_readField_82 : decode cX6_readField 82 = .ok (.ireturn, 1) := by decide +kernel
theorem dX6_readSign_0 : decode cX6_readSign 0 = .ok (.aload_n 0, 1) := by decide +kernel
theorem dX6_readSign_1 : decode cX6_readSign 1 = .ok (.bipush 60, 2) := by decide +kernel
theorem dX6_readSign_3 : decode cX6_readSign 3 = .ok (.invokevirtual 29, 3) := by decide +kernel
theorem dX6_readSign_6 : decode cX6_readSign 6 = .ok (.ifCond .eq 5, 3) := by decide +kernel
theorem dX6_readSign_9 : decode cX6_readSign 9 = .ok (.iconst (-1), 1) := by decide +kernel
theorem dX6_readSign_10 : decode cX6_readSign 10 = .ok (.ireturn, 1) := by decide +kernel
theorem dX6_readSign_11 : decode cX6_readSign 11 = .ok (.aload_n 0, 1) := by decide +kernel
theorem dX6_readSign_12 : decode cX6_readSign 12 = .ok (.bipush 62, 2) := by decide +kernel
theorem dX6_readSign_14 : decode cX6_readSign 14 = .ok (.invokevirtual 29, 3) := by decide +kernel
theorem dX6_readSign_17 : decode cX6_readSign 17 = .ok (.ifCond .eq 5, 3) := by decide +kernel
theorem dX6_readSign_20 : decode cX6_readSign 20 = .ok (.iconst 1, 1) := by decide +kernel
theorem dX6_readSign_21 : decode cX6_readSign 21 = .ok (.ireturn, 1) := by decide +kernel
theorem dX6_readSign_22 : decode cX6_readSign 22 = .ok (.aload_n 0, 1) := by decide +kernel
theorem dX6_readSign_23 : decode cX6_readSign 23 = .ok (.ldc 124, 2) := by decide +kernel
theorem dX6_readSign_25 : decode cX6_readSign 25 = .ok (.invokevirtual 45, 3) := by decide +kernel
theorem dX6_readSign_28 : decode cX6_readSign 28 = .ok (.iconst 0, 1) := by decide +kernel
theorem dX6_readSign_29 : decode cX6_readSign 29 = .ok (.ireturn, 1) := by decide +kernel
theorem dX6_readSort_0 : decode cX6_readSort 0 = .ok (.iconst 0, 1) := by decide +kernel
theorem dX6_readSort_1 : decode cX6_readSort 1 = .ok (.istore_n 1, 1) := by decide +kernel
theorem dX6_readSort_2 : decode cX6_readSort 2 = .ok (.iload_n 1, 1) := by decide +kernel
theorem dX6_readSort_3 : decode cX6_readSort 3 = .ok (.iconst 4, 1) := by decide +kernel
theorem dX6_readSort_4 : decode cX6_readSort 4 = .ok (.if_icmp .ge 22, 3) := by decide +kernel
theorem dX6_readSort_7 : decode cX6_readSort 7 = .ok (.aload_n 0, 1) := by decide +kernel
theorem dX6_readSort_8 : decode cX6_readSort 8 = .ok (.bipush 48, 2) := by decide +kernel
theorem dX6_readSort_10 : decode cX6_readSort 10 = .ok (.iload_n 1, 1) := by decide +kernel
theorem dX6_readSort_11 : decode cX6_readSort 11 = .ok (.iadd, 1) := by decide +kernel
theorem dX6_readSort_12 : decode cX6_readSort 12 = .ok (.invokevirtual 29, 3) := by decide +kernel
theorem dX6_readSort_15 : decode cX6_readSort 15 = .ok (.ifCond .eq 5, 3) := by decide +kernel
theorem dX6_readSort_18 : decode cX6_readSort 18 = .ok (.iload_n 1, 1) := by decide +kernel
theorem dX6_readSort_19 : decode cX6_readSort 19 = .ok (.ireturn, 1) := by decide +kernel
theorem dX6_readSort_20 : decode cX6_readSort 20 = .ok (.iinc 1 1, 3) := by decide +kernel
theorem dX6_readSort_23 : decode cX6_readSort 23 = .ok (.goto (-21), 3) := by decide +kernel
theorem dX6_readSort_26 : decode cX6_readSort 26 = .ok (.aload_n 0, 1) := by decide +kernel
theorem dX6_readSort_27 : decode cX6_readSort 27 = .ok (.invokevirtual 33, 3) := by decide +kernel
theorem dX6_readSort_30 : decode cX6_readSort 30 = .ok (.iconst 0, 1) := by decide +kernel
theorem dX6_readSort_31 : decode cX6_readSort 31 = .ok (.ireturn, 1) := by decide +kernel
theorem dX6_readNumber_0 : decode cX6_readNumber 0 = .ok (.iconst 0, 1) := by decide +kernel
theorem dX6_readNumber_1 : decode cX6_readNumber 1 = .ok (.istore_n 1, 1) := by decide +kernel
theorem dX6_readNumber_2 : decode cX6_readNumber 2 = .ok (.iconst 0, 1) := by decide +kernel
theorem dX6_readNumber_3 : decode cX6_readNumber 3 = .ok (.istore_n 2, 1) := by decide +kernel
theorem dX6_readNumber_4 : decode cX6_readNumber 4 = .ok (.iload_n 2, 1) := by decide +kernel
theorem dX6_readNumber_5 : decode cX6_readNumber 5 = .ok (.iconst 4, 1) := by decide +kernel
theorem dX6_readNumber_6 : decode cX6_readNumber 6 = .ok (.if_icmp .ge 44, 3) := by decide +kernel
theorem dX6_readNumber_9 : decode cX6_readNumber 9 = .ok (.aload_n 0, 1) := by decide +kernel
theorem dX6_readNumber_10 : decode cX6_readNumber 10 = .ok (.invokevirtual 126, 3) := by decide +kernel
theorem dX6_readNumber_13 : decode cX6_readNumber 13 = .ok (.ifCond .eq 37, 3) := by decide +kernel
theorem dX6_readNumber_16 : decode cX6_readNumber 16 = .ok (.bipush 10, 2) := by decide +kernel
theorem dX6_readNumber_18 : decode cX6_readNumber 18 = .ok (.iload_n 1, 1) := by decide +kernel
theorem dX6_readNumber_19 : decode cX6_readNumber 19 = .ok (.imul, 1) := by decide +kernel
theorem dX6_readNumber_20 : decode cX6_readNumber 20 = .ok (.aload_n 0, 1) := by decide +kernel
theorem dX6_readNumber_21 : decode cX6_readNumber 21 = .ok (.getfield 9, 3) := by decide +kernel
theorem dX6_readNumber_24 : decode cX6_readNumber 24 = .ok (.aload_n 0, 1) := by decide +kernel
theorem dX6_readNumber_25 : decode cX6_readNumber 25 = .ok (.getfield 19, 3) := by decide +kernel
theorem dX6_readNumber_28 : decode cX6_readNumber 28 = .ok (.iaload, 1) := by decide +kernel
theorem dX6_readNumber_29 : decode cX6_readNumber 29 = .ok (.iadd, 1) := by decide +kernel
theorem dX6_readNumber_30 : decode cX6_readNumber 30 = .ok (.bipush 48, 2) := by decide +kernel
theorem dX6_readNumber_32 : decode cX6_readNumber 32 = .ok (.isub, 1) := by decide +kernel
theorem dX6_readNumber_33 : decode cX6_readNumber 33 = .ok (.istore_n 1, 1) := by decide +kernel
theorem dX6_readNumber_34 : decode cX6_readNumber 34 = .ok (.aload_n 0, 1) := by decide +kernel
theorem dX6_readNumber_35 : decode cX6_readNumber 35 = .ok (.dup, 1) := by decide +kernel
theorem dX6_readNumber_36 : decode cX6_readNumber 36 = .ok (.getfield 19, 3) := by decide +kernel
theorem dX6_readNumber_39 : decode cX6_readNumber 39 = .ok (.iconst 1, 1) := by decide +kernel
theorem dX6_readNumber_40 : decode cX6_readNumber 40 = .ok (.iadd, 1) := by decide +kernel
theorem dX6_readNumber_41 : decode cX6_readNumber 41 = .ok (.putfield 19, 3) := by decide +kernel
theorem dX6_readNumber_44 : decode cX6_readNumber 44 = .ok (.iinc 2 1, 3) := by decide +kernel
theorem dX6_readNumber_47 : decode cX6_readNumber 47 = .ok (.goto (-43), 3) := by decide +kernel
theorem dX6_readNumber_50 : decode cX6_readNumber 50 = .ok (.iload_n 2, 1) := by decide +kernel
theorem dX6_readNumber_51 : decode cX6_readNumber 51 = .ok (.ifCond .ne 7, 3) := by decide +kernel
theorem dX6_readNumber_54 : decode cX6_readNumber 54 = .ok (.aload_n 0, 1) := by decide +kernel
theorem dX6_readNumber_55 : decode cX6_readNumber 55 = .ok (.invokevirtual 33, 3) := by decide +kernel
theorem dX6_readNumber_58 : decode cX6_readNumber 58 = .ok (.iload_n 1, 1) := by decide +kernel
theorem dX6_readNumber_59 : decode cX6_readNumber 59 = .ok (.ireturn, 1) := by decide +kernel
theorem dX6_isDigitNext_0 : decode cX6_isDigitNext 0 = .ok (.aload_n 0, 1) := by decide +kernel
theorem dX6_isDigitNext_1 : decode cX6_isDigitNext 1 = .ok (.getfield 22, 3) := by decide +kernel
theorem dX6_isDigitNext_4 : decode cX6_isDigitNext 4 = .ok (.ifCond .ge 46, 3) := by decide +kernel
theorem dX6_isDigitNext_7 : decode cX6_isDigitNext 7 = .ok (.aload_n 0, 1) := by decide +kernel
theorem dX6_isDigitNext_8 : decode cX6_isDigitNext 8 = .ok (.getfield 19, 3) := by decide +kernel
theorem dX6_isDigitNext_11 : decode cX6_isDigitNext 11 = .ok (.aload_n 0, 1) := by decide +kernel
theorem dX6_isDigitNext_12 : decode cX6_isDigitNext 12 = .ok (.getfield 15, 3) := by decide +kernel
theorem dX6_isDigitNext_15 : decode cX6_isDigitNext 15 = .ok (.if_icmp .ge 35, 3) := by decide +kernel
theorem dX6_isDigitNext_18 : decode cX6_isDigitNext 18 = .ok (.aload_n 0, 1) := by decide +kernel
theorem dX6_isDigitNext_19 : decode cX6_isDigitNext 19 = .ok (.getfield 9, 3) := by decide +kernel
theorem dX6_isDigitNext_22 : decode cX6_isDigitNext 22 = .ok (.aload_n 0, 1) := by decide +kernel
theorem dX6_isDigitNext_23 : decode cX6_isDigitNext 23 = .ok (.getfield 19, 3) := by decide +kernel
theorem dX6_isDigitNext_26 : decode cX6_isDigitNext 26 = .ok (.iaload, 1) := by decide +kernel
theorem dX6_isDigitNext_27 : decode cX6_isDigitNext 27 = .ok (.bipush 48, 2) := by decide +kernel
theorem dX6_isDigitNext_29 : decode cX6_isDigitNext 29 = .ok (.if_icmp .lt 21, 3) := by decide +kernel
theorem dX6_isDigitNext_32 : decode cX6_isDigitNext 32 = .ok (.aload_n 0, 1) := by decide +kernel
theorem dX6_isDigitNext_33 : decode cX6_isDigitNext 33 = .ok (.getfield 9, 3) := by decide +kernel
theorem dX6_isDigitNext_36 : decode cX6_isDigitNext 36 = .ok (.aload_n 0, 1) := by decide +kernel
theorem dX6_isDigitNext_37 : decode cX6_isDigitNext 37 = .ok (.getfield 19, 3) := by decide +kernel
theorem dX6_isDigitNext_40 : decode cX6_isDigitNext 40 = .ok (.iaload, 1) := by decide +kernel
theorem dX6_isDigitNext_41 : decode cX6_isDigitNext 41 = .ok (.bipush 57, 2) := by decide +kernel
theorem dX6_isDigitNext_43 : decode cX6_isDigitNext 43 = .ok (.if_icmp .gt 7, 3) := by decide +kernel
theorem dX6_isDigitNext_46 : decode cX6_isDigitNext 46 = .ok (.iconst 1, 1) := by decide +kernel
theorem dX6_isDigitNext_47 : decode cX6_isDigitNext 47 = .ok (.goto 4, 3) := by decide +kernel
theorem dX6_isDigitNext_50 : decode cX6_isDigitNext 50 = .ok (.iconst 0, 1) := by decide +kernel
theorem dX6_isDigitNext_51 : decode cX6_isDigitNext 51 = .ok (.ireturn, 1) := by decide +kernel
theorem dX6_takes_0 : decode cX6_takes 0 = .ok (.aload_n 0, 1) := by decide +kernel
theorem dX6_takes_1 : decode cX6_takes 1 = .ok (.getfield 22, 3) := by decide +kernel
theorem dX6_takes_4 : decode cX6_takes 4 = .ok (.ifCond .ge 31, 3) := by decide +kernel
theorem dX6_takes_7 : decode cX6_takes 7 = .ok (.aload_n 0, 1) := by decide +kernel
theorem dX6_takes_8 : decode cX6_takes 8 = .ok (.getfield 19, 3) := by decide +kernel
theorem dX6_takes_11 : decode cX6_takes 11 = .ok (.aload_n 0, 1) := by decide +kernel
theorem dX6_takes_12 : decode cX6_takes 12 = .ok (.getfield 15, 3) := by decide +kernel
theorem dX6_takes_15 : decode cX6_takes 15 = .ok (.if_icmp .ge 20, 3) := by decide +kernel
theorem dX6_takes_18 : decode cX6_takes 18 = .ok (.aload_n 0, 1) := by decide +kernel
theorem dX6_takes_19 : decode cX6_takes 19 = .ok (.getfield 9, 3) := by decide +kernel
theorem dX6_takes_22 : decode cX6_takes 22 = .ok (.aload_n 0, 1) := by decide +kernel
theorem dX6_takes_23 : decode cX6_takes 23 = .ok (.getfield 19, 3) := by decide +kernel
theorem dX6_takes_26 : decode cX6_takes 26 = .ok (.iaload, 1) := by decide +kernel
theorem dX6_takes_27 : decode cX6_takes 27 = .ok (.iload_n 1, 1) := by decide +kernel
theorem dX6_takes_28 : decode cX6_takes 28 = .ok (.if_icmp .ne 7, 3) := by decide +kernel
theorem dX6_takes_31 : decode cX6_takes 31 = .ok (.iconst 1, 1) := by decide +kernel
theorem dX6_takes_32 : decode cX6_takes 32 = .ok (.goto 4, 3) := by decide +kernel
theorem dX6_takes_35 : decode cX6_takes 35 = .ok (.iconst 0, 1) := by decide +kernel
theorem dX6_takes_36 : decode cX6_takes 36 = .ok (.istore_n 2, 1) := by decide +kernel
theorem dX6_takes_37 : decode cX6_takes 37 = .ok (.iload_n 2, 1) := by decide +kernel
theorem dX6_takes_38 : decode cX6_takes 38 = .ok (.ifCond .eq 13, 3) := by decide +kernel
theorem dX6_takes_41 : decode cX6_takes 41 = .ok (.aload_n 0, 1) := by decide +kernel
theorem dX6_takes_42 : decode cX6_takes 42 = .ok (.dup, 1) := by decide +kernel
theorem dX6_takes_43 : decode cX6_takes 43 = .ok (.getfield 19, 3) := by decide +kernel
theorem dX6_takes_46 : decode cX6_takes 46 = .ok (.iconst 1, 1) := by decide +kernel
theorem dX6_takes_47 : decode cX6_takes 47 = .ok (.iadd, 1) := by decide +kernel
theorem dX6_takes_48 : decode cX6_takes 48 = .ok (.putfield 19, 3) := by decide +kernel
theorem dX6_takes_51 : decode cX6_takes 51 = .ok (.iload_n 2, 1) := by decide +kernel
theorem dX6_takes_52 : decode cX6_takes 52 = .ok (.ireturn, 1) := by decide +kernel
theorem dX6_expect_0 : decode cX6_expect 0 = .ok (.iconst 0, 1) := by decide +kernel
theorem dX6_expect_1 : decode cX6_expect 1 = .ok (.istore_n 2, 1) := by decide +kernel
theorem dX6_expect_2 : decode cX6_expect 2 = .ok (.iload_n 2, 1) := by decide +kernel
theorem dX6_expect_3 : decode cX6_expect 3 = .ok (.aload_n 1, 1) := by decide +kernel
theorem dX6_expect_4 : decode cX6_expect 4 = .ok (.invokevirtual 130, 3) := by decide +kernel
theorem dX6_expect_7 : decode cX6_expect 7 = .ok (.if_icmp .ge 25, 3) := by decide +kernel
theorem dX6_expect_10 : decode cX6_expect 10 = .ok (.aload_n 0, 1) := by decide +kernel
theorem dX6_expect_11 : decode cX6_expect 11 = .ok (.aload_n 1, 1) := by decide +kernel
theorem dX6_expect_12 : decode cX6_expect 12 = .ok (.iload_n 2, 1) := by decide +kernel
theorem dX6_expect_13 : decode cX6_expect 13 = .ok (.invokevirtual 134, 3) := by decide +kernel
theorem dX6_expect_16 : decode cX6_expect 16 = .ok (.invokevirtual 29, 3) := by decide +kernel
theorem dX6_expect_19 : decode cX6_expect 19 = .ok (.ifCond .ne 7, 3) := by decide +kernel
theorem dX6_expect_22 : decode cX6_expect 22 = .ok (.aload_n 0, 1) := by decide +kernel
theorem dX6_expect_23 : decode cX6_expect 23 = .ok (.invokevirtual 33, 3) := by decide +kernel
theorem dX6_expect_26 : decode cX6_expect 26 = .ok (.iinc 2 1, 3) := by decide +kernel
theorem dX6_expect_29 : decode cX6_expect 29 = .ok (.goto (-27), 3) := by decide +kernel
theorem dX6_expect_32 : decode cX6_expect 32 = .ok (.return_, 1) := by decide +kernel
theorem dX6_fail_0 : decode cX6_fail 0 = .ok (.aload_n 0, 1) := by decide +kernel
theorem dX6_fail_1 : decode cX6_fail 1 = .ok (.getfield 22, 3) := by decide +kernel
theorem dX6_fail_4 : decode cX6_fail 4 = .ok (.ifCond .ge 11, 3) := by decide +kernel
theorem dX6_fail_7 : decode cX6_fail 7 = .ok (.aload_n 0, 1) := by decide +kernel
theorem dX6_fail_8 : decode cX6_fail 8 = .ok (.aload_n 0, 1) := by decide +kernel
theorem dX6_fail_9 : decode cX6_fail 9 = .ok (.getfield 19, 3) := by decide +kernel
theorem dX6_fail_12 : decode cX6_fail 12 = .ok (.putfield 22, 3) := by decide +kernel
theorem dX6_fail_15 : decode cX6_fail 15 = .ok (.return_, 1) := by decide +kernel
theorem dX7_init_0 : decode cX7_init 0 = .ok (.aload_n 0, 1) := by decide +kernel
theorem dX7_init_1 : decode cX7_init 1 = .ok (.invokespecial 3, 3) := by decide +kernel
theorem dX7_init_4 : decode cX7_init 4 = .ok (.aload_n 0, 1) := by decide +kernel
theorem dX7_init_5 : decode cX7_init 5 = .ok (.iconst (-1), 1) := by decide +kernel
theorem dX7_init_6 : decode cX7_init 6 = .ok (.putfield 9, 3) := by decide +kernel
theorem dX7_init_9 : decode cX7_init 9 = .ok (.aload_n 0, 1) := by decide +kernel
theorem dX7_init_10 : decode cX7_init 10 = .ok (.bipush 64, 2) := by decide +kernel
theorem dX7_init_12 : decode cX7_init 12 = .ok (.newarray .int, 2) := by decide +kernel
theorem dX7_init_14 : decode cX7_init 14 = .ok (.putfield 15, 3) := by decide +kernel
theorem dX7_init_17 : decode cX7_init 17 = .ok (.return_, 1) := by decide +kernel
theorem dX7_isMissing_0 : decode cX7_isMissing 0 = .ok (.aload_n 0, 1) := by decide +kernel
theorem dX7_isMissing_1 : decode cX7_isMissing 1 = .ok (.getfield 9, 3) := by decide +kernel
theorem dX7_isMissing_4 : decode cX7_isMissing 4 = .ok (.ifCond .ge 7, 3) := by decide +kernel
theorem dX7_isMissing_7 : decode cX7_isMissing 7 = .ok (.iconst 1, 1) := by decide +kernel
theorem dX7_isMissing_8 : decode cX7_isMissing 8 = .ok (.goto 4, 3) := by decide +kernel
theorem dX7_isMissing_11 : decode cX7_isMissing 11 = .ok (.iconst 0, 1) := by decide +kernel
theorem dX7_isMissing_12 : decode cX7_isMissing 12 = .ok (.ireturn, 1) := by decide +kernel
theorem dX7_become_0 : decode cX7_become 0 = .ok (.aload_n 0, 1) := by decide +kernel
theorem dX7_become_1 : decode cX7_become 1 = .ok (.iload_n 1, 1) := by decide +kernel
theorem dX7_become_2 : decode cX7_become 2 = .ok (.putfield 9, 3) := by decide +kernel
theorem dX7_become_5 : decode cX7_become 5 = .ok (.aload_n 0, 1) := by decide +kernel
theorem dX7_become_6 : decode cX7_become 6 = .ok (.iload_n 2, 1) := by decide +kernel
theorem dX7_become_7 : decode cX7_become 7 = .ok (.putfield 19, 3) := by decide +kernel
theorem dX7_become_10 : decode cX7_become 10 = .ok (.aload_n 0, 1) := by decide +kernel
theorem dX7_become_11 : decode cX7_become 11 = .ok (.getfield 15, 3) := by decide +kernel
theorem dX7_become_14 : decode cX7_become 14 = .ok (.iconst 0, 1) := by decide +kernel
theorem dX7_become_15 : decode cX7_become 15 = .ok (.invokestatic 22, 3) := by decide +kernel
theorem dX7_become_18 : decode cX7_become 18 = .ok (.return_, 1) := by decide +kernel
theorem dX7_has_0 : decode cX7_has 0 = .ok (.iload_n 1, 1) := by decide +kernel
theorem dX7_has_1 : decode cX7_has 1 = .ok (.ifCond .lt 21, 3) := by decide +kernel
theorem dX7_has_4 : decode cX7_has 4 = .ok (.iload_n 2, 1) := by decide +kernel
theorem dX7_has_5 : decode cX7_has 5 = .ok (.ifCond .lt 17, 3) := by decide +kernel
theorem dX7_has_8 : decode cX7_has 8 = .ok (.iload_n 1, 1) := by decide +kernel
theorem dX7_has_9 : decode cX7_has 9 = .ok (.aload_n 0, 1) := by decide +kernel
theorem dX7_has_10 : decode cX7_has 10 = .ok (.getfield 19, 3) := by decide +kernel
theorem dX7_has_13 : decode cX7_has 13 = .ok (.iload_n 2, 1) := by decide +kernel
theorem dX7_has_14 : decode cX7_has 14 = .ok (.isub, 1) := by decide +kernel
theorem dX7_has_15 : decode cX7_has 15 = .ok (.if_icmp .gt 7, 3) := by decide +kernel
theorem dX7_has_18 : decode cX7_has 18 = .ok (.iconst 1, 1) := by decide +kernel
theorem dX7_has_19 : decode cX7_has 19 = .ok (.goto 4, 3) := by decide +kernel
theorem dX7_has_22 : decode cX7_has 22 = .ok (.iconst 0, 1) := by decide +kernel
theorem dX7_has_23 : decode cX7_has 23 = .ok (.ireturn, 1) := by decide +kernel
theorem dX7_put_0 : decode cX7_put 0 = .ok (.aload_n 0, 1) := by decide +kernel
theorem dX7_put_1 : decode cX7_put 1 = .ok (.getfield 9, 3) := by decide +kernel
theorem dX7_put_4 : decode cX7_put 4 = .ok (.ifCond .ne 14, 3) := by decide +kernel
theorem dX7_put_7 : decode cX7_put 7 = .ok (.aload_n 0, 1) := by decide +kernel
theorem dX7_put_8 : decode cX7_put 8 = .ok (.getfield 15, 3) := by decide +kernel
theorem dX7_put_11 : decode cX7_put 11 = .ok (.iload_n 1, 1) := by decide +kernel
theorem dX7_put_12 : decode cX7_put 12 = .ok (.iload_n 2, 1) := by decide +kernel
theorem dX7_put_13 : decode cX7_put 13 = .ok (.i2b, 1) := by decide +kernel
theorem dX7_put_14 : decode cX7_put 14 = .ok (.iastore, 1) := by decide +kernel
theorem dX7_put_15 : decode cX7_put 15 = .ok (.goto 29, 3) := by decide +kernel
theorem dX7_put_18 : decode cX7_put 18 = .ok (.aload_n 0, 1) := by decide +kernel
theorem dX7_put_19 : decode cX7_put 19 = .ok (.getfield 9, 3) := by decide +kernel
theorem dX7_put_22 : decode cX7_put 22 = .ok (.iconst 1, 1) := by decide +kernel
theorem dX7_put_23 : decode cX7_put 23 = .ok (.if_icmp .ne 14, 3) := by decide +kernel
theorem dX7_put_26 : decode cX7_put 26 = .ok (.aload_n 0, 1) := by decide +kernel
theorem dX7_put_27 : decode cX7_put 27 = .ok (.getfield 15, 3) := by decide +kernel
theorem dX7_put_30 : decode cX7_put 30 = .ok (.iload_n 1, 1) := by decide +kernel
theorem dX7_put_31 : decode cX7_put 31 = .ok (.iload_n 2, 1) := by decide +kernel
theorem dX7_put_32 : decode cX7_put 32 = .ok (.i2s, 1) := by decide +kernel
theorem dX7_put_33 : decode cX7_put 33 = .ok (.iastore, 1) := by decide +kernel
theorem dX7_put_34 : decode cX7_put 34 = .ok (.goto 10, 3) := by decide +kernel
theorem dX7_put_37 : decode cX7_put 37 = .ok (.aload_n 0, 1) := by decide +kernel
theorem dX7_put_38 : decode cX7_put 38 = .ok (.getfield 15, 3) := by decide +kernel
theorem dX7_put_41 : decode cX7_put 41 = .ok (.iload_n 1, 1) := by decide +kernel
theorem dX7_put_42 : decode cX7_put 42 = .ok (.iload_n 2, 1) := by decide +kernel
theorem dX7_put_43 : decode cX7_put 43 = .ok (.iastore, 1) := by decide +kernel
theorem dX7_put_44 : decode cX7_put 44 = .ok (.return_, 1) := by decide +kernel
theorem dX8_init_0 : decode cX8_init 0 = .ok (.aload_n 0, 1) := by decide +kernel
theorem dX8_init_1 : decode cX8_init 1 = .ok (.invokespecial 3, 3) := by decide +kernel
theorem dX8_init_4 : decode cX8_init 4 = .ok (.aload_n 0, 1) := by decide +kernel
theorem dX8_init_5 : decode cX8_init 5 = .ok (.iconst 0, 1) := by decide +kernel
theorem dX8_init_6 : decode cX8_init 6 = .ok (.putfield 9, 3) := by decide +kernel
theorem dX8_init_9 : decode cX8_init 9 = .ok (.aload_n 0, 1) := by decide +kernel
theorem dX8_init_10 : decode cX8_init 10 = .ok (.iconst (-1), 1) := by decide +kernel
theorem dX8_init_11 : decode cX8_init 11 = .ok (.putfield 15, 3) := by decide +kernel
theorem dX8_init_14 : decode cX8_init 14 = .ok (.aload_n 0, 1) := by decide +kernel
theorem dX8_init_15 : decode cX8_init 15 = .ok (.iconst (-1), 1) := by decide +kernel
theorem dX8_init_16 : decode cX8_init 16 = .ok (.putfield 18, 3) := by decide +kernel
theorem dX8_init_19 : decode cX8_init 19 = .ok (.aload_n 0, 1) := by decide +kernel
theorem dX8_init_20 : decode cX8_init 20 = .ok (.iconst 4, 1) := by decide +kernel
theorem dX8_init_21 : decode cX8_init 21 = .ok (.newarray .int, 2) := by decide +kernel
theorem dX8_init_23 : decode cX8_init 23 = .ok (.putfield 21, 3) := by decide +kernel
theorem dX8_init_26 : decode cX8_init 26 = .ok (.aload_n 0, 1) := by decide +kernel
theorem dX8_init_27 : decode cX8_init 27 = .ok (.bipush 20, 2) := by decide +kernel
theorem dX8_init_29 : decode cX8_init 29 = .ok (.newarray .int, 2) := by decide +kernel
theorem dX8_init_31 : decode cX8_init 31 = .ok (.putfield 25, 3) := by decide +kernel
theorem dX8_init_34 : decode cX8_init 34 = .ok (.aload_n 0, 1) := by decide +kernel
theorem dX8_init_35 : decode cX8_init 35 = .ok (.sipush 150, 3) := by decide +kernel
theorem dX8_init_38 : decode cX8_init 38 = .ok (.newarray .int, 2) := by decide +kernel
theorem dX8_init_40 : decode cX8_init 40 = .ok (.putfield 28, 3) := by decide +kernel
theorem dX8_init_43 : decode cX8_init 43 = .ok (.aload_n 0, 1) := by decide +kernel
theorem dX8_init_44 : decode cX8_init 44 = .ok (.iload_n 1, 1) := by decide +kernel
theorem dX8_init_45 : decode cX8_init 45 = .ok (.putfield 31, 3) := by decide +kernel
theorem dX8_init_48 : decode cX8_init 48 = .ok (.aload_n 0, 1) := by decide +kernel
theorem dX8_init_49 : decode cX8_init 49 = .ok (.iload_n 2, 1) := by decide +kernel
theorem dX8_init_50 : decode cX8_init 50 = .ok (.putfield 34, 3) := by decide +kernel
theorem dX8_init_53 : decode cX8_init 53 = .ok (.aload_n 0, 1) := by decide +kernel
theorem dX8_init_54 : decode cX8_init 54 = .ok (.iload_n 3, 1) := by decide +kernel
theorem dX8_init_55 : decode cX8_init 55 = .ok (.putfield 37, 3) := by decide +kernel
theorem dX8_init_58 : decode cX8_init 58 = .ok (.return_, 1) := by decide +kernel
theorem dX8_freeTons_0 : decode cX8_freeTons 0 = .ok (.aload_n 0, 1) := by decide +kernel
theorem dX8_freeTons_1 : decode cX8_freeTons 1 = .ok (.getfield 37, 3) := by decide +kernel
theorem dX8_freeTons_4 : decode cX8_freeTons 4 = .ok (.aload_n 0, 1) := by decide +kernel
theorem dX8_freeTons_5 : decode cX8_freeTons 5 = .ok (.getfield 21, 3) := by decide +kernel
theorem dX8_freeTons_8 : decode cX8_freeTons 8 = .ok (.invokestatic 40, 3) := by decide +kernel
theorem dX8_freeTons_11 : decode cX8_freeTons 11 = .ok (.isub, 1) := by decide +kernel
theorem dX8_freeTons_12 : decode cX8_freeTons 12 = .ok (.aload_n 0, 1) := by decide +kernel
theorem dX8_freeTons_13 : decode cX8_freeTons 13 = .ok (.getfield 25, 3) := by decide +kernel
theorem dX8_freeTons_16 : decode cX8_freeTons 16 = .ok (.invokestatic 40, 3) := by decide +kernel
theorem dX8_freeTons_19 : decode cX8_freeTons 19 = .ok (.isub, 1) := by decide +kernel
theorem dX8_freeTons_20 : decode cX8_freeTons 20 = .ok (.ireturn, 1) := by decide +kernel
theorem dX8_clearHold_0 : decode cX8_clearHold 0 = .ok (.aload_n 0, 1) := by decide +kernel
theorem dX8_clearHold_1 : decode cX8_clearHold 1 = .ok (.iconst 0, 1) := by decide +kernel
theorem dX8_clearHold_2 : decode cX8_clearHold 2 = .ok (.putfield 44, 3) := by decide +kernel
theorem dX8_clearHold_5 : decode cX8_clearHold 5 = .ok (.aload_n 0, 1) := by decide +kernel
theorem dX8_clearHold_6 : decode cX8_clearHold 6 = .ok (.getfield 21, 3) := by decide +kernel
theorem dX8_clearHold_9 : decode cX8_clearHold 9 = .ok (.iconst 0, 1) := by decide +kernel
theorem dX8_clearHold_10 : decode cX8_clearHold 10 = .ok (.invokestatic 47, 3) := by decide +kernel
theorem dX8_clearHold_13 : decode cX8_clearHold 13 = .ok (.aload_n 0, 1) := by decide +kernel
theorem dX8_clearHold_14 : decode cX8_clearHold 14 = .ok (.getfield 25, 3) := by decide +kernel
theorem dX8_clearHold_17 : decode cX8_clearHold 17 = .ok (.iconst 0, 1) := by decide +kernel
theorem dX8_clearHold_18 : decode cX8_clearHold 18 = .ok (.invokestatic 47, 3) := by decide +kernel
theorem dX8_clearHold_21 : decode cX8_clearHold 21 = .ok (.return_, 1) := by decide +kernel
theorem dX9_init_0 : decode cX9_init 0 = .ok (.aload_n 0, 1) := by decide +kernel
theorem dX9_init_1 : decode cX9_init 1 = .ok (.invokespecial 1, 3) := by decide +kernel
theorem dX9_init_4 : decode cX9_init 4 = .ok (.aload_n 0, 1) := by decide +kernel
theorem dX9_init_5 : decode cX9_init 5 = .ok (.iload_n 1, 1) := by decide +kernel
theorem dX9_init_6 : decode cX9_init 6 = .ok (.putfield 7, 3) := by decide +kernel
theorem dX9_init_9 : decode cX9_init 9 = .ok (.aload_n 0, 1) := by decide +kernel
theorem dX9_init_10 : decode cX9_init 10 = .ok (.iload_n 2, 1) := by decide +kernel
theorem dX9_init_11 : decode cX9_init 11 = .ok (.putfield 13, 3) := by decide +kernel
theorem dX9_init_14 : decode cX9_init 14 = .ok (.aload_n 0, 1) := by decide +kernel
theorem dX9_init_15 : decode cX9_init 15 = .ok (.iload_n 3, 1) := by decide +kernel
theorem dX9_init_16 : decode cX9_init 16 = .ok (.putfield 16, 3) := by decide +kernel
theorem dX9_init_19 : decode cX9_init 19 = .ok (.aload_n 0, 1) := by decide +kernel
theorem dX9_init_20 : decode cX9_init 20 = .ok (.iload 4, 2) := by decide +kernel
theorem dX9_init_22 : decode cX9_init 22 = .ok (.putfield 20, 3) := by decide +kernel
theorem dX9_init_25 : decode cX9_init 25 = .ok (.aload_n 0, 1) := by decide +kernel
theorem dX9_init_26 : decode cX9_init 26 = .ok (.iload 5, 2) := by decide +kernel
theorem dX9_init_28 : decode cX9_init 28 = .ok (.putfield 23, 3) := by decide +kernel
theorem dX9_init_31 : decode cX9_init 31 = .ok (.aload_n 0, 1) := by decide +kernel
theorem dX9_init_32 : decode cX9_init 32 = .ok (.iload 6, 2) := by decide +kernel
theorem dX9_init_34 : decode cX9_init 34 = .ok (.putfield 26, 3) := by decide +kernel
theorem dX9_init_37 : decode cX9_init 37 = .ok (.return_, 1) := by decide +kernel
theorem dX9_isMetBy_0 : decode cX9_isMetBy 0 = .ok (.aload_n 0, 1) := by decide +kernel
theorem dX9_isMetBy_1 : decode cX9_isMetBy 1 = .ok (.getfield 23, 3) := by decide +kernel
theorem dX9_isMetBy_4 : decode cX9_isMetBy 4 = .ok (.ifCond .ge 19, 3) := by decide +kernel
theorem dX9_isMetBy_7 : decode cX9_isMetBy 7 = .ok (.iload_n 1, 1) := by decide +kernel
theorem dX9_isMetBy_8 : decode cX9_isMetBy 8 = .ok (.aload_n 0, 1) := by decide +kernel
theorem dX9_isMetBy_9 : decode cX9_isMetBy 9 = .ok (.getfield 26, 3) := by decide +kernel
theorem dX9_isMetBy_12 : decode cX9_isMetBy 12 = .ok (.if_icmp .ge 7, 3) := by decide +kernel
theorem dX9_isMetBy_15 : decode cX9_isMetBy 15 = .ok (.iconst 1, 1) := by decide +kernel
theorem dX9_isMetBy_16 : decode cX9_isMetBy 16 = .ok (.goto 43, 3) := by decide +kernel
theorem dX9_isMetBy_19 : decode cX9_isMetBy 19 = .ok (.iconst 0, 1) := by decide +kernel
theorem dX9_isMetBy_20 : decode cX9_isMetBy 20 = .ok (.goto 39, 3) := by decide +kernel
theorem dX9_isMetBy_23 : decode cX9_isMetBy 23 = .ok (.aload_n 0, 1) := by decide +kernel
theorem dX9_isMetBy_24 : decode cX9_isMetBy 24 = .ok (.getfield 23, 3) := by decide +kernel
theorem dX9_isMetBy_27 : decode cX9_isMetBy 27 = .ok (.ifCond .le 19, 3) := by decide +kernel
theorem dX9_isMetBy_30 : decode cX9_isMetBy 30 = .ok (.iload_n 1, 1) := by decide +kernel
theorem dX9_isMetBy_31 : decode cX9_isMetBy 31 = .ok (.aload_n 0, 1) := by decide +kernel
theorem dX9_isMetBy_32 : decode cX9_isMetBy 32 = .ok (.getfield 26, 3) := by decide +kernel
theorem dX9_isMetBy_35 : decode cX9_isMetBy 35 = .ok (.if_icmp .le 7, 3) := by decide +kernel
theorem dX9_isMetBy_38 : decode cX9_isMetBy 38 = .ok (.iconst 1, 1) := by decide +kernel
theorem dX9_isMetBy_39 : decode cX9_isMetBy 39 = .ok (.goto 20, 3) := by decide +kernel
theorem dX9_isMetBy_42 : decode cX9_isMetBy 42 = .ok (.iconst 0, 1) := by decide +kernel
theorem dX9_isMetBy_43 : decode cX9_isMetBy 43 = .ok (.goto 16, 3) := by decide +kernel
theorem dX9_isMetBy_46 : decode cX9_isMetBy 46 = .ok (.iload_n 1, 1) := by decide +kernel
theorem dX9_isMetBy_47 : decode cX9_isMetBy 47 = .ok (.aload_n 0, 1) := by decide +kernel
theorem dX9_isMetBy_48 : decode cX9_isMetBy 48 = .ok (.getfield 26, 3) := by decide +kernel
theorem dX9_isMetBy_51 : decode cX9_isMetBy 51 = .ok (.if_icmp .ne 7, 3) := by decide +kernel
theorem dX9_isMetBy_54 : decode cX9_isMetBy 54 = .ok (.iconst 1, 1) := by decide +kernel
theorem dX9_isMetBy_55 : decode cX9_isMetBy 55 = .ok (.goto 4, 3) := by decide +kernel
theorem dX9_isMetBy_58 : decode cX9_isMetBy 58 = .ok (.iconst 0, 1) := by decide +kernel
theorem dX9_isMetBy_59 : decode cX9_isMetBy 59 = .ok (.istore_n 2, 1) := by decide +kernel
theorem dX9_isMetBy_60 : decode cX9_isMetBy 60 = .ok (.iload_n 2, 1) := by decide +kernel
theorem dX9_isMetBy_61 : decode cX9_isMetBy 61 = .ok (.aload_n 0, 1) := by decide +kernel
theorem dX9_isMetBy_62 : decode cX9_isMetBy 62 = .ok (.getfield 13, 3) := by decide +kernel
theorem dX9_isMetBy_65 : decode cX9_isMetBy 65 = .ok (.if_icmp .eq 7, 3) := by decide +kernel
theorem dX9_isMetBy_68 : decode cX9_isMetBy 68 = .ok (.iconst 1, 1) := by decide +kernel
theorem dX9_isMetBy_69 : decode cX9_isMetBy 69 = .ok (.goto 4, 3) := by decide +kernel
theorem dX9_isMetBy_72 : decode cX9_isMetBy 72 = .ok (.iconst 0, 1) := by decide +kernel
theorem dX9_isMetBy_73 : decode cX9_isMetBy 73 = .ok (.ireturn, 1) := by decide +kernel
theorem dX10_init_0 : decode cX10_init 0 = .ok (.aload_n 0, 1) := by decide +kernel
theorem dX10_init_1 : decode cX10_init 1 = .ok (.invokespecial 3, 3) := by decide +kernel
theorem dX10_init_4 : decode cX10_init 4 = .ok (.aload_n 0, 1) := by decide +kernel
theorem dX10_init_5 : decode cX10_init 5 = .ok (.iconst 0, 1) := by decide +kernel
theorem dX10_init_6 : decode cX10_init 6 = .ok (.putfield 9, 3) := by decide +kernel
theorem dX10_init_9 : decode cX10_init 9 = .ok (.aload_n 0, 1) := by decide +kernel
theorem dX10_init_10 : decode cX10_init 10 = .ok (.iconst (-1), 1) := by decide +kernel
theorem dX10_init_11 : decode cX10_init 11 = .ok (.putfield 15, 3) := by decide +kernel
theorem dX10_init_14 : decode cX10_init 14 = .ok (.aload_n 0, 1) := by decide +kernel
theorem dX10_init_15 : decode cX10_init 15 = .ok (.iload_n 1, 1) := by decide +kernel
theorem dX10_init_16 : decode cX10_init 16 = .ok (.putfield 18, 3) := by decide +kernel
theorem dX10_init_19 : decode cX10_init 19 = .ok (.aload_n 0, 1) := by decide +kernel
theorem dX10_init_20 : decode cX10_init 20 = .ok (.aload_n 2, 1) := by decide +kernel
theorem dX10_init_21 : decode cX10_init 21 = .ok (.getfield 21, 3) := by decide +kernel
theorem dX10_init_24 : decode cX10_init 24 = .ok (.putfield 24, 3) := by decide +kernel
theorem dX10_init_27 : decode cX10_init 27 = .ok (.aload_n 0, 1) := by decide +kernel
theorem dX10_init_28 : decode cX10_init 28 = .ok (.aload_n 2, 1) := by decide +kernel
theorem dX10_init_29 : decode cX10_init 29 = .ok (.getfield 27, 3) := by decide +kernel
theorem dX10_init_32 : decode cX10_init 32 = .ok (.putfield 30, 3) := by decide +kernel
theorem dX10_init_35 : decode cX10_init 35 = .ok (.aload_n 0, 1) := by decide +kernel
theorem dX10_init_36 : decode cX10_init 36 = .ok (.iload_n 3, 1) := by decide +kernel
theorem dX10_init_37 : decode cX10_init 37 = .ok (.putfield 33, 3) := by decide +kernel
theorem dX10_init_40 : decode cX10_init 40 = .ok (.aload_n 0, 1) := by decide +kernel
theorem dX10_init_41 : decode cX10_init 41 = .ok (.iload 4, 2) := by decide +kernel
theorem dX10_init_43 : decode cX10_init 43 = .ok (.putfield 36, 3) := by decide +kernel
theorem dX10_init_46 : decode cX10_init 46 = .ok (.aload_n 0, 1) := by decide +kernel
theorem dX10_init_47 : decode cX10_init 47 = .ok (.iload 5, 2) := by decide +kernel
theorem dX10_init_49 : decode cX10_init 49 = .ok (.putfield 39, 3) := by decide +kernel
theorem dX10_init_52 : decode cX10_init 52 = .ok (.aload_n 0, 1) := by decide +kernel
theorem dX10_init_53 : decode cX10_init 53 = .ok (.aload_n 2, 1) := by decide +kernel
theorem dX10_init_54 : decode cX10_init 54 = .ok (.getfield 42, 3) := by decide +kernel
theorem dX10_init_57 : decode cX10_init 57 = .ok (.invokevirtual 46, 3) := by decide +kernel
theorem dX10_init_60 : decode cX10_init 60 = .ok (.checkcast 47, 3) := by decide +kernel
theorem dX10_init_63 : decode cX10_init 63 = .ok (.putfield 51, 3) := by decide +kernel
theorem dX10_init_66 : decode cX10_init 66 = .ok (.aload_n 0, 1) := by decide +kernel
theorem dX10_init_67 : decode cX10_init 67 = .ok (.aload_n 2, 1) := by decide +kernel
theorem dX10_init_68 : decode cX10_init 68 = .ok (.getfield 42, 3) := by decide +kernel
theorem dX10_init_71 : decode cX10_init 71 = .ok (.invokevirtual 46, 3) := by decide +kernel
theorem dX10_init_74 : decode cX10_init 74 = .ok (.checkcast 47, 3) := by decide +kernel
theorem dX10_init_77 : decode cX10_init 77 = .ok (.putfield 52, 3) := by decide +kernel
theorem dX10_init_80 : decode cX10_init 80 = .ok (.return_, 1) := by decide +kernel
theorem dX10_joined_0 : decode cX10_joined 0 = .ok (.aload_n 0, 1) := by decide +kernel
theorem dX10_joined_1 : decode cX10_joined 1 = .ok (.getfield 30, 3) := by decide +kernel
theorem dX10_joined_4 : decode cX10_joined 4 = .ok (.ifCond .ne 5, 3) := by decide +kernel
theorem dX10_joined_7 : decode cX10_joined 7 = .ok (.iconst (-1), 1) := by decide +kernel
theorem dX10_joined_8 : decode cX10_joined 8 = .ok (.ireturn, 1) := by decide +kernel
theorem dX10_joined_9 : decode cX10_joined 9 = .ok (.aload_n 0, 1) := by decide +kernel
theorem dX10_joined_10 : decode cX10_joined 10 = .ok (.getfield 9, 3) := by decide +kernel
theorem dX10_joined_13 : decode cX10_joined 13 = .ok (.iconst 1, 1) := by decide +kernel
theorem dX10_joined_14 : decode cX10_joined 14 = .ok (.if_icmp .eq 16, 3) := by decide +kernel
theorem dX10_joined_17 : decode cX10_joined 17 = .ok (.aload_n 0, 1) := by decide +kernel
theorem dX10_joined_18 : decode cX10_joined 18 = .ok (.getfield 9, 3) := by decide +kernel
theorem dX10_joined_21 : decode cX10_joined 21 = .ok (.ifCond .ne 7, 3) := by decide +kernel
theorem dX10_joined_24 : decode cX10_joined 24 = .ok (.iconst 1, 1) := by decide +kernel
theorem dX10_joined_25 : decode cX10_joined 25 = .ok (.goto 4, 3) := by decide +kernel
theorem dX10_joined_28 : decode cX10_joined 28 = .ok (.iconst 2, 1) := by decide +kernel
theorem dX10_joined_29 : decode cX10_joined 29 = .ok (.ireturn, 1) := by decide +kernel
theorem dX10_joined_30 : decode cX10_joined 30 = .ok (.iconst 0, 1) := by decide +kernel
theorem dX10_joined_31 : decode cX10_joined 31 = .ok (.istore_n 1, 1) := by decide +kernel
theorem dX10_joined_32 : decode cX10_joined 32 = .ok (.iload_n 1, 1) := by decide +kernel
theorem dX10_joined_33 : decode cX10_joined 33 = .ok (.iconst 4, 1) := by decide +kernel
theorem dX10_joined_34 : decode cX10_joined 34 = .ok (.if_icmp .ge 26, 3) := by decide +kernel
theorem dX10_joined_37 : decode cX10_joined 37 = .ok (.aload_n 0, 1) := by decide +kernel
theorem dX10_joined_38 : decode cX10_joined 38 = .ok (.getfield 51, 3) := by decide +kernel
theorem dX10_joined_41 : decode cX10_joined 41 = .ok (.iload_n 1, 1) := by decide +kernel
theorem dX10_joined_42 : decode cX10_joined 42 = .ok (.iaload, 1) := by decide +kernel
theorem dX10_joined_43 : decode cX10_joined 43 = .ok (.aload_n 0, 1) := by decide +kernel
theorem dX10_joined_44 : decode cX10_joined 44 = .ok (.getfield 52, 3) := by decide +kernel
theorem dX10_joined_47 : decode cX10_joined 47 = .ok (.iload_n 1, 1) := by decide +kernel
theorem dX10_joined_48 : decode cX10_joined 48 = .ok (.iaload, 1) := by decide +kernel
theorem dX10_joined_49 : decode cX10_joined 49 = .ok (.if_icmp .eq 5, 3) := by decide +kernel
theorem dX10_joined_52 : decode cX10_joined 52 = .ok (.iconst 3, 1) := by decide +kernel
theorem dX10_joined_53 : decode cX10_joined 53 = .ok (.ireturn, 1) := by decide +kernel
theorem dX10_joined_54 : decode cX10_joined 54 = .ok (.iinc 1 1, 3) := by decide +kernel
theorem dX10_joined_57 : decode cX10_joined 57 = .ok (.goto (-25), 3) := by decide +kernel
theorem dX10_joined_60 : decode cX10_joined 60 = .ok (.iconst 0, 1) := by decide +kernel
theorem dX10_joined_61 : decode cX10_joined 61 = .ok (.ireturn, 1) := by decide +kernel
