theorem wm_140 : Cond.fieldLink RX6 121 "NoticeMarketModel" "next" "[I" ∈ lw_B := lb_3 197 (by decide +kernel) rfl
theorem wm_141 : Cond.fieldLink RX6 109 "NoticeMarketModel" "upTo" "[J" ∈ lw_B := lb_3 190 (by decide +kernel) rfl
theorem wm_142 : Cond.fieldLink RX6 112 "NoticeMarketModel" "filledTo" "[I" ∈ lw_B := lb_3 191 (by decide +kernel) rfl
theorem wm_143 : Cond.methodLink RX6 223 yX6_fits ∈ lw_B := lb_4 193 (by decide +kernel) rfl
theorem wm_144 : Cond.instanceMethod yX6_fits ∈ lw_B := lb_4 195 (by decide +kernel) rfl
theorem wm_145 : Cond.selects RX6 yX6_fits yX6_fits ∈ lw_B := lb_0 46 (by decide +kernel) rfl
theorem wm_146 : Cond.code yX6_fits cX6_fits 6 (some .boolean) ∈ lw_B := lb_4 196 (by decide +kernel) rfl
theorem wm_147 : Cond.fieldLink RX6 212 "NoticeMarketModel" "hasBest" "Z" ∈ lw_B := lb_3 194 (by decide +kernel) rfl
theorem wm_148 : Cond.fieldLink RX6 216 "NoticeMarketModel" "bestSum" "J" ∈ lw_B := lb_3 192 (by decide +kernel) rfl
theorem wm_149 : Cond.fieldLink RX6 220 "NoticeMarketModel" "bestFilled" "I" ∈ lw_B := lb_3 193 (by decide +kernel) rfl
theorem wm_150 : Cond.fieldLink RX6 115 "NoticeMarketModel" "given" "[I" ∈ lw_B := lb_3 195 (by decide +kernel) rfl
theorem dX6_go_0 : decode cX6_go 0 = .ok (.iconst 0, 1) := by decide +kernel
theorem dX6_go_1 : decode cX6_go 1 = .ok (.istore_n 3, 1) := by decide +kernel
theorem dX6_go_2 : decode cX6_go 2 = .ok (.aload_n 0, 1) := by decide +kernel
theorem dX6_go_3 : decode cX6_go 3 = .ok (.getfield 121, 3) := by decide +kernel
theorem dX6_go_6 : decode cX6_go 6 = .ok (.iconst 0, 1) := by decide +kernel
theorem dX6_go_7 : decode cX6_go 7 = .ok (.iconst 0, 1) := by decide +kernel
theorem dX6_go_8 : decode cX6_go 8 = .ok (.iastore, 1) := by decide +kernel
theorem dX6_go_9 : decode cX6_go 9 = .ok (.aload_n 0, 1) := by decide +kernel
theorem dX6_go_10 : decode cX6_go 10 = .ok (.getfield 109, 3) := by decide +kernel
theorem dX6_go_13 : decode cX6_go 13 = .ok (.iconst 0, 1) := by decide +kernel
theorem dX6_go_14 : decode cX6_go 14 = .ok (.lconst 0, 1) := by decide +kernel
theorem dX6_go_15 : decode cX6_go 15 = .ok (.lastore, 1) := by decide +kernel
theorem dX6_go_16 : decode cX6_go 16 = .ok (.aload_n 0, 1) := by decide +kernel
theorem dX6_go_17 : decode cX6_go 17 = .ok (.getfield 112, 3) := by decide +kernel
theorem dX6_go_20 : decode cX6_go 20 = .ok (.iconst 0, 1) := by decide +kernel
theorem dX6_go_21 : decode cX6_go 21 = .ok (.iconst 0, 1) := by decide +kernel
theorem dX6_go_22 : decode cX6_go 22 = .ok (.iastore, 1) := by decide +kernel
theorem dX6_go_23 : decode cX6_go 23 = .ok (.iload_n 3, 1) := by decide +kernel
theorem dX6_go_24 : decode cX6_go 24 = .ok (.ifCond .lt 470, 3) := by decide +kernel
theorem dX6_go_27 : decode cX6_go 27 = .ok (.iload_n 3, 1) := by decide +kernel
theorem dX6_go_28 : decode cX6_go 28 = .ok (.aload_n 0, 1) := by decide +kernel
theorem dX6_go_29 : decode cX6_go 29 = .ok (.getfield 201, 3) := by decide +kernel
theorem dX6_go_32 : decode cX6_go 32 = .ok (.if_icmp .ne 186, 3) := by decide +kernel
theorem dX6_go_35 : decode cX6_go 35 = .ok (.aload_n 0, 1) := by decide +kernel
theorem dX6_go_36 : decode cX6_go 36 = .ok (.getfield 212, 3) := by decide +kernel
theorem dX6_go_39 : decode cX6_go 39 = .ok (.ifCond .eq 44, 3) := by decide +kernel
theorem dX6_go_42 : decode cX6_go 42 = .ok (.aload_n 0, 1) := by decide +kernel
theorem dX6_go_43 : decode cX6_go 43 = .ok (.getfield 109, 3) := by decide +kernel
theorem dX6_go_46 : decode cX6_go 46 = .ok (.iload_n 3, 1) := by decide +kernel
theorem dX6_go_47 : decode cX6_go 47 = .ok (.laload, 1) := by decide +kernel
theorem dX6_go_48 : decode cX6_go 48 = .ok (.aload_n 0, 1) := by decide +kernel
theorem dX6_go_49 : decode cX6_go 49 = .ok (.getfield 216, 3) := by decide +kernel
theorem dX6_go_52 : decode cX6_go 52 = .ok (.lcmp, 1) := by decide +kernel
theorem dX6_go_53 : decode cX6_go 53 = .ok (.ifCond .gt 30, 3) := by decide +kernel
theorem dX6_go_56 : decode cX6_go 56 = .ok (.aload_n 0, 1) := by decide +kernel
theorem dX6_go_57 : decode cX6_go 57 = .ok (.getfield 109, 3) := by decide +kernel
theorem dX6_go_60 : decode cX6_go 60 = .ok (.iload_n 3, 1) := by decide +kernel
theorem dX6_go_61 : decode cX6_go 61 = .ok (.laload, 1) := by decide +kernel
theorem dX6_go_62 : decode cX6_go 62 = .ok (.aload_n 0, 1) := by decide +kernel
theorem dX6_go_63 : decode cX6_go 63 = .ok (.getfield 216, 3) := by decide +kernel
theorem dX6_go_66 : decode cX6_go 66 = .ok (.lcmp, 1) := by decide +kernel
theorem dX6_go_67 : decode cX6_go 67 = .ok (.ifCond .ne 20, 3) := by decide +kernel
theorem dX6_go_70 : decode cX6_go 70 = .ok (.aload_n 0, 1) := by decide +kernel
theorem dX6_go_71 : decode cX6_go 71 = .ok (.getfield 112, 3) := by decide +kernel
theorem dX6_go_74 : decode cX6_go 74 = .ok (.iload_n 3, 1) := by decide +kernel
theorem dX6_go_75 : decode cX6_go 75 = .ok (.iaload, 1) := by decide +kernel
theorem dX6_go_76 : decode cX6_go 76 = .ok (.aload_n 0, 1) := by decide +kernel
theorem dX6_go_77 : decode cX6_go 77 = .ok (.getfield 220, 3) := by decide +kernel
theorem dX6_go_80 : decode cX6_go 80 = .ok (.if_icmp .le 7, 3) := by decide +kernel
theorem dX6_go_83 : decode cX6_go 83 = .ok (.iconst 1, 1) := by decide +kernel
theorem dX6_go_84 : decode cX6_go 84 = .ok (.goto 4, 3) := by decide +kernel
theorem dX6_go_87 : decode cX6_go 87 = .ok (.iconst 0, 1) := by decide +kernel
theorem dX6_go_88 : decode cX6_go 88 = .ok (.istore 4, 2) := by decide +kernel
theorem dX6_go_90 : decode cX6_go 90 = .ok (.iload_n 1, 1) := by decide +kernel
theorem dX6_go_91 : decode cX6_go 91 = .ok (.ifCond .eq 87, 3) := by decide +kernel
theorem dX6_go_94 : decode cX6_go 94 = .ok (.aload_n 0, 1) := by decide +kernel
theorem dX6_go_95 : decode cX6_go 95 = .ok (.getfield 109, 3) := by decide +kernel
theorem dX6_go_98 : decode cX6_go 98 = .ok (.iload_n 3, 1) := by decide +kernel
theorem dX6_go_99 : decode cX6_go 99 = .ok (.laload, 1) := by decide +kernel
theorem dX6_go_100 : decode cX6_go 100 = .ok (.aload_n 0, 1) := by decide +kernel
theorem dX6_go_101 : decode cX6_go 101 = .ok (.getfield 216, 3) := by decide +kernel
theorem dX6_go_104 : decode cX6_go 104 = .ok (.lcmp, 1) := by decide +kernel
theorem dX6_go_105 : decode cX6_go 105 = .ok (.ifCond .ne 73, 3) := by decide +kernel
theorem dX6_go_108 : decode cX6_go 108 = .ok (.aload_n 0, 1) := by decide +kernel
theorem dX6_go_109 : decode cX6_go 109 = .ok (.getfield 112, 3) := by decide +kernel
theorem dX6_go_112 : decode cX6_go 112 = .ok (.iload_n 3, 1) := by decide +kernel
theorem dX6_go_113 : decode cX6_go 113 = .ok (.iaload, 1) := by decide +kernel
theorem dX6_go_114 : decode cX6_go 114 = .ok (.aload_n 0, 1) := by decide +kernel
theorem dX6_go_115 : decode cX6_go 115 = .ok (.getfield 220, 3) := by decide +kernel
theorem dX6_go_118 : decode cX6_go 118 = .ok (.if_icmp .ne 60, 3) := by decide +kernel
theorem dX6_go_121 : decode cX6_go 121 = .ok (.iconst 0, 1) := by decide +kernel
theorem dX6_go_122 : decode cX6_go 122 = .ok (.istore 5, 2) := by decide +kernel
theorem dX6_go_124 : decode cX6_go 124 = .ok (.iload 5, 2) := by decide +kernel
theorem dX6_go_126 : decode cX6_go 126 = .ok (.aload_n 0, 1) := by decide +kernel
theorem dX6_go_127 : decode cX6_go 127 = .ok (.getfield 201, 3) := by decide +kernel
theorem dX6_go_130 : decode cX6_go 130 = .ok (.if_icmp .ge 47, 3) := by decide +kernel
theorem dX6_go_133 : decode cX6_go 133 = .ok (.aload_n 0, 1) := by decide +kernel
theorem dX6_go_134 : decode cX6_go 134 = .ok (.getfield 115, 3) := by decide +kernel
theorem dX6_go_137 : decode cX6_go 137 = .ok (.iload 5, 2) := by decide +kernel
theorem dX6_go_139 : decode cX6_go 139 = .ok (.aload_n 0, 1) := by decide +kernel
theorem dX6_go_140 : decode cX6_go 140 = .ok (.getfield 106, 3) := by decide +kernel
theorem dX6_go_143 : decode cX6_go 143 = .ok (.iload 5, 2) := by decide +kernel
theorem dX6_go_145 : decode cX6_go 145 = .ok (.iaload, 1) := by decide +kernel
theorem dX6_go_146 : decode cX6_go 146 = .ok (.aload_n 0, 1) := by decide +kernel
theorem dX6_go_147 : decode cX6_go 147 = .ok (.getfield 198, 3) := by decide +kernel
theorem dX6_go_150 : decode cX6_go 150 = .ok (.if_icmp .ge 18, 3) := by decide +kernel
theorem dX6_go_153 : decode cX6_go 153 = .ok (.aload_n 0, 1) := by decide +kernel
theorem dX6_go_154 : decode cX6_go 154 = .ok (.getfield 96, 3) := by decide +kernel
theorem dX6_go_157 : decode cX6_go 157 = .ok (.aload_n 0, 1) := by decide +kernel
theorem dX6_go_158 : decode cX6_go 158 = .ok (.getfield 106, 3) := by decide +kernel
theorem dX6_go_161 : decode cX6_go 161 = .ok (.iload 5, 2) := by decide +kernel
theorem dX6_go_163 : decode cX6_go 163 = .ok (.iaload, 1) := by decide +kernel
theorem dX6_go_164 : decode cX6_go 164 = .ok (.iaload, 1) := by decide +kernel
theorem dX6_go_165 : decode cX6_go 165 = .ok (.goto 5, 3) := by decide +kernel
theorem dX6_go_168 : decode cX6_go 168 = .ok (.bipush (-2), 2) := by decide +kernel
theorem dX6_go_170 : decode cX6_go 170 = .ok (.iastore, 1) := by decide +kernel
theorem dX6_go_171 : decode cX6_go 171 = .ok (.iinc 5 1, 3) := by decide +kernel
theorem dX6_go_174 : decode cX6_go 174 = .ok (.goto (-50), 3) := by decide +kernel
theorem dX6_go_177 : decode cX6_go 177 = .ok (.return_, 1) := by decide +kernel
theorem dX6_go_178 : decode cX6_go 178 = .ok (.iload 4, 2) := by decide +kernel
theorem dX6_go_180 : decode cX6_go 180 = .ok (.ifCond .eq 32, 3) := by decide +kernel
theorem dX6_go_183 : decode cX6_go 183 = .ok (.iload_n 1, 1) := by decide +kernel
theorem dX6_go_184 : decode cX6_go 184 = .ok (.ifCond .ne 28, 3) := by decide +kernel
theorem dX6_go_187 : decode cX6_go 187 = .ok (.aload_n 0, 1) := by decide +kernel
theorem dX6_go_188 : decode cX6_go 188 = .ok (.iconst 1, 1) := by decide +kernel
theorem dX6_go_189 : decode cX6_go 189 = .ok (.putfield 212, 3) := by decide +kernel
theorem dX6_go_192 : decode cX6_go 192 = .ok (.aload_n 0, 1) := by decide +kernel
theorem dX6_go_193 : decode cX6_go 193 = .ok (.aload_n 0, 1) := by decide +kernel
theorem dX6_go_194 : decode cX6_go 194 = .ok (.getfield 109, 3) := by decide +kernel
theorem dX6_go_197 : decode cX6_go 197 = .ok (.iload_n 3, 1) := by decide +kernel
theorem dX6_go_198 : decode cX6_go 198 = .ok (.laload, 1) := by decide +kernel
theorem dX6_go_199 : decode cX6_go 199 = .ok (.putfield 216, 3) := by decide +kernel
theorem dX6_go_202 : decode cX6_go 202 = .ok (.aload_n 0, 1) := by decide +kernel
theorem dX6_go_203 : decode cX6_go 203 = .ok (.aload_n 0, 1) := by decide +kernel
theorem dX6_go_204 : decode cX6_go 204 = .ok (.getfield 112, 3) := by decide +kernel
theorem dX6_go_207 : decode cX6_go 207 = .ok (.iload_n 3, 1) := by decide +kernel
theorem dX6_go_208 : decode cX6_go 208 = .ok (.iaload, 1) := by decide +kernel
theorem dX6_go_209 : decode cX6_go 209 = .ok (.putfield 220, 3) := by decide +kernel
theorem dX6_go_212 : decode cX6_go 212 = .ok (.iinc 3 (-1), 3) := by decide +kernel
theorem dX6_go_215 : decode cX6_go 215 = .ok (.goto (-192), 3) := by decide +kernel
theorem dX6_go_218 : decode cX6_go 218 = .ok (.aload_n 0, 1) := by decide +kernel
theorem dX6_go_219 : decode cX6_go 219 = .ok (.getfield 121, 3) := by decide +kernel
theorem dX6_go_222 : decode cX6_go 222 = .ok (.iload_n 3, 1) := by decide +kernel
theorem dX6_go_223 : decode cX6_go 223 = .ok (.iaload, 1) := by decide +kernel
theorem dX6_go_224 : decode cX6_go 224 = .ok (.istore 4, 2) := by decide +kernel
theorem dX6_go_226 : decode cX6_go 226 = .ok (.iload 4, 2) := by decide +kernel
theorem dX6_go_228 : decode cX6_go 228 = .ok (.aload_n 0, 1) := by decide +kernel
theorem dX6_go_229 : decode cX6_go 229 = .ok (.getfield 198, 3) := by decide +kernel
theorem dX6_go_232 : decode cX6_go 232 = .ok (.if_icmp .le 9, 3) := by decide +kernel
theorem dX6_go_235 : decode cX6_go 235 = .ok (.iinc 3 (-1), 3) := by decide +kernel
theorem dX6_go_238 : decode cX6_go 238 = .ok (.goto (-215), 3) := by decide +kernel
theorem dX6_go_241 : decode cX6_go 241 = .ok (.aload_n 0, 1) := by decide +kernel
theorem dX6_go_242 : decode cX6_go 242 = .ok (.getfield 121, 3) := by decide +kernel
theorem dX6_go_245 : decode cX6_go 245 = .ok (.iload_n 3, 1) := by decide +kernel
theorem dX6_go_246 : decode cX6_go 246 = .ok (.dup2, 1) := by decide +kernel
theorem dX6_go_247 : decode cX6_go 247 = .ok (.iaload, 1) := by decide +kernel
theorem dX6_go_248 : decode cX6_go 248 = .ok (.iconst 1, 1) := by decide +kernel
theorem dX6_go_249 : decode cX6_go 249 = .ok (.iadd, 1) := by decide +kernel
theorem dX6_go_250 : decode cX6_go 250 = .ok (.iastore, 1) := by decide +kernel
theorem dX6_go_251 : decode cX6_go 251 = .ok (.iload 4, 2) := by decide +kernel
theorem dX6_go_253 : decode cX6_go 253 = .ok (.aload_n 0, 1) := by decide +kernel
theorem dX6_go_254 : decode cX6_go 254 = .ok (.getfield 198, 3) := by decide +kernel
theorem dX6_go_257 : decode cX6_go 257 = .ok (.if_icmp .ne 10, 3) := by decide +kernel
theorem dX6_go_260 : decode cX6_go 260 = .ok (.aload_n 0, 1) := by decide +kernel
theorem dX6_go_261 : decode cX6_go 261 = .ok (.getfield 198, 3) := by decide +kernel
theorem dX6_go_264 : decode cX6_go 264 = .ok (.goto 19, 3) := by decide +kernel
theorem dX6_go_267 : decode cX6_go 267 = .ok (.iload_n 1, 1) := by decide +kernel
theorem dX6_go_268 : decode cX6_go 268 = .ok (.ifCond .eq 8, 3) := by decide +kernel
theorem dX6_go_271 : decode cX6_go 271 = .ok (.iload 4, 2) := by decide +kernel
theorem dX6_go_273 : decode cX6_go 273 = .ok (.goto 10, 3) := by decide +kernel
theorem dX6_go_276 : decode cX6_go 276 = .ok (.aload_n 0, 1) := by decide +kernel
theorem dX6_go_277 : decode cX6_go 277 = .ok (.getfield 118, 3) := by decide +kernel
theorem dX6_go_280 : decode cX6_go 280 = .ok (.iload 4, 2) := by decide +kernel
theorem dX6_go_282 : decode cX6_go 282 = .ok (.iaload, 1) := by decide +kernel
theorem dX6_go_283 : decode cX6_go 283 = .ok (.istore 5, 2) := by decide +kernel
theorem dX6_go_285 : decode cX6_go 285 = .ok (.iload 5, 2) := by decide +kernel
theorem dX6_go_287 : decode cX6_go 287 = .ok (.aload_n 0, 1) := by decide +kernel
theorem dX6_go_288 : decode cX6_go 288 = .ok (.getfield 198, 3) := by decide +kernel
theorem dX6_go_291 : decode cX6_go 291 = .ok (.if_icmp .ge 17, 3) := by decide +kernel
theorem dX6_go_294 : decode cX6_go 294 = .ok (.aload_n 0, 1) := by decide +kernel
theorem dX6_go_295 : decode cX6_go 295 = .ok (.iload 5, 2) := by decide +kernel
theorem dX6_go_297 : decode cX6_go 297 = .ok (.iload_n 3, 1) := by decide +kernel
theorem dX6_go_298 : decode cX6_go 298 = .ok (.iload_n 2, 1) := by decide +kernel
theorem dX6_go_299 : decode cX6_go 299 = .ok (.invokevirtual 223, 3) := by decide +kernel
theorem dX6_go_302 : decode cX6_go 302 = .ok (.ifCond .ne 6, 3) := by decide +kernel
theorem dX6_go_305 : decode cX6_go 305 = .ok (.goto (-282), 3) := by decide +kernel
theorem dX6_go_308 : decode cX6_go 308 = .ok (.aload_n 0, 1) := by decide +kernel
theorem dX6_go_309 : decode cX6_go 309 = .ok (.getfield 109, 3) := by decide +kernel
theorem dX6_go_312 : decode cX6_go 312 = .ok (.iload_n 3, 1) := by decide +kernel
theorem dX6_go_313 : decode cX6_go 313 = .ok (.laload, 1) := by decide +kernel
theorem dX6_go_314 : decode cX6_go 314 = .ok (.iload 5, 2) := by decide +kernel
theorem dX6_go_316 : decode cX6_go 316 = .ok (.aload_n 0, 1) := by decide +kernel
theorem dX6_go_317 : decode cX6_go 317 = .ok (.getfield 198, 3) := by decide +kernel
theorem dX6_go_320 : decode cX6_go 320 = .ok (.if_icmp .ge 17, 3) := by decide +kernel
theorem dX6_go_323 : decode cX6_go 323 = .ok (.aload_n 0, 1) := by decide +kernel
theorem dX6_go_324 : decode cX6_go 324 = .ok (.getfield 99, 3) := by decide +kernel
theorem dX6_go_327 : decode cX6_go 327 = .ok (.iconst 4, 1) := by decide +kernel
theorem dX6_go_328 : decode cX6_go 328 = .ok (.iload 5, 2) := by decide +kernel
theorem dX6_go_330 : decode cX6_go 330 = .ok (.imul, 1) := by decide +kernel
theorem dX6_go_331 : decode cX6_go 331 = .ok (.iload_n 3, 1) := by decide +kernel
theorem dX6_go_332 : decode cX6_go 332 = .ok (.iadd, 1) := by decide +kernel
theorem dX6_go_333 : decode cX6_go 333 = .ok (.laload, 1) := by decide +kernel
theorem dX6_go_334 : decode cX6_go 334 = .ok (.goto 4, 3) := by decide +kernel
theorem dX6_go_337 : decode cX6_go 337 = .ok (.lconst 0, 1) := by decide +kernel
theorem dX6_go_338 : decode cX6_go 338 = .ok (.ladd, 1) := by decide +kernel
theorem dX6_go_339 : decode cX6_go 339 = .ok (.lstore 6, 2) := by decide +kernel
theorem dX6_go_341 : decode cX6_go 341 = .ok (.aload_n 0, 1) := by decide +kernel
theorem dX6_go_342 : decode cX6_go 342 = .ok (.getfield 112, 3) := by decide +kernel
theorem dX6_go_345 : decode cX6_go 345 = .ok (.iload_n 3, 1) := by decide +kernel
theorem dX6_go_346 : decode cX6_go 346 = .ok (.iaload, 1) := by decide +kernel
theorem dX6_go_347 : decode cX6_go 347 = .ok (.iload 5, 2) := by decide +kernel
theorem dX6_go_349 : decode cX6_go 349 = .ok (.aload_n 0, 1) := by decide +kernel
theorem dX6_go_350 : decode cX6_go 350 = .ok (.getfield 198, 3) := by decide +kernel
theorem dX6_go_353 : decode cX6_go 353 = .ok (.if_icmp .ge 7, 3) := by decide +kernel
theorem dX6_go_356 : decode cX6_go 356 = .ok (.iconst 1, 1) := by decide +kernel
theorem dX6_go_357 : decode cX6_go 357 = .ok (.goto 4, 3) := by decide +kernel
theorem dX6_go_360 : decode cX6_go 360 = .ok (.iconst 0, 1) := by decide +kernel
theorem dX6_go_361 : decode cX6_go 361 = .ok (.iadd, 1) := by decide +kernel
theorem dX6_go_362 : decode cX6_go 362 = .ok (.istore 8, 2) := by decide +kernel
theorem dX6_go_364 : decode cX6_go 364 = .ok (.lload 6, 2) := by decide +kernel
theorem dX6_go_366 : decode cX6_go 366 = .ok (.aload_n 0, 1) := by decide +kernel
theorem dX6_go_367 : decode cX6_go 367 = .ok (.getfield 103, 3) := by decide +kernel
theorem dX6_go_370 : decode cX6_go 370 = .ok (.iload_n 3, 1) := by decide +kernel
theorem dX6_go_371 : decode cX6_go 371 = .ok (.iconst 1, 1) := by decide +kernel
theorem dX6_go_372 : decode cX6_go 372 = .ok (.iadd, 1) := by decide +kernel
theorem dX6_go_373 : decode cX6_go 373 = .ok (.laload, 1) := by decide +kernel
theorem dX6_go_374 : decode cX6_go 374 = .ok (.ladd, 1) := by decide +kernel
theorem dX6_go_375 : decode cX6_go 375 = .ok (.lstore 9, 2) := by decide +kernel
theorem dX6_go_377 : decode cX6_go 377 = .ok (.iload 8, 2) := by decide +kernel
theorem dX6_go_379 : decode cX6_go 379 = .ok (.aload_n 0, 1) := by decide +kernel
theorem dX6_go_380 : decode cX6_go 380 = .ok (.getfield 201, 3) := by decide +kernel
theorem dX6_go_383 : decode cX6_go 383 = .ok (.iadd, 1) := by decide +kernel
theorem dX6_go_384 : decode cX6_go 384 = .ok (.iload_n 3, 1) := by decide +kernel
theorem dX6_go_385 : decode cX6_go 385 = .ok (.isub, 1) := by decide +kernel
theorem dX6_go_386 : decode cX6_go 386 = .ok (.iconst 1, 1) := by decide +kernel
theorem dX6_go_387 : decode cX6_go 387 = .ok (.isub, 1) := by decide +kernel
theorem dX6_go_388 : decode cX6_go 388 = .ok (.istore 11, 2) := by decide +kernel
theorem dX6_go_390 : decode cX6_go 390 = .ok (.aload_n 0, 1) := by decide +kernel
theorem dX6_go_391 : decode cX6_go 391 = .ok (.getfield 212, 3) := by decide +kernel
theorem dX6_go_394 : decode cX6_go 394 = .ok (.ifCond .eq 52, 3) := by decide +kernel
theorem dX6_go_397 : decode cX6_go 397 = .ok (.lload 9, 2) := by decide +kernel
theorem dX6_go_399 : decode cX6_go 399 = .ok (.aload_n 0, 1) := by decide +kernel
theorem dX6_go_400 : decode cX6_go 400 = .ok (.getfield 216, 3) := by decide +kernel
theorem dX6_go_403 : decode cX6_go 403 = .ok (.lcmp, 1) := by decide +kernel
theorem dX6_go_404 : decode cX6_go 404 = .ok (.ifCond .lt 38, 3) := by decide +kernel
theorem dX6_go_407 : decode cX6_go 407 = .ok (.lload 9, 2) := by decide +kernel
theorem dX6_go_409 : decode cX6_go 409 = .ok (.aload_n 0, 1) := by decide +kernel
theorem dX6_go_410 : decode cX6_go 410 = .ok (.getfield 216, 3) := by decide +kernel
theorem dX6_go_413 : decode cX6_go 413 = .ok (.lcmp, 1) := by decide +kernel
theorem dX6_go_414 : decode cX6_go 414 = .ok (.ifCond .ne 32, 3) := by decide +kernel
theorem dX6_go_417 : decode cX6_go 417 = .ok (.iload_n 1, 1) := by decide +kernel
theorem dX6_go_418 : decode cX6_go 418 = .ok (.ifCond .eq 15, 3) := by decide +kernel
theorem dX6_go_421 : decode cX6_go 421 = .ok (.iload 11, 2) := by decide +kernel
theorem dX6_go_423 : decode cX6_go 423 = .ok (.aload_n 0, 1) := by decide +kernel
theorem dX6_go_424 : decode cX6_go 424 = .ok (.getfield 220, 3) := by decide +kernel
theorem dX6_go_427 : decode cX6_go 427 = .ok (.if_icmp .ge 19, 3) := by decide +kernel
theorem dX6_go_430 : decode cX6_go 430 = .ok (.goto 12, 3) := by decide +kernel
theorem dX6_go_433 : decode cX6_go 433 = .ok (.iload 11, 2) := by decide +kernel
theorem dX6_go_435 : decode cX6_go 435 = .ok (.aload_n 0, 1) := by decide +kernel
theorem dX6_go_436 : decode cX6_go 436 = .ok (.getfield 220, 3) := by decide +kernel
theorem dX6_go_439 : decode cX6_go 439 = .ok (.if_icmp .gt 7, 3) := by decide +kernel
theorem dX6_go_442 : decode cX6_go 442 = .ok (.iconst 1, 1) := by decide +kernel
theorem dX6_go_443 : decode cX6_go 443 = .ok (.goto 4, 3) := by decide +kernel
theorem dX6_go_446 : decode cX6_go 446 = .ok (.iconst 0, 1) := by decide +kernel
theorem dX6_go_447 : decode cX6_go 447 = .ok (.istore 12, 2) := by decide +kernel
theorem dX6_go_449 : decode cX6_go 449 = .ok (.iload 12, 2) := by decide +kernel
theorem dX6_go_451 : decode cX6_go 451 = .ok (.ifCond .eq 6, 3) := by decide +kernel
theorem dX6_go_454 : decode cX6_go 454 = .ok (.goto (-431), 3) := by decide +kernel
theorem dX6_go_457 : decode cX6_go 457 = .ok (.aload_n 0, 1) := by decide +kernel
theorem dX6_go_458 : decode cX6_go 458 = .ok (.getfield 106, 3) := by decide +kernel
theorem dX6_go_461 : decode cX6_go 461 = .ok (.iload_n 3, 1) := by decide +kernel
theorem dX6_go_462 : decode cX6_go 462 = .ok (.iload 5, 2) := by decide +kernel
theorem dX6_go_464 : decode cX6_go 464 = .ok (.iastore, 1) := by decide +kernel
theorem dX6_go_465 : decode cX6_go 465 = .ok (.iinc 3 1, 3) := by decide +kernel
theorem dX6_go_468 : decode cX6_go 468 = .ok (.aload_n 0, 1) := by decide +kernel
theorem dX6_go_469 : decode cX6_go 469 = .ok (.getfield 121, 3) := by decide +kernel
theorem dX6_go_472 : decode cX6_go 472 = .ok (.iload_n 3, 1) := by decide +kernel
theorem dX6_go_473 : decode cX6_go 473 = .ok (.iconst 0, 1) := by decide +kernel
theorem dX6_go_474 : decode cX6_go 474 = .ok (.iastore, 1) := by decide +kernel
theorem dX6_go_475 : decode cX6_go 475 = .ok (.aload_n 0, 1) := by decide +kernel
theorem dX6_go_476 : decode cX6_go 476 = .ok (.getfield 109, 3) := by decide +kernel
theorem dX6_go_479 : decode cX6_go 479 = .ok (.iload_n 3, 1) := by decide +kernel
theorem dX6_go_480 : decode cX6_go 480 = .ok (.lload 6, 2) := by decide +kernel
theorem dX6_go_482 : decode cX6_go 482 = .ok (.lastore, 1) := by decide +kernel
theorem dX6_go_483 : decode cX6_go 483 = .ok (.aload_n 0, 1) := by decide +kernel
theorem dX6_go_484 : decode cX6_go 484 = .ok (.getfield 112, 3) := by decide +kernel
theorem dX6_go_487 : decode cX6_go 487 = .ok (.iload_n 3, 1) := by decide +kernel
theorem dX6_go_488 : decode cX6_go 488 = .ok (.iload 8, 2) := by decide +kernel
theorem dX6_go_490 : decode cX6_go 490 = .ok (.iastore, 1) := by decide +kernel
theorem dX6_go_491 : decode cX6_go 491 = .ok (.goto (-468), 3) := by decide +kernel
theorem dX6_go_494 : decode cX6_go 494 = .ok (.return_, 1) := by decide +kernel
