theorem wm_265 : Cond.fieldLink RX5 108 "NoticeMarket" "now" "I" ∈ lw_B := lb_1 76 (by decide +kernel) rfl
theorem wm_266 : Cond.constant RX5 299 (40503) ∈ lw_B := lb_2 166 (by decide +kernel) rfl
theorem wm_267 : Cond.constant RX5 300 (668265263) ∈ lw_B := lb_2 167 (by decide +kernel) rfl
theorem wm_268 : Cond.fieldLink RX5 27 "NoticeMarket" "readerMarks" "[I" ∈ lw_B := lb_1 67 (by decide +kernel) rfl
theorem wm_269 : Cond.constant RX5 88 (1000000) ∈ lw_B := lb_2 40 (by decide +kernel) rfl
theorem wm_270 : Cond.fieldLink RX5 17 "NoticeMarket" "campaigns" "[LNoticeMarket$Campaign;" ∈ lw_B := lb_1 65 (by decide +kernel) rfl
theorem wm_271 : Cond.fieldLink RX5 89 "NoticeMarket$Campaign" "dayBudget" "I" ∈ lw_B := lb_1 223 (by decide +kernel) rfl
theorem wm_272 : Cond.fieldLink RX5 92 "NoticeMarket$Campaign" "allBudget" "I" ∈ lw_B := lb_1 225 (by decide +kernel) rfl
theorem wm_273 : Cond.fieldLink RX5 95 "NoticeMarket$Campaign" "mostShowings" "I" ∈ lw_B := lb_1 228 (by decide +kernel) rfl
theorem wm_274 : Cond.fieldLink RX5 98 "NoticeMarket$Campaign" "capSpan" "I" ∈ lw_B := lb_1 230 (by decide +kernel) rfl
theorem wm_275 : Cond.fieldLink RX5 111 "NoticeMarket$Campaign" "sort" "I" ∈ lw_B := lb_1 214 (by decide +kernel) rfl
theorem wm_276 : Cond.constantLong RX5 114 (100) ∈ lw_B := lb_2 62 (by decide +kernel) rfl
theorem wm_277 : Cond.methodLink RX5 116 yX0_takePromise ∈ lw_B := lb_2 63 (by decide +kernel) rfl
theorem wm_278 : Cond.instanceMethod yX0_takePromise ∈ lw_B := lb_2 64 (by decide +kernel) rfl
theorem wm_279 : Cond.selects RX0 yX0_takePromise yX0_takePromise ∈ lw_B := lb_2 65 (by decide +kernel) rfl
theorem wm_280 : Cond.code yX0_takePromise cX0_takePromise 5 none ∈ lw_B := lb_2 66 (by decide +kernel) rfl
theorem wm_281 : Cond.fieldLink RX5 120 "NoticeMarket$Campaign" "stopped" "I" ∈ lw_B := lb_1 233 (by decide +kernel) rfl
theorem wm_282 : Cond.fieldLink RX5 123 "NoticeMarket" "priceRule" "I" ∈ lw_B := lb_1 77 (by decide +kernel) rfl
theorem wm_283 : Cond.fieldLink RX5 126 "NoticeMarket" "paceTicks" "I" ∈ lw_B := lb_1 78 (by decide +kernel) rfl
theorem wm_284 : Cond.fieldLink RX5 44 "NoticeMarket" "pressWait" "I" ∈ lw_B := lb_1 79 (by decide +kernel) rfl
theorem wm_285 : Cond.methodLink RX5 267 yX5_drawn ∈ lw_B := lb_2 162 (by decide +kernel) rfl
theorem wm_286 : Cond.instanceMethod yX5_drawn ∈ lw_B := lb_2 164 (by decide +kernel) rfl
theorem wm_287 : Cond.selects RX5 yX5_drawn yX5_drawn ∈ lw_B := lb_0 11 (by decide +kernel) rfl
theorem wm_288 : Cond.code yX5_drawn cX5_drawn 5 (some .int) ∈ lw_B := lb_2 165 (by decide +kernel) rfl
theorem wm_289 : Cond.fieldLink RX5 179 "NoticeMarket$Sale" "campaign" "I" ∈ lw_B := lb_3 31 (by decide +kernel) rfl
theorem wm_290 : Cond.fieldLink RX5 202 "NoticeMarket$Campaign" "tally" "LNoticeMarket$Tally;" ∈ lw_B := lb_1 222 (by decide +kernel) rfl
theorem wm_291 : Cond.fieldLink RX5 230 "NoticeMarket$Tally" "spent" "I" ∈ lw_B := lb_1 181 (by decide +kernel) rfl
theorem wm_292 : Cond.fieldLink RX5 11 "NoticeMarket" "pages" "[LNoticeMarket$Page;" ∈ lw_B := lb_1 64 (by decide +kernel) rfl
theorem wm_293 : Cond.fieldLink RX5 173 "NoticeMarket$Sale" "page" "I" ∈ lw_B := lb_3 27 (by decide +kernel) rfl
theorem wm_294 : Cond.fieldLink RX5 270 "NoticeMarket$Page" "earned" "I" ∈ lw_B := lb_1 138 (by decide +kernel) rfl
theorem wm_295 : Cond.fieldLink RX5 273 "NoticeMarket" "spentInAll" "I" ∈ lw_B := lb_1 75 (by decide +kernel) rfl
theorem wm_296 : Cond.fieldLink RX5 182 "NoticeMarket$Sale" "price" "I" ∈ lw_B := lb_3 32 (by decide +kernel) rfl
theorem wm_297 : Cond.fieldLink RX5 214 "NoticeMarket$Sale" "paid" "I" ∈ lw_B := lb_3 37 (by decide +kernel) rfl
theorem wm_298 : Cond.methodLink RX5 368 yX5_addSpent ∈ lw_B := lb_3 77 (by decide +kernel) rfl
theorem wm_299 : Cond.instanceMethod yX5_addSpent ∈ lw_B := lb_3 79 (by decide +kernel) rfl
theorem wm_300 : Cond.selects RX5 yX5_addSpent yX5_addSpent ∈ lw_B := lb_0 24 (by decide +kernel) rfl
theorem wm_301 : Cond.code yX5_addSpent cX5_addSpent 3 none ∈ lw_B := lb_3 80 (by decide +kernel) rfl
theorem wm_302 : Cond.fieldLink RX5 236 "NoticeMarket$Tally" "held" "I" ∈ lw_B := lb_1 183 (by decide +kernel) rfl
theorem wm_303 : Cond.fieldLink RX5 367 "NoticeMarket$Sale" "held" "I" ∈ lw_B := lb_3 38 (by decide +kernel) rfl
theorem wm_304 : Cond.methodLink RX5 364 yX5_spend ∈ lw_B := lb_3 73 (by decide +kernel) rfl
theorem wm_305 : Cond.instanceMethod yX5_spend ∈ lw_B := lb_3 75 (by decide +kernel) rfl
theorem wm_306 : Cond.selects RX5 yX5_spend yX5_spend ∈ lw_B := lb_0 23 (by decide +kernel) rfl
theorem wm_307 : Cond.code yX5_spend cX5_spend 2 none ∈ lw_B := lb_3 76 (by decide +kernel) rfl
theorem wm_308 : Cond.fieldLink RX5 167 "NoticeMarket$Sale" "soldAt" "I" ∈ lw_B := lb_3 22 (by decide +kernel) rfl
theorem wm_309 : Cond.fieldLink RX5 233 "NoticeMarket$Tally" "usedToday" "I" ∈ lw_B := lb_1 185 (by decide +kernel) rfl
theorem wm_310 : Cond.methodLink RX5 372 yX5_lessenDay ∈ lw_B := lb_2 107 (by decide +kernel) rfl
theorem wm_311 : Cond.instanceMethod yX5_lessenDay ∈ lw_B := lb_2 109 (by decide +kernel) rfl
theorem wm_312 : Cond.selects RX5 yX5_lessenDay yX5_lessenDay ∈ lw_B := lb_0 6 (by decide +kernel) rfl
theorem wm_313 : Cond.code yX5_lessenDay cX5_lessenDay 3 none ∈ lw_B := lb_2 110 (by decide +kernel) rfl
theorem wm_314 : Cond.fieldLink RX5 239 "NoticeMarket$Tally" "shows" "I" ∈ lw_B := lb_1 188 (by decide +kernel) rfl
theorem wm_315 : Cond.fieldLink RX5 185 "NoticeMarket$Sale" "state" "I" ∈ lw_B := lb_3 34 (by decide +kernel) rfl
theorem wm_316 : Cond.fieldLink RX5 206 "NoticeMarket$Tally" "presses" "I" ∈ lw_B := lb_1 192 (by decide +kernel) rfl
theorem wm_317 : Cond.fieldLink RX5 199 "NoticeMarket$Sale" "pressedAt" "I" ∈ lw_B := lb_3 36 (by decide +kernel) rfl
theorem wm_318 : Cond.fieldLink RX5 211 "NoticeMarket$Tally" "pressesNow" "I" ∈ lw_B := lb_1 194 (by decide +kernel) rfl
theorem wm_319 : Cond.fieldLink RX5 375 "NoticeMarket$Tally" "showsNow" "I" ∈ lw_B := lb_1 190 (by decide +kernel) rfl
theorem wm_320 : Cond.fieldLink RX5 279 "NoticeMarket$Page" "shownNow" "J" ∈ lw_B := lb_1 139 (by decide +kernel) rfl
theorem wm_321 : Cond.fieldLink RX5 48 "NoticeMarket" "noneFreeBy" "I" ∈ lw_B := lb_1 80 (by decide +kernel) rfl
theorem wm_322 : Cond.fieldLink RX5 192 "NoticeMarket$Sale" "lastPress" "I" ∈ lw_B := lb_3 35 (by decide +kernel) rfl
theorem wm_323 : Cond.methodLink RX5 292 Lib.Math.min.name ∈ lw_B := lb_2 111 (by decide +kernel) rfl
theorem wm_324 : Cond.methodLink RX5 276 yX4_endTick ∈ lw_B := lb_2 87 (by decide +kernel) rfl
theorem wm_325 : Cond.instanceMethod yX4_endTick ∈ lw_B := lb_2 88 (by decide +kernel) rfl
theorem wm_326 : Cond.selects RX4 yX4_endTick yX4_endTick ∈ lw_B := lb_2 89 (by decide +kernel) rfl
theorem wm_327 : Cond.code yX4_endTick cX4_endTick 1 none ∈ lw_B := lb_2 90 (by decide +kernel) rfl
theorem wm_328 : Cond.methodLink RX5 295 yX0_setThrottle ∈ lw_B := lb_2 116 (by decide +kernel) rfl
theorem wm_329 : Cond.instanceMethod yX0_setThrottle ∈ lw_B := lb_2 117 (by decide +kernel) rfl
theorem wm_330 : Cond.selects RX0 yX0_setThrottle yX0_setThrottle ∈ lw_B := lb_2 118 (by decide +kernel) rfl
theorem wm_331 : Cond.code yX0_setThrottle cX0_setThrottle 6 none ∈ lw_B := lb_2 119 (by decide +kernel) rfl
theorem wm_332 : Cond.fieldLink RX5 23 "NoticeMarket" "sales" "[LNoticeMarket$Sale;" ∈ lw_B := lb_1 66 (by decide +kernel) rfl
theorem wm_333 : Cond.methodLink RX5 217 yX5_freeHeld ∈ lw_B := lb_2 103 (by decide +kernel) rfl
theorem wm_334 : Cond.instanceMethod yX5_freeHeld ∈ lw_B := lb_2 105 (by decide +kernel) rfl
theorem wm_335 : Cond.selects RX5 yX5_freeHeld yX5_freeHeld ∈ lw_B := lb_0 5 (by decide +kernel) rfl
theorem wm_336 : Cond.code yX5_freeHeld cX5_freeHeld 2 none ∈ lw_B := lb_2 106 (by decide +kernel) rfl
theorem wm_337 : Cond.methodLink RX5 289 yX5_setThrottles ∈ lw_B := lb_2 112 (by decide +kernel) rfl
theorem wm_338 : Cond.instanceMethod yX5_setThrottles ∈ lw_B := lb_2 114 (by decide +kernel) rfl
theorem wm_339 : Cond.selects RX5 yX5_setThrottles yX5_setThrottles ∈ lw_B := lb_0 7 (by decide +kernel) rfl
theorem wm_340 : Cond.code yX5_setThrottles cX5_setThrottles 2 none ∈ lw_B := lb_2 115 (by decide +kernel) rfl
theorem wm_341 : Cond.methodLink RX5 286 yX5_freeLateSales ∈ lw_B := lb_2 99 (by decide +kernel) rfl
theorem wm_342 : Cond.instanceMethod yX5_freeLateSales ∈ lw_B := lb_2 101 (by decide +kernel) rfl
theorem wm_343 : Cond.selects RX5 yX5_freeLateSales yX5_freeLateSales ∈ lw_B := lb_0 4 (by decide +kernel) rfl
theorem wm_344 : Cond.code yX5_freeLateSales cX5_freeLateSales 3 none ∈ lw_B := lb_2 102 (by decide +kernel) rfl
theorem wm_345 : Cond.methodLink RX5 283 yX5_closeDay ∈ lw_B := lb_2 95 (by decide +kernel) rfl
theorem wm_346 : Cond.instanceMethod yX5_closeDay ∈ lw_B := lb_2 97 (by decide +kernel) rfl
theorem wm_347 : Cond.selects RX5 yX5_closeDay yX5_closeDay ∈ lw_B := lb_0 3 (by decide +kernel) rfl
theorem wm_348 : Cond.code yX5_closeDay cX5_closeDay 2 none ∈ lw_B := lb_2 98 (by decide +kernel) rfl
theorem wm_349 : Cond.methodLink RX5 129 yX5_closeTick ∈ lw_B := lb_2 83 (by decide +kernel) rfl
theorem wm_350 : Cond.instanceMethod yX5_closeTick ∈ lw_B := lb_2 85 (by decide +kernel) rfl
theorem wm_351 : Cond.selects RX5 yX5_closeTick yX5_closeTick ∈ lw_B := lb_0 1 (by decide +kernel) rfl
theorem wm_352 : Cond.code yX5_closeTick cX5_closeTick 2 none ∈ lw_B := lb_2 86 (by decide +kernel) rfl
theorem wm_353 : Cond.methodLink RX5 132 yX5_goOneTick ∈ lw_B := lb_2 91 (by decide +kernel) rfl
theorem wm_354 : Cond.instanceMethod yX5_goOneTick ∈ lw_B := lb_2 93 (by decide +kernel) rfl
theorem wm_355 : Cond.selects RX5 yX5_goOneTick yX5_goOneTick ∈ lw_B := lb_0 2 (by decide +kernel) rfl
theorem wm_356 : Cond.code yX5_goOneTick cX5_goOneTick 1 none ∈ lw_B := lb_2 94 (by decide +kernel) rfl
theorem dX5_budget_8 : decode cX5_budget 8 = .ok (.iload_n 2, 1) := by decide +kernel
theorem dX5_budget_9 : decode cX5_budget 9 = .ok (.iconst 0, 1) := by decide +kernel
theorem dX5_budget_10 : decode cX5_budget 10 = .ok (.ldc 88, 2) := by decide +kernel
theorem dX5_budget_12 : decode cX5_budget 12 = .ok (.invokestatic 65, 3) := by decide +kernel
theorem dX5_budget_15 : decode cX5_budget 15 = .ok (.ifCond .eq 13, 3) := by decide +kernel
theorem dX5_budget_18 : decode cX5_budget 18 = .ok (.iload_n 3, 1) := by decide +kernel
theorem dX5_budget_19 : decode cX5_budget 19 = .ok (.iconst 0, 1) := by decide +kernel
theorem dX5_budget_20 : decode cX5_budget 20 = .ok (.ldc 88, 2) := by decide +kernel
theorem dX5_budget_22 : decode cX5_budget 22 = .ok (.invokestatic 65, 3) := by decide +kernel
theorem dX5_budget_25 : decode cX5_budget 25 = .ok (.ifCond .ne 5, 3) := by decide +kernel
theorem dX5_budget_30 : decode cX5_budget 30 = .ok (.aload_n 0, 1) := by decide +kernel
theorem dX5_budget_31 : decode cX5_budget 31 = .ok (.getfield 17, 3) := by decide +kernel
theorem dX5_budget_34 : decode cX5_budget 34 = .ok (.iload_n 1, 1) := by decide +kernel
theorem dX5_budget_35 : decode cX5_budget 35 = .ok (.aaload, 1) := by decide +kernel
theorem dX5_budget_36 : decode cX5_budget 36 = .ok (.iload_n 2, 1) := by decide +kernel
theorem dX5_budget_37 : decode cX5_budget 37 = .ok (.putfield 89, 3) := by decide +kernel
theorem dX5_budget_40 : decode cX5_budget 40 = .ok (.aload_n 0, 1) := by decide +kernel
theorem dX5_budget_41 : decode cX5_budget 41 = .ok (.getfield 17, 3) := by decide +kernel
theorem dX5_budget_44 : decode cX5_budget 44 = .ok (.iload_n 1, 1) := by decide +kernel
theorem dX5_budget_45 : decode cX5_budget 45 = .ok (.aaload, 1) := by decide +kernel
theorem dX5_budget_46 : decode cX5_budget 46 = .ok (.iload_n 3, 1) := by decide +kernel
theorem dX5_budget_47 : decode cX5_budget 47 = .ok (.putfield 92, 3) := by decide +kernel
theorem dX5_budget_50 : decode cX5_budget 50 = .ok (.iconst 1, 1) := by decide +kernel
theorem dX5_budget_51 : decode cX5_budget 51 = .ok (.ireturn, 1) := by decide +kernel
theorem dX5_cap_8 : decode cX5_cap 8 = .ok (.iload_n 2, 1) := by decide +kernel
theorem dX5_cap_9 : decode cX5_cap 9 = .ok (.iconst 1, 1) := by decide +kernel
theorem dX5_cap_10 : decode cX5_cap 10 = .ok (.bipush 9, 2) := by decide +kernel
theorem dX5_cap_12 : decode cX5_cap 12 = .ok (.invokestatic 65, 3) := by decide +kernel
theorem dX5_cap_15 : decode cX5_cap 15 = .ok (.ifCond .eq 14, 3) := by decide +kernel
theorem dX5_cap_18 : decode cX5_cap 18 = .ok (.iload_n 3, 1) := by decide +kernel
theorem dX5_cap_19 : decode cX5_cap 19 = .ok (.iconst 1, 1) := by decide +kernel
theorem dX5_cap_20 : decode cX5_cap 20 = .ok (.sipush 1000, 3) := by decide +kernel
theorem dX5_cap_23 : decode cX5_cap 23 = .ok (.invokestatic 65, 3) := by decide +kernel
theorem dX5_cap_26 : decode cX5_cap 26 = .ok (.ifCond .ne 5, 3) := by decide +kernel
theorem dX5_cap_31 : decode cX5_cap 31 = .ok (.aload_n 0, 1) := by decide +kernel
theorem dX5_cap_32 : decode cX5_cap 32 = .ok (.getfield 17, 3) := by decide +kernel
theorem dX5_cap_35 : decode cX5_cap 35 = .ok (.iload_n 1, 1) := by decide +kernel
theorem dX5_cap_36 : decode cX5_cap 36 = .ok (.aaload, 1) := by decide +kernel
theorem dX5_cap_37 : decode cX5_cap 37 = .ok (.iload_n 2, 1) := by decide +kernel
theorem dX5_cap_38 : decode cX5_cap 38 = .ok (.putfield 95, 3) := by decide +kernel
theorem dX5_cap_41 : decode cX5_cap 41 = .ok (.aload_n 0, 1) := by decide +kernel
theorem dX5_cap_42 : decode cX5_cap 42 = .ok (.getfield 17, 3) := by decide +kernel
theorem dX5_cap_45 : decode cX5_cap 45 = .ok (.iload_n 1, 1) := by decide +kernel
theorem dX5_cap_46 : decode cX5_cap 46 = .ok (.aaload, 1) := by decide +kernel
theorem dX5_cap_47 : decode cX5_cap 47 = .ok (.iload_n 3, 1) := by decide +kernel
theorem dX5_cap_48 : decode cX5_cap 48 = .ok (.putfield 98, 3) := by decide +kernel
theorem dX5_cap_51 : decode cX5_cap 51 = .ok (.iconst 1, 1) := by decide +kernel
theorem dX5_cap_52 : decode cX5_cap 52 = .ok (.ireturn, 1) := by decide +kernel
theorem dX5_promise_8 : decode cX5_promise 8 = .ok (.iload_n 2, 1) := by decide +kernel
theorem dX5_promise_9 : decode cX5_promise 9 = .ok (.iconst 1, 1) := by decide +kernel
theorem dX5_promise_10 : decode cX5_promise 10 = .ok (.sipush 1000, 3) := by decide +kernel
theorem dX5_promise_13 : decode cX5_promise 13 = .ok (.invokestatic 65, 3) := by decide +kernel
theorem dX5_promise_16 : decode cX5_promise 16 = .ok (.ifCond .eq 14, 3) := by decide +kernel
theorem dX5_promise_19 : decode cX5_promise 19 = .ok (.iload_n 3, 1) := by decide +kernel
theorem dX5_promise_20 : decode cX5_promise 20 = .ok (.aload_n 0, 1) := by decide +kernel
theorem dX5_promise_21 : decode cX5_promise 21 = .ok (.getfield 108, 3) := by decide +kernel
theorem dX5_promise_24 : decode cX5_promise 24 = .ok (.bipush 100, 2) := by decide +kernel
theorem dX5_promise_26 : decode cX5_promise 26 = .ok (.idiv, 1) := by decide +kernel
theorem dX5_promise_27 : decode cX5_promise 27 = .ok (.if_icmp .ge 5, 3) := by decide +kernel
theorem dX5_promise_32 : decode cX5_promise 32 = .ok (.aload_n 0, 1) := by decide +kernel
theorem dX5_promise_33 : decode cX5_promise 33 = .ok (.getfield 17, 3) := by decide +kernel
theorem dX5_promise_36 : decode cX5_promise 36 = .ok (.iload_n 1, 1) := by decide +kernel
theorem dX5_promise_37 : decode cX5_promise 37 = .ok (.aaload, 1) := by decide +kernel
theorem dX5_promise_38 : decode cX5_promise 38 = .ok (.getfield 111, 3) := by decide +kernel
theorem dX5_promise_41 : decode cX5_promise 41 = .ok (.iconst 1, 1) := by decide +kernel
theorem dX5_promise_42 : decode cX5_promise 42 = .ok (.if_icmp .eq 6, 3) := by decide +kernel
theorem dX5_promise_45 : decode cX5_promise 45 = .ok (.bipush (-2), 2) := by decide +kernel
theorem dX5_promise_47 : decode cX5_promise 47 = .ok (.ireturn, 1) := by decide +kernel
theorem dX5_promise_48 : decode cX5_promise 48 = .ok (.aload_n 0, 1) := by decide +kernel
theorem dX5_promise_49 : decode cX5_promise 49 = .ok (.getfield 17, 3) := by decide +kernel
theorem dX5_promise_52 : decode cX5_promise 52 = .ok (.iload_n 1, 1) := by decide +kernel
theorem dX5_promise_53 : decode cX5_promise 53 = .ok (.aaload, 1) := by decide +kernel
theorem dX5_promise_54 : decode cX5_promise 54 = .ok (.iload_n 2, 1) := by decide +kernel
theorem dX5_promise_55 : decode cX5_promise 55 = .ok (.aload_n 0, 1) := by decide +kernel
theorem dX5_promise_56 : decode cX5_promise 56 = .ok (.getfield 108, 3) := by decide +kernel
theorem dX5_promise_59 : decode cX5_promise 59 = .ok (.ldc2_w 114, 3) := by decide +kernel
theorem dX5_promise_62 : decode cX5_promise 62 = .ok (.iload_n 3, 1) := by decide +kernel
theorem dX5_promise_63 : decode cX5_promise 63 = .ok (.i2l, 1) := by decide +kernel
theorem dX5_promise_64 : decode cX5_promise 64 = .ok (.lconst 1, 1) := by decide +kernel
theorem dX5_promise_65 : decode cX5_promise 65 = .ok (.ladd, 1) := by decide +kernel
theorem dX5_promise_66 : decode cX5_promise 66 = .ok (.lmul, 1) := by decide +kernel
theorem dX5_promise_67 : decode cX5_promise 67 = .ok (.invokevirtual 116, 3) := by decide +kernel
theorem dX5_promise_70 : decode cX5_promise 70 = .ok (.iconst 1, 1) := by decide +kernel
theorem dX5_promise_71 : decode cX5_promise 71 = .ok (.ireturn, 1) := by decide +kernel
theorem dX5_stop_8 : decode cX5_stop 8 = .ok (.iload_n 2, 1) := by decide +kernel
theorem dX5_stop_9 : decode cX5_stop 9 = .ok (.iconst 0, 1) := by decide +kernel
theorem dX5_stop_10 : decode cX5_stop 10 = .ok (.iconst 1, 1) := by decide +kernel
theorem dX5_stop_11 : decode cX5_stop 11 = .ok (.invokestatic 65, 3) := by decide +kernel
theorem dX5_stop_14 : decode cX5_stop 14 = .ok (.ifCond .ne 5, 3) := by decide +kernel
theorem dX5_stop_19 : decode cX5_stop 19 = .ok (.aload_n 0, 1) := by decide +kernel
theorem dX5_stop_20 : decode cX5_stop 20 = .ok (.getfield 17, 3) := by decide +kernel
theorem dX5_stop_23 : decode cX5_stop 23 = .ok (.iload_n 1, 1) := by decide +kernel
theorem dX5_stop_24 : decode cX5_stop 24 = .ok (.aaload, 1) := by decide +kernel
theorem dX5_stop_25 : decode cX5_stop 25 = .ok (.getfield 120, 3) := by decide +kernel
theorem dX5_stop_28 : decode cX5_stop 28 = .ok (.istore_n 3, 1) := by decide +kernel
theorem dX5_stop_29 : decode cX5_stop 29 = .ok (.aload_n 0, 1) := by decide +kernel
theorem dX5_stop_30 : decode cX5_stop 30 = .ok (.getfield 17, 3) := by decide +kernel
theorem dX5_stop_33 : decode cX5_stop 33 = .ok (.iload_n 1, 1) := by decide +kernel
theorem dX5_stop_34 : decode cX5_stop 34 = .ok (.aaload, 1) := by decide +kernel
theorem dX5_stop_35 : decode cX5_stop 35 = .ok (.iload_n 2, 1) := by decide +kernel
theorem dX5_stop_36 : decode cX5_stop 36 = .ok (.putfield 120, 3) := by decide +kernel
theorem dX5_stop_39 : decode cX5_stop 39 = .ok (.iload_n 3, 1) := by decide +kernel
theorem dX5_stop_40 : decode cX5_stop 40 = .ok (.ireturn, 1) := by decide +kernel
theorem dX5_draw_8 : decode cX5_draw 8 = .ok (.iload_n 2, 1) := by decide +kernel
theorem dX5_draw_9 : decode cX5_draw 9 = .ok (.invokestatic 61, 3) := by decide +kernel
theorem dX5_draw_12 : decode cX5_draw 12 = .ok (.ifCond .ne 5, 3) := by decide +kernel
theorem dX5_draw_17 : decode cX5_draw 17 = .ok (.aload_n 0, 1) := by decide +kernel
theorem dX5_draw_18 : decode cX5_draw 18 = .ok (.iload_n 1, 1) := by decide +kernel
theorem dX5_draw_19 : decode cX5_draw 19 = .ok (.iload_n 2, 1) := by decide +kernel
theorem dX5_draw_20 : decode cX5_draw 20 = .ok (.invokevirtual 267, 3) := by decide +kernel
theorem dX5_draw_23 : decode cX5_draw 23 = .ok (.ireturn, 1) := by decide +kernel
theorem dX5_drawn_0 : decode cX5_drawn 0 = .ok (.aload_n 0, 1) := by decide +kernel
theorem dX5_drawn_1 : decode cX5_drawn 1 = .ok (.getfield 108, 3) := by decide +kernel
theorem dX5_drawn_4 : decode cX5_drawn 4 = .ok (.ldc_w 299, 3) := by decide +kernel
theorem dX5_drawn_7 : decode cX5_drawn 7 = .ok (.imul, 1) := by decide +kernel
theorem dX5_drawn_8 : decode cX5_drawn 8 = .ok (.iload_n 2, 1) := by decide +kernel
theorem dX5_drawn_9 : decode cX5_drawn 9 = .ok (.sipush 9973, 3) := by decide +kernel
theorem dX5_drawn_12 : decode cX5_drawn 12 = .ok (.imul, 1) := by decide +kernel
theorem dX5_drawn_13 : decode cX5_drawn 13 = .ok (.iadd, 1) := by decide +kernel
theorem dX5_drawn_14 : decode cX5_drawn 14 = .ok (.iload_n 1, 1) := by decide +kernel
theorem dX5_drawn_15 : decode cX5_drawn 15 = .ok (.sipush 7919, 3) := by decide +kernel
theorem dX5_drawn_18 : decode cX5_drawn 18 = .ok (.imul, 1) := by decide +kernel
theorem dX5_drawn_19 : decode cX5_drawn 19 = .ok (.iadd, 1) := by decide +kernel
theorem dX5_drawn_20 : decode cX5_drawn 20 = .ok (.istore_n 3, 1) := by decide +kernel
theorem dX5_drawn_21 : decode cX5_drawn 21 = .ok (.iload_n 3, 1) := by decide +kernel
theorem dX5_drawn_22 : decode cX5_drawn 22 = .ok (.iload_n 3, 1) := by decide +kernel
theorem dX5_drawn_23 : decode cX5_drawn 23 = .ok (.bipush 7, 2) := by decide +kernel
theorem dX5_drawn_25 : decode cX5_drawn 25 = .ok (.iushr, 1) := by decide +kernel
theorem dX5_drawn_26 : decode cX5_drawn 26 = .ok (.ixor, 1) := by decide +kernel
theorem dX5_drawn_27 : decode cX5_drawn 27 = .ok (.ldc_w 300, 3) := by decide +kernel
theorem dX5_drawn_30 : decode cX5_drawn 30 = .ok (.imul, 1) := by decide +kernel
theorem dX5_drawn_31 : decode cX5_drawn 31 = .ok (.istore 4, 2) := by decide +kernel
theorem dX5_drawn_33 : decode cX5_drawn 33 = .ok (.iload 4, 2) := by decide +kernel
theorem dX5_drawn_35 : decode cX5_drawn 35 = .ok (.bipush 16, 2) := by decide +kernel
theorem dX5_drawn_37 : decode cX5_drawn 37 = .ok (.iushr, 1) := by decide +kernel
theorem dX5_drawn_38 : decode cX5_drawn 38 = .ok (.sipush 1000, 3) := by decide +kernel
theorem dX5_drawn_41 : decode cX5_drawn 41 = .ok (.irem, 1) := by decide +kernel
theorem dX5_drawn_42 : decode cX5_drawn 42 = .ok (.ireturn, 1) := by decide +kernel
theorem dX5_marks_0 : decode cX5_marks 0 = .ok (.iload_n 1, 1) := by decide +kernel
theorem dX5_marks_1 : decode cX5_marks 1 = .ok (.invokestatic 61, 3) := by decide +kernel
theorem dX5_marks_4 : decode cX5_marks 4 = .ok (.ifCond .eq 14, 3) := by decide +kernel
theorem dX5_marks_7 : decode cX5_marks 7 = .ok (.iload_n 2, 1) := by decide +kernel
theorem dX5_marks_8 : decode cX5_marks 8 = .ok (.iconst 0, 1) := by decide +kernel
theorem dX5_marks_9 : decode cX5_marks 9 = .ok (.sipush 4095, 3) := by decide +kernel
theorem dX5_marks_12 : decode cX5_marks 12 = .ok (.invokestatic 65, 3) := by decide +kernel
theorem dX5_marks_15 : decode cX5_marks 15 = .ok (.ifCond .ne 5, 3) := by decide +kernel
theorem dX5_marks_18 : decode cX5_marks 18 = .ok (.iconst (-1), 1) := by decide +kernel
theorem dX5_marks_19 : decode cX5_marks 19 = .ok (.ireturn, 1) := by decide +kernel
theorem dX5_marks_20 : decode cX5_marks 20 = .ok (.aload_n 0, 1) := by decide +kernel
theorem dX5_marks_21 : decode cX5_marks 21 = .ok (.getfield 27, 3) := by decide +kernel
theorem dX5_marks_24 : decode cX5_marks 24 = .ok (.iload_n 1, 1) := by decide +kernel
theorem dX5_marks_25 : decode cX5_marks 25 = .ok (.iaload, 1) := by decide +kernel
theorem dX5_marks_26 : decode cX5_marks 26 = .ok (.istore_n 3, 1) := by decide +kernel
theorem dX5_marks_27 : decode cX5_marks 27 = .ok (.aload_n 0, 1) := by decide +kernel
theorem dX5_marks_28 : decode cX5_marks 28 = .ok (.getfield 27, 3) := by decide +kernel
theorem dX5_marks_31 : decode cX5_marks 31 = .ok (.iload_n 1, 1) := by decide +kernel
theorem dX5_marks_32 : decode cX5_marks 32 = .ok (.iload_n 2, 1) := by decide +kernel
theorem dX5_marks_33 : decode cX5_marks 33 = .ok (.iastore, 1) := by decide +kernel
theorem dX5_marks_34 : decode cX5_marks 34 = .ok (.iload_n 3, 1) := by decide +kernel
theorem dX5_marks_35 : decode cX5_marks 35 = .ok (.ireturn, 1) := by decide +kernel
theorem dX5_rule_0 : decode cX5_rule 0 = .ok (.iload_n 1, 1) := by decide +kernel
theorem dX5_rule_1 : decode cX5_rule 1 = .ok (.ifCond .eq 10, 3) := by decide +kernel
theorem dX5_rule_4 : decode cX5_rule 4 = .ok (.iload_n 1, 1) := by decide +kernel
theorem dX5_rule_5 : decode cX5_rule 5 = .ok (.iconst 1, 1) := by decide +kernel
theorem dX5_rule_6 : decode cX5_rule 6 = .ok (.if_icmp .eq 5, 3) := by decide +kernel
theorem dX5_rule_9 : decode cX5_rule 9 = .ok (.iconst (-1), 1) := by decide +kernel
theorem dX5_rule_10 : decode cX5_rule 10 = .ok (.ireturn, 1) := by decide +kernel
theorem dX5_rule_11 : decode cX5_rule 11 = .ok (.aload_n 0, 1) := by decide +kernel
theorem dX5_rule_12 : decode cX5_rule 12 = .ok (.getfield 123, 3) := by decide +kernel
theorem dX5_rule_15 : decode cX5_rule 15 = .ok (.istore_n 2, 1) := by decide +kernel
theorem dX5_rule_16 : decode cX5_rule 16 = .ok (.aload_n 0, 1) := by decide +kernel
theorem dX5_rule_17 : decode cX5_rule 17 = .ok (.iload_n 1, 1) := by decide +kernel
theorem dX5_rule_18 : decode cX5_rule 18 = .ok (.putfield 123, 3) := by decide +kernel
theorem dX5_rule_21 : decode cX5_rule 21 = .ok (.iload_n 2, 1) := by decide +kernel
theorem dX5_rule_22 : decode cX5_rule 22 = .ok (.ireturn, 1) := by decide +kernel
theorem dX5_pace_0 : decode cX5_pace 0 = .ok (.iload_n 1, 1) := by decide +kernel
theorem dX5_pace_1 : decode cX5_pace 1 = .ok (.ifCond .eq 16, 3) := by decide +kernel
theorem dX5_pace_4 : decode cX5_pace 4 = .ok (.iload_n 1, 1) := by decide +kernel
theorem dX5_pace_5 : decode cX5_pace 5 = .ok (.bipush 10, 2) := by decide +kernel
theorem dX5_pace_7 : decode cX5_pace 7 = .ok (.bipush 100, 2) := by decide +kernel
theorem dX5_pace_9 : decode cX5_pace 9 = .ok (.invokestatic 65, 3) := by decide +kernel
theorem dX5_pace_12 : decode cX5_pace 12 = .ok (.ifCond .ne 5, 3) := by decide +kernel
theorem dX5_pace_15 : decode cX5_pace 15 = .ok (.iconst (-1), 1) := by decide +kernel
theorem dX5_pace_16 : decode cX5_pace 16 = .ok (.ireturn, 1) := by decide +kernel
theorem dX5_pace_17 : decode cX5_pace 17 = .ok (.iload_n 2, 1) := by decide +kernel
theorem dX5_pace_18 : decode cX5_pace 18 = .ok (.iconst 1, 1) := by decide +kernel
theorem dX5_pace_19 : decode cX5_pace 19 = .ok (.sipush 200, 3) := by decide +kernel
theorem dX5_pace_22 : decode cX5_pace 22 = .ok (.invokestatic 65, 3) := by decide +kernel
theorem dX5_pace_25 : decode cX5_pace 25 = .ok (.ifCond .ne 5, 3) := by decide +kernel
theorem dX5_pace_28 : decode cX5_pace 28 = .ok (.iconst (-1), 1) := by decide +kernel
theorem dX5_pace_29 : decode cX5_pace 29 = .ok (.ireturn, 1) := by decide +kernel
theorem dX5_pace_30 : decode cX5_pace 30 = .ok (.aload_n 0, 1) := by decide +kernel
theorem dX5_pace_31 : decode cX5_pace 31 = .ok (.iload_n 1, 1) := by decide +kernel
theorem dX5_pace_32 : decode cX5_pace 32 = .ok (.putfield 126, 3) := by decide +kernel
theorem dX5_pace_35 : decode cX5_pace 35 = .ok (.aload_n 0, 1) := by decide +kernel
theorem dX5_pace_36 : decode cX5_pace 36 = .ok (.iload_n 2, 1) := by decide +kernel
theorem dX5_pace_37 : decode cX5_pace 37 = .ok (.putfield 44, 3) := by decide +kernel
theorem dX5_pace_40 : decode cX5_pace 40 = .ok (.iconst 1, 1) := by decide +kernel
theorem dX5_pace_41 : decode cX5_pace 41 = .ok (.ireturn, 1) := by decide +kernel
theorem dX5_addSpent_0 : decode cX5_addSpent 0 = .ok (.aload_n 0, 1) := by decide +kernel
theorem dX5_addSpent_1 : decode cX5_addSpent 1 = .ok (.getfield 17, 3) := by decide +kernel
theorem dX5_addSpent_4 : decode cX5_addSpent 4 = .ok (.aload_n 1, 1) := by decide +kernel
theorem dX5_addSpent_5 : decode cX5_addSpent 5 = .ok (.getfield 179, 3) := by decide +kernel
theorem dX5_addSpent_8 : decode cX5_addSpent 8 = .ok (.aaload, 1) := by decide +kernel
theorem dX5_addSpent_9 : decode cX5_addSpent 9 = .ok (.getfield 202, 3) := by decide +kernel
theorem dX5_addSpent_12 : decode cX5_addSpent 12 = .ok (.dup, 1) := by decide +kernel
theorem dX5_addSpent_13 : decode cX5_addSpent 13 = .ok (.getfield 230, 3) := by decide +kernel
theorem dX5_addSpent_16 : decode cX5_addSpent 16 = .ok (.iload_n 2, 1) := by decide +kernel
theorem dX5_addSpent_17 : decode cX5_addSpent 17 = .ok (.iadd, 1) := by decide +kernel
theorem dX5_addSpent_18 : decode cX5_addSpent 18 = .ok (.putfield 230, 3) := by decide +kernel
theorem dX5_addSpent_21 : decode cX5_addSpent 21 = .ok (.aload_n 0, 1) := by decide +kernel
theorem dX5_addSpent_22 : decode cX5_addSpent 22 = .ok (.getfield 11, 3) := by decide +kernel
theorem dX5_addSpent_25 : decode cX5_addSpent 25 = .ok (.aload_n 1, 1) := by decide +kernel
theorem dX5_addSpent_26 : decode cX5_addSpent 26 = .ok (.getfield 173, 3) := by decide +kernel
theorem dX5_addSpent_29 : decode cX5_addSpent 29 = .ok (.aaload, 1) := by decide +kernel
theorem dX5_addSpent_30 : decode cX5_addSpent 30 = .ok (.dup, 1) := by decide +kernel
theorem dX5_addSpent_31 : decode cX5_addSpent 31 = .ok (.getfield 270, 3) := by decide +kernel
theorem dX5_addSpent_34 : decode cX5_addSpent 34 = .ok (.iload_n 2, 1) := by decide +kernel
theorem dX5_addSpent_35 : decode cX5_addSpent 35 = .ok (.iadd, 1) := by decide +kernel
theorem dX5_addSpent_36 : decode cX5_addSpent 36 = .ok (.putfield 270, 3) := by decide +kernel
theorem dX5_addSpent_39 : decode cX5_addSpent 39 = .ok (.aload_n 0, 1) := by decide +kernel
theorem dX5_addSpent_40 : decode cX5_addSpent 40 = .ok (.dup, 1) := by decide +kernel
theorem dX5_addSpent_41 : decode cX5_addSpent 41 = .ok (.getfield 273, 3) := by decide +kernel
theorem dX5_addSpent_44 : decode cX5_addSpent 44 = .ok (.iload_n 2, 1) := by decide +kernel
theorem dX5_addSpent_45 : decode cX5_addSpent 45 = .ok (.iadd, 1) := by decide +kernel
theorem dX5_addSpent_46 : decode cX5_addSpent 46 = .ok (.putfield 273, 3) := by decide +kernel
theorem dX5_addSpent_49 : decode cX5_addSpent 49 = .ok (.return_, 1) := by decide +kernel
theorem dX5_spend_0 : decode cX5_spend 0 = .ok (.aload_n 1, 1) := by decide +kernel
theorem dX5_spend_1 : decode cX5_spend 1 = .ok (.aload_n 1, 1) := by decide +kernel
theorem dX5_spend_2 : decode cX5_spend 2 = .ok (.getfield 182, 3) := by decide +kernel
theorem dX5_spend_5 : decode cX5_spend 5 = .ok (.putfield 214, 3) := by decide +kernel
theorem dX5_spend_8 : decode cX5_spend 8 = .ok (.aload_n 0, 1) := by decide +kernel
theorem dX5_spend_9 : decode cX5_spend 9 = .ok (.aload_n 1, 1) := by decide +kernel
theorem dX5_spend_10 : decode cX5_spend 10 = .ok (.aload_n 1, 1) := by decide +kernel
theorem dX5_spend_11 : decode cX5_spend 11 = .ok (.getfield 182, 3) := by decide +kernel
theorem dX5_spend_14 : decode cX5_spend 14 = .ok (.invokevirtual 368, 3) := by decide +kernel
theorem dX5_spend_17 : decode cX5_spend 17 = .ok (.return_, 1) := by decide +kernel
theorem dX5_spendHeld_0 : decode cX5_spendHeld 0 = .ok (.aload_n 0, 1) := by decide +kernel
theorem dX5_spendHeld_1 : decode cX5_spendHeld 1 = .ok (.getfield 17, 3) := by decide +kernel
theorem dX5_spendHeld_4 : decode cX5_spendHeld 4 = .ok (.aload_n 1, 1) := by decide +kernel
theorem dX5_spendHeld_5 : decode cX5_spendHeld 5 = .ok (.getfield 179, 3) := by decide +kernel
theorem dX5_spendHeld_8 : decode cX5_spendHeld 8 = .ok (.aaload, 1) := by decide +kernel
theorem dX5_spendHeld_9 : decode cX5_spendHeld 9 = .ok (.getfield 202, 3) := by decide +kernel
theorem dX5_spendHeld_12 : decode cX5_spendHeld 12 = .ok (.dup, 1) := by decide +kernel
theorem dX5_spendHeld_13 : decode cX5_spendHeld 13 = .ok (.getfield 236, 3) := by decide +kernel
theorem dX5_spendHeld_16 : decode cX5_spendHeld 16 = .ok (.aload_n 1, 1) := by decide +kernel
theorem dX5_spendHeld_17 : decode cX5_spendHeld 17 = .ok (.getfield 367, 3) := by decide +kernel
theorem dX5_spendHeld_20 : decode cX5_spendHeld 20 = .ok (.isub, 1) := by decide +kernel
theorem dX5_spendHeld_21 : decode cX5_spendHeld 21 = .ok (.putfield 236, 3) := by decide +kernel
theorem dX5_spendHeld_24 : decode cX5_spendHeld 24 = .ok (.aload_n 1, 1) := by decide +kernel
theorem dX5_spendHeld_25 : decode cX5_spendHeld 25 = .ok (.iconst 0, 1) := by decide +kernel
theorem dX5_spendHeld_26 : decode cX5_spendHeld 26 = .ok (.putfield 367, 3) := by decide +kernel
theorem dX5_spendHeld_29 : decode cX5_spendHeld 29 = .ok (.aload_n 0, 1) := by decide +kernel
theorem dX5_spendHeld_30 : decode cX5_spendHeld 30 = .ok (.aload_n 1, 1) := by decide +kernel
theorem dX5_spendHeld_31 : decode cX5_spendHeld 31 = .ok (.invokevirtual 364, 3) := by decide +kernel
theorem dX5_spendHeld_34 : decode cX5_spendHeld 34 = .ok (.return_, 1) := by decide +kernel
theorem dX5_lessenDay_0 : decode cX5_lessenDay 0 = .ok (.aload_n 1, 1) := by decide +kernel
theorem dX5_lessenDay_1 : decode cX5_lessenDay 1 = .ok (.getfield 167, 3) := by decide +kernel
theorem dX5_lessenDay_4 : decode cX5_lessenDay 4 = .ok (.bipush 100, 2) := by decide +kernel
theorem dX5_lessenDay_6 : decode cX5_lessenDay 6 = .ok (.idiv, 1) := by decide +kernel
theorem dX5_lessenDay_7 : decode cX5_lessenDay 7 = .ok (.aload_n 0, 1) := by decide +kernel
theorem dX5_lessenDay_8 : decode cX5_lessenDay 8 = .ok (.getfield 108, 3) := by decide +kernel
theorem dX5_lessenDay_11 : decode cX5_lessenDay 11 = .ok (.bipush 100, 2) := by decide +kernel
theorem dX5_lessenDay_13 : decode cX5_lessenDay 13 = .ok (.idiv, 1) := by decide +kernel
theorem dX5_lessenDay_14 : decode cX5_lessenDay 14 = .ok (.if_icmp .ne 24, 3) := by decide +kernel
theorem dX5_lessenDay_17 : decode cX5_lessenDay 17 = .ok (.aload_n 0, 1) := by decide +kernel
theorem dX5_lessenDay_18 : decode cX5_lessenDay 18 = .ok (.getfield 17, 3) := by decide +kernel
theorem dX5_lessenDay_21 : decode cX5_lessenDay 21 = .ok (.aload_n 1, 1) := by decide +kernel
theorem dX5_lessenDay_22 : decode cX5_lessenDay 22 = .ok (.getfield 179, 3) := by decide +kernel
theorem dX5_lessenDay_25 : decode cX5_lessenDay 25 = .ok (.aaload, 1) := by decide +kernel
theorem dX5_lessenDay_26 : decode cX5_lessenDay 26 = .ok (.getfield 202, 3) := by decide +kernel
theorem dX5_lessenDay_29 : decode cX5_lessenDay 29 = .ok (.dup, 1) := by decide +kernel
theorem dX5_lessenDay_30 : decode cX5_lessenDay 30 = .ok (.getfield 233, 3) := by decide +kernel
theorem dX5_lessenDay_33 : decode cX5_lessenDay 33 = .ok (.iload_n 2, 1) := by decide +kernel
theorem dX5_lessenDay_34 : decode cX5_lessenDay 34 = .ok (.isub, 1) := by decide +kernel
theorem dX5_lessenDay_35 : decode cX5_lessenDay 35 = .ok (.putfield 233, 3) := by decide +kernel
theorem dX5_lessenDay_38 : decode cX5_lessenDay 38 = .ok (.return_, 1) := by decide +kernel
theorem dX5_freeHeld_0 : decode cX5_freeHeld 0 = .ok (.aload_n 0, 1) := by decide +kernel
theorem dX5_freeHeld_1 : decode cX5_freeHeld 1 = .ok (.getfield 17, 3) := by decide +kernel
theorem dX5_freeHeld_4 : decode cX5_freeHeld 4 = .ok (.aload_n 1, 1) := by decide +kernel
theorem dX5_freeHeld_5 : decode cX5_freeHeld 5 = .ok (.getfield 179, 3) := by decide +kernel
theorem dX5_freeHeld_8 : decode cX5_freeHeld 8 = .ok (.aaload, 1) := by decide +kernel
theorem dX5_freeHeld_9 : decode cX5_freeHeld 9 = .ok (.getfield 202, 3) := by decide +kernel
theorem dX5_freeHeld_12 : decode cX5_freeHeld 12 = .ok (.dup, 1) := by decide +kernel
theorem dX5_freeHeld_13 : decode cX5_freeHeld 13 = .ok (.getfield 236, 3) := by decide +kernel
theorem dX5_freeHeld_16 : decode cX5_freeHeld 16 = .ok (.aload_n 1, 1) := by decide +kernel
theorem dX5_freeHeld_17 : decode cX5_freeHeld 17 = .ok (.getfield 367, 3) := by decide +kernel
theorem dX5_freeHeld_20 : decode cX5_freeHeld 20 = .ok (.isub, 1) := by decide +kernel
theorem dX5_freeHeld_21 : decode cX5_freeHeld 21 = .ok (.putfield 236, 3) := by decide +kernel
theorem dX5_freeHeld_24 : decode cX5_freeHeld 24 = .ok (.aload_n 0, 1) := by decide +kernel
theorem dX5_freeHeld_25 : decode cX5_freeHeld 25 = .ok (.aload_n 1, 1) := by decide +kernel
theorem dX5_freeHeld_26 : decode cX5_freeHeld 26 = .ok (.aload_n 1, 1) := by decide +kernel
theorem dX5_freeHeld_27 : decode cX5_freeHeld 27 = .ok (.getfield 367, 3) := by decide +kernel
theorem dX5_freeHeld_30 : decode cX5_freeHeld 30 = .ok (.invokevirtual 372, 3) := by decide +kernel
theorem dX5_freeHeld_33 : decode cX5_freeHeld 33 = .ok (.aload_n 1, 1) := by decide +kernel
theorem dX5_freeHeld_34 : decode cX5_freeHeld 34 = .ok (.iconst 0, 1) := by decide +kernel
theorem dX5_freeHeld_35 : decode cX5_freeHeld 35 = .ok (.putfield 367, 3) := by decide +kernel
theorem dX5_freeHeld_38 : decode cX5_freeHeld 38 = .ok (.return_, 1) := by decide +kernel
theorem dX5_givePaidBack_0 : decode cX5_givePaidBack 0 = .ok (.aload_n 0, 1) := by decide +kernel
theorem dX5_givePaidBack_1 : decode cX5_givePaidBack 1 = .ok (.aload_n 1, 1) := by decide +kernel
theorem dX5_givePaidBack_2 : decode cX5_givePaidBack 2 = .ok (.aload_n 1, 1) := by decide +kernel
theorem dX5_givePaidBack_3 : decode cX5_givePaidBack 3 = .ok (.getfield 214, 3) := by decide +kernel
theorem dX5_givePaidBack_6 : decode cX5_givePaidBack 6 = .ok (.ineg, 1) := by decide +kernel
theorem dX5_givePaidBack_7 : decode cX5_givePaidBack 7 = .ok (.invokevirtual 368, 3) := by decide +kernel
theorem dX5_givePaidBack_10 : decode cX5_givePaidBack 10 = .ok (.aload_n 0, 1) := by decide +kernel
theorem dX5_givePaidBack_11 : decode cX5_givePaidBack 11 = .ok (.aload_n 1, 1) := by decide +kernel
theorem dX5_givePaidBack_12 : decode cX5_givePaidBack 12 = .ok (.aload_n 1, 1) := by decide +kernel
theorem dX5_givePaidBack_13 : decode cX5_givePaidBack 13 = .ok (.getfield 214, 3) := by decide +kernel
theorem dX5_givePaidBack_16 : decode cX5_givePaidBack 16 = .ok (.invokevirtual 372, 3) := by decide +kernel
theorem dX5_givePaidBack_19 : decode cX5_givePaidBack 19 = .ok (.aload_n 1, 1) := by decide +kernel
theorem dX5_givePaidBack_20 : decode cX5_givePaidBack 20 = .ok (.iconst 0, 1) := by decide +kernel
theorem dX5_givePaidBack_21 : decode cX5_givePaidBack 21 = .ok (.putfield 214, 3) := by decide +kernel
theorem dX5_givePaidBack_24 : decode cX5_givePaidBack 24 = .ok (.return_, 1) := by decide +kernel
theorem dX5_uncount_0 : decode cX5_uncount 0 = .ok (.aload_n 0, 1) := by decide +kernel
theorem dX5_uncount_1 : decode cX5_uncount 1 = .ok (.getfield 17, 3) := by decide +kernel
theorem dX5_uncount_4 : decode cX5_uncount 4 = .ok (.aload_n 1, 1) := by decide +kernel
theorem dX5_uncount_5 : decode cX5_uncount 5 = .ok (.getfield 179, 3) := by decide +kernel
theorem dX5_uncount_8 : decode cX5_uncount 8 = .ok (.aaload, 1) := by decide +kernel
theorem dX5_uncount_9 : decode cX5_uncount 9 = .ok (.getfield 202, 3) := by decide +kernel
theorem dX5_uncount_12 : decode cX5_uncount 12 = .ok (.astore_n 2, 1) := by decide +kernel
theorem dX5_uncount_13 : decode cX5_uncount 13 = .ok (.aload_n 2, 1) := by decide +kernel
theorem dX5_uncount_14 : decode cX5_uncount 14 = .ok (.dup, 1) := by decide +kernel
theorem dX5_uncount_15 : decode cX5_uncount 15 = .ok (.getfield 239, 3) := by decide +kernel
theorem dX5_uncount_18 : decode cX5_uncount 18 = .ok (.iconst 1, 1) := by decide +kernel
theorem dX5_uncount_19 : decode cX5_uncount 19 = .ok (.isub, 1) := by decide +kernel
theorem dX5_uncount_20 : decode cX5_uncount 20 = .ok (.putfield 239, 3) := by decide +kernel
theorem dX5_uncount_23 : decode cX5_uncount 23 = .ok (.aload_n 1, 1) := by decide +kernel
theorem dX5_uncount_24 : decode cX5_uncount 24 = .ok (.getfield 167, 3) := by decide +kernel
theorem dX5_uncount_27 : decode cX5_uncount 27 = .ok (.aload_n 0, 1) := by decide +kernel
theorem dX5_uncount_28 : decode cX5_uncount 28 = .ok (.getfield 108, 3) := by decide +kernel
theorem dX5_uncount_31 : decode cX5_uncount 31 = .ok (.if_icmp .ne 40, 3) := by decide +kernel
theorem dX5_uncount_34 : decode cX5_uncount 34 = .ok (.aload_n 2, 1) := by decide +kernel
theorem dX5_uncount_35 : decode cX5_uncount 35 = .ok (.dup, 1) := by decide +kernel
theorem dX5_uncount_36 : decode cX5_uncount 36 = .ok (.getfield 375, 3) := by decide +kernel
theorem dX5_uncount_39 : decode cX5_uncount 39 = .ok (.iconst 1, 1) := by decide +kernel
theorem dX5_uncount_40 : decode cX5_uncount 40 = .ok (.isub, 1) := by decide +kernel
theorem dX5_uncount_41 : decode cX5_uncount 41 = .ok (.putfield 375, 3) := by decide +kernel
theorem dX5_uncount_44 : decode cX5_uncount 44 = .ok (.aload_n 0, 1) := by decide +kernel
theorem dX5_uncount_45 : decode cX5_uncount 45 = .ok (.getfield 11, 3) := by decide +kernel
theorem dX5_uncount_48 : decode cX5_uncount 48 = .ok (.aload_n 1, 1) := by decide +kernel
theorem dX5_uncount_49 : decode cX5_uncount 49 = .ok (.getfield 173, 3) := by decide +kernel
theorem dX5_uncount_52 : decode cX5_uncount 52 = .ok (.aaload, 1) := by decide +kernel
theorem dX5_uncount_53 : decode cX5_uncount 53 = .ok (.dup, 1) := by decide +kernel
theorem dX5_uncount_54 : decode cX5_uncount 54 = .ok (.getfield 279, 3) := by decide +kernel
theorem dX5_uncount_57 : decode cX5_uncount 57 = .ok (.lconst 1, 1) := by decide +kernel
theorem dX5_uncount_58 : decode cX5_uncount 58 = .ok (.aload_n 1, 1) := by decide +kernel
theorem dX5_uncount_59 : decode cX5_uncount 59 = .ok (.getfield 179, 3) := by decide +kernel
theorem dX5_uncount_62 : decode cX5_uncount 62 = .ok (.lshl, 1) := by decide +kernel
theorem dX5_uncount_63 : decode cX5_uncount 63 = .ok (.ldc2_w 159, 3) := by decide +kernel
theorem dX5_uncount_66 : decode cX5_uncount 66 = .ok (.lxor, 1) := by decide +kernel
theorem dX5_uncount_67 : decode cX5_uncount 67 = .ok (.land, 1) := by decide +kernel
theorem dX5_uncount_68 : decode cX5_uncount 68 = .ok (.putfield 279, 3) := by decide +kernel
theorem dX5_uncount_71 : decode cX5_uncount 71 = .ok (.aload_n 1, 1) := by decide +kernel
theorem dX5_uncount_72 : decode cX5_uncount 72 = .ok (.getfield 185, 3) := by decide +kernel
theorem dX5_uncount_75 : decode cX5_uncount 75 = .ok (.iconst 2, 1) := by decide +kernel
theorem dX5_uncount_76 : decode cX5_uncount 76 = .ok (.if_icmp .eq 4, 3) := by decide +kernel
theorem dX5_uncount_79 : decode cX5_uncount 79 = .ok (.return_, 1) := by decide +kernel
theorem dX5_uncount_80 : decode cX5_uncount 80 = .ok (.aload_n 2, 1) := by decide +kernel
theorem dX5_uncount_81 : decode cX5_uncount 81 = .ok (.dup, 1) := by decide +kernel
theorem dX5_uncount_82 : decode cX5_uncount 82 = .ok (.getfield 206, 3) := by decide +kernel
theorem dX5_uncount_85 : decode cX5_uncount 85 = .ok (.iconst 1, 1) := by decide +kernel
theorem dX5_uncount_86 : decode cX5_uncount 86 = .ok (.isub, 1) := by decide +kernel
theorem dX5_uncount_87 : decode cX5_uncount 87 = .ok (.putfield 206, 3) := by decide +kernel
theorem dX5_uncount_90 : decode cX5_uncount 90 = .ok (.aload_n 1, 1) := by decide +kernel
theorem dX5_uncount_91 : decode cX5_uncount 91 = .ok (.getfield 199, 3) := by decide +kernel
theorem dX5_uncount_94 : decode cX5_uncount 94 = .ok (.aload_n 0, 1) := by decide +kernel
theorem dX5_uncount_95 : decode cX5_uncount 95 = .ok (.getfield 108, 3) := by decide +kernel
theorem dX5_uncount_98 : decode cX5_uncount 98 = .ok (.if_icmp .ne 13, 3) := by decide +kernel
theorem dX5_uncount_101 : decode cX5_uncount 101 = .ok (.aload_n 2, 1) := by decide +kernel
theorem dX5_uncount_102 : decode cX5_uncount 102 = .ok (.dup, 1) := by decide +kernel
theorem dX5_uncount_103 : decode cX5_uncount 103 = .ok (.getfield 211, 3) := by decide +kernel
theorem dX5_uncount_106 : decode cX5_uncount 106 = .ok (.iconst 1, 1) := by decide +kernel
theorem dX5_uncount_107 : decode cX5_uncount 107 = .ok (.isub, 1) := by decide +kernel
theorem dX5_uncount_108 : decode cX5_uncount 108 = .ok (.putfield 211, 3) := by decide +kernel
theorem dX5_uncount_111 : decode cX5_uncount 111 = .ok (.return_, 1) := by decide +kernel
theorem dX5_hold_0 : decode cX5_hold 0 = .ok (.aload_n 1, 1) := by decide +kernel
theorem dX5_hold_1 : decode cX5_hold 1 = .ok (.iconst 1, 1) := by decide +kernel
theorem dX5_hold_2 : decode cX5_hold 2 = .ok (.putfield 185, 3) := by decide +kernel
theorem dX5_hold_5 : decode cX5_hold 5 = .ok (.aload_n 1, 1) := by decide +kernel
theorem dX5_hold_6 : decode cX5_hold 6 = .ok (.aload_n 1, 1) := by decide +kernel
theorem dX5_hold_7 : decode cX5_hold 7 = .ok (.getfield 182, 3) := by decide +kernel
theorem dX5_hold_10 : decode cX5_hold 10 = .ok (.putfield 367, 3) := by decide +kernel
theorem dX5_hold_13 : decode cX5_hold 13 = .ok (.aload_n 0, 1) := by decide +kernel
theorem dX5_hold_14 : decode cX5_hold 14 = .ok (.getfield 17, 3) := by decide +kernel
theorem dX5_hold_17 : decode cX5_hold 17 = .ok (.aload_n 1, 1) := by decide +kernel
theorem dX5_hold_18 : decode cX5_hold 18 = .ok (.getfield 179, 3) := by decide +kernel
theorem dX5_hold_21 : decode cX5_hold 21 = .ok (.aaload, 1) := by decide +kernel
theorem dX5_hold_22 : decode cX5_hold 22 = .ok (.getfield 202, 3) := by decide +kernel
theorem dX5_hold_25 : decode cX5_hold 25 = .ok (.dup, 1) := by decide +kernel
theorem dX5_hold_26 : decode cX5_hold 26 = .ok (.getfield 236, 3) := by decide +kernel
theorem dX5_hold_29 : decode cX5_hold 29 = .ok (.aload_n 1, 1) := by decide +kernel
theorem dX5_hold_30 : decode cX5_hold 30 = .ok (.getfield 182, 3) := by decide +kernel
theorem dX5_hold_33 : decode cX5_hold 33 = .ok (.iadd, 1) := by decide +kernel
theorem dX5_hold_34 : decode cX5_hold 34 = .ok (.putfield 236, 3) := by decide +kernel
theorem dX5_hold_37 : decode cX5_hold 37 = .ok (.aload_n 0, 1) := by decide +kernel
theorem dX5_hold_38 : decode cX5_hold 38 = .ok (.aload_n 0, 1) := by decide +kernel
theorem dX5_hold_39 : decode cX5_hold 39 = .ok (.getfield 48, 3) := by decide +kernel
theorem dX5_hold_42 : decode cX5_hold 42 = .ok (.aload_n 1, 1) := by decide +kernel
theorem dX5_hold_43 : decode cX5_hold 43 = .ok (.getfield 192, 3) := by decide +kernel
theorem dX5_hold_46 : decode cX5_hold 46 = .ok (.invokestatic 292, 3) := by decide +kernel
theorem dX5_hold_49 : decode cX5_hold 49 = .ok (.putfield 48, 3) := by decide +kernel
theorem dX5_hold_52 : decode cX5_hold 52 = .ok (.return_, 1) := by decide +kernel
theorem dX5_closeTick_0 : decode cX5_closeTick 0 = .ok (.iconst 0, 1) := by decide +kernel
theorem dX5_closeTick_1 : decode cX5_closeTick 1 = .ok (.istore_n 1, 1) := by decide +kernel
theorem dX5_closeTick_2 : decode cX5_closeTick 2 = .ok (.iload_n 1, 1) := by decide +kernel
theorem dX5_closeTick_3 : decode cX5_closeTick 3 = .ok (.aload_n 0, 1) := by decide +kernel
theorem dX5_closeTick_4 : decode cX5_closeTick 4 = .ok (.getfield 79, 3) := by decide +kernel
theorem dX5_closeTick_7 : decode cX5_closeTick 7 = .ok (.if_icmp .ge 21, 3) := by decide +kernel
theorem dX5_closeTick_10 : decode cX5_closeTick 10 = .ok (.aload_n 0, 1) := by decide +kernel
theorem dX5_closeTick_11 : decode cX5_closeTick 11 = .ok (.getfield 17, 3) := by decide +kernel
theorem dX5_closeTick_14 : decode cX5_closeTick 14 = .ok (.iload_n 1, 1) := by decide +kernel
theorem dX5_closeTick_15 : decode cX5_closeTick 15 = .ok (.aaload, 1) := by decide +kernel
theorem dX5_closeTick_16 : decode cX5_closeTick 16 = .ok (.getfield 202, 3) := by decide +kernel
theorem dX5_closeTick_19 : decode cX5_closeTick 19 = .ok (.invokevirtual 276, 3) := by decide +kernel
theorem dX5_closeTick_22 : decode cX5_closeTick 22 = .ok (.iinc 1 1, 3) := by decide +kernel
theorem dX5_closeTick_25 : decode cX5_closeTick 25 = .ok (.goto (-23), 3) := by decide +kernel
theorem dX5_closeTick_28 : decode cX5_closeTick 28 = .ok (.iconst 0, 1) := by decide +kernel
theorem dX5_closeTick_29 : decode cX5_closeTick 29 = .ok (.istore_n 1, 1) := by decide +kernel
theorem dX5_closeTick_30 : decode cX5_closeTick 30 = .ok (.iload_n 1, 1) := by decide +kernel
theorem dX5_closeTick_31 : decode cX5_closeTick 31 = .ok (.aload_n 0, 1) := by decide +kernel
theorem dX5_closeTick_32 : decode cX5_closeTick 32 = .ok (.getfield 55, 3) := by decide +kernel
theorem dX5_closeTick_35 : decode cX5_closeTick 35 = .ok (.if_icmp .ge 19, 3) := by decide +kernel
theorem dX5_closeTick_38 : decode cX5_closeTick 38 = .ok (.aload_n 0, 1) := by decide +kernel
theorem dX5_closeTick_39 : decode cX5_closeTick 39 = .ok (.getfield 11, 3) := by decide +kernel
theorem dX5_closeTick_42 : decode cX5_closeTick 42 = .ok (.iload_n 1, 1) := by decide +kernel
theorem dX5_closeTick_43 : decode cX5_closeTick 43 = .ok (.aaload, 1) := by decide +kernel
theorem dX5_closeTick_44 : decode cX5_closeTick 44 = .ok (.lconst 0, 1) := by decide +kernel
theorem dX5_closeTick_45 : decode cX5_closeTick 45 = .ok (.putfield 279, 3) := by decide +kernel
theorem dX5_closeTick_48 : decode cX5_closeTick 48 = .ok (.iinc 1 1, 3) := by decide +kernel
theorem dX5_closeTick_51 : decode cX5_closeTick 51 = .ok (.goto (-21), 3) := by decide +kernel
theorem dX5_closeTick_54 : decode cX5_closeTick 54 = .ok (.return_, 1) := by decide +kernel
theorem dX5_closeDay_0 : decode cX5_closeDay 0 = .ok (.iconst 0, 1) := by decide +kernel
theorem dX5_closeDay_1 : decode cX5_closeDay 1 = .ok (.istore_n 1, 1) := by decide +kernel
theorem dX5_closeDay_2 : decode cX5_closeDay 2 = .ok (.iload_n 1, 1) := by decide +kernel
theorem dX5_closeDay_3 : decode cX5_closeDay 3 = .ok (.aload_n 0, 1) := by decide +kernel
theorem dX5_closeDay_4 : decode cX5_closeDay 4 = .ok (.getfield 79, 3) := by decide +kernel
theorem dX5_closeDay_7 : decode cX5_closeDay 7 = .ok (.if_icmp .ge 22, 3) := by decide +kernel
theorem dX5_closeDay_10 : decode cX5_closeDay 10 = .ok (.aload_n 0, 1) := by decide +kernel
theorem dX5_closeDay_11 : decode cX5_closeDay 11 = .ok (.getfield 17, 3) := by decide +kernel
theorem dX5_closeDay_14 : decode cX5_closeDay 14 = .ok (.iload_n 1, 1) := by decide +kernel
theorem dX5_closeDay_15 : decode cX5_closeDay 15 = .ok (.aaload, 1) := by decide +kernel
theorem dX5_closeDay_16 : decode cX5_closeDay 16 = .ok (.getfield 202, 3) := by decide +kernel
theorem dX5_closeDay_19 : decode cX5_closeDay 19 = .ok (.iconst 0, 1) := by decide +kernel
theorem dX5_closeDay_20 : decode cX5_closeDay 20 = .ok (.putfield 233, 3) := by decide +kernel
theorem dX5_closeDay_23 : decode cX5_closeDay 23 = .ok (.iinc 1 1, 3) := by decide +kernel
theorem dX5_closeDay_26 : decode cX5_closeDay 26 = .ok (.goto (-24), 3) := by decide +kernel
theorem dX5_closeDay_29 : decode cX5_closeDay 29 = .ok (.return_, 1) := by decide +kernel
theorem dX5_setThrottles_0 : decode cX5_setThrottles 0 = .ok (.iconst 0, 1) := by decide +kernel
theorem dX5_setThrottles_1 : decode cX5_setThrottles 1 = .ok (.istore_n 1, 1) := by decide +kernel
theorem dX5_setThrottles_2 : decode cX5_setThrottles 2 = .ok (.iload_n 1, 1) := by decide +kernel
theorem dX5_setThrottles_3 : decode cX5_setThrottles 3 = .ok (.aload_n 0, 1) := by decide +kernel
theorem dX5_setThrottles_4 : decode cX5_setThrottles 4 = .ok (.getfield 79, 3) := by decide +kernel
theorem dX5_setThrottles_7 : decode cX5_setThrottles 7 = .ok (.if_icmp .ge 37, 3) := by decide +kernel
theorem dX5_setThrottles_10 : decode cX5_setThrottles 10 = .ok (.aload_n 0, 1) := by decide +kernel
theorem dX5_setThrottles_11 : decode cX5_setThrottles 11 = .ok (.getfield 17, 3) := by decide +kernel
theorem dX5_setThrottles_14 : decode cX5_setThrottles 14 = .ok (.iload_n 1, 1) := by decide +kernel
theorem dX5_setThrottles_15 : decode cX5_setThrottles 15 = .ok (.aaload, 1) := by decide +kernel
theorem dX5_setThrottles_16 : decode cX5_setThrottles 16 = .ok (.getfield 111, 3) := by decide +kernel
theorem dX5_setThrottles_19 : decode cX5_setThrottles 19 = .ok (.ifCond .ne 19, 3) := by decide +kernel
theorem dX5_setThrottles_22 : decode cX5_setThrottles 22 = .ok (.aload_n 0, 1) := by decide +kernel
theorem dX5_setThrottles_23 : decode cX5_setThrottles 23 = .ok (.getfield 17, 3) := by decide +kernel
theorem dX5_setThrottles_26 : decode cX5_setThrottles 26 = .ok (.iload_n 1, 1) := by decide +kernel
theorem dX5_setThrottles_27 : decode cX5_setThrottles 27 = .ok (.aaload, 1) := by decide +kernel
theorem dX5_setThrottles_28 : decode cX5_setThrottles 28 = .ok (.aload_n 0, 1) := by decide +kernel
theorem dX5_setThrottles_29 : decode cX5_setThrottles 29 = .ok (.getfield 108, 3) := by decide +kernel
theorem dX5_setThrottles_32 : decode cX5_setThrottles 32 = .ok (.bipush 100, 2) := by decide +kernel
theorem dX5_setThrottles_34 : decode cX5_setThrottles 34 = .ok (.irem, 1) := by decide +kernel
theorem dX5_setThrottles_35 : decode cX5_setThrottles 35 = .ok (.invokevirtual 295, 3) := by decide +kernel
theorem dX5_setThrottles_38 : decode cX5_setThrottles 38 = .ok (.iinc 1 1, 3) := by decide +kernel
theorem dX5_setThrottles_41 : decode cX5_setThrottles 41 = .ok (.goto (-39), 3) := by decide +kernel
theorem dX5_setThrottles_44 : decode cX5_setThrottles 44 = .ok (.return_, 1) := by decide +kernel
theorem dX5_freeLateSales_0 : decode cX5_freeLateSales 0 = .ok (.aload_n 0, 1) := by decide +kernel
theorem dX5_freeLateSales_1 : decode cX5_freeLateSales 1 = .ok (.sipush 10000, 3) := by decide +kernel
theorem dX5_freeLateSales_4 : decode cX5_freeLateSales 4 = .ok (.putfield 48, 3) := by decide +kernel
theorem dX5_freeLateSales_7 : decode cX5_freeLateSales 7 = .ok (.iconst 0, 1) := by decide +kernel
theorem dX5_freeLateSales_8 : decode cX5_freeLateSales 8 = .ok (.istore_n 1, 1) := by decide +kernel
theorem dX5_freeLateSales_9 : decode cX5_freeLateSales 9 = .ok (.iload_n 1, 1) := by decide +kernel
theorem dX5_freeLateSales_10 : decode cX5_freeLateSales 10 = .ok (.aload_n 0, 1) := by decide +kernel
theorem dX5_freeLateSales_11 : decode cX5_freeLateSales 11 = .ok (.getfield 138, 3) := by decide +kernel
theorem dX5_freeLateSales_14 : decode cX5_freeLateSales 14 = .ok (.if_icmp .ge 66, 3) := by decide +kernel
theorem dX5_freeLateSales_17 : decode cX5_freeLateSales 17 = .ok (.aload_n 0, 1) := by decide +kernel
theorem dX5_freeLateSales_18 : decode cX5_freeLateSales 18 = .ok (.getfield 23, 3) := by decide +kernel
theorem dX5_freeLateSales_21 : decode cX5_freeLateSales 21 = .ok (.iload_n 1, 1) := by decide +kernel
theorem dX5_freeLateSales_22 : decode cX5_freeLateSales 22 = .ok (.aaload, 1) := by decide +kernel
theorem dX5_freeLateSales_23 : decode cX5_freeLateSales 23 = .ok (.astore_n 2, 1) := by decide +kernel
theorem dX5_freeLateSales_24 : decode cX5_freeLateSales 24 = .ok (.aload_n 2, 1) := by decide +kernel
theorem dX5_freeLateSales_25 : decode cX5_freeLateSales 25 = .ok (.getfield 185, 3) := by decide +kernel
theorem dX5_freeLateSales_28 : decode cX5_freeLateSales 28 = .ok (.iconst 1, 1) := by decide +kernel
theorem dX5_freeLateSales_29 : decode cX5_freeLateSales 29 = .ok (.if_icmp .eq 6, 3) := by decide +kernel
theorem dX5_freeLateSales_32 : decode cX5_freeLateSales 32 = .ok (.goto 42, 3) := by decide +kernel
theorem dX5_freeLateSales_35 : decode cX5_freeLateSales 35 = .ok (.aload_n 0, 1) := by decide +kernel
theorem dX5_freeLateSales_36 : decode cX5_freeLateSales 36 = .ok (.getfield 108, 3) := by decide +kernel
theorem dX5_freeLateSales_39 : decode cX5_freeLateSales 39 = .ok (.aload_n 2, 1) := by decide +kernel
theorem dX5_freeLateSales_40 : decode cX5_freeLateSales 40 = .ok (.getfield 192, 3) := by decide +kernel
theorem dX5_freeLateSales_43 : decode cX5_freeLateSales 43 = .ok (.if_icmp .le 16, 3) := by decide +kernel
theorem dX5_freeLateSales_46 : decode cX5_freeLateSales 46 = .ok (.aload_n 0, 1) := by decide +kernel
theorem dX5_freeLateSales_47 : decode cX5_freeLateSales 47 = .ok (.aload_n 2, 1) := by decide +kernel
theorem dX5_freeLateSales_48 : decode cX5_freeLateSales 48 = .ok (.invokevirtual 217, 3) := by decide +kernel
theorem dX5_freeLateSales_51 : decode cX5_freeLateSales 51 = .ok (.aload_n 2, 1) := by decide +kernel
theorem dX5_freeLateSales_52 : decode cX5_freeLateSales 52 = .ok (.iconst 0, 1) := by decide +kernel
theorem dX5_freeLateSales_53 : decode cX5_freeLateSales 53 = .ok (.putfield 185, 3) := by decide +kernel
theorem dX5_freeLateSales_56 : decode cX5_freeLateSales 56 = .ok (.goto 18, 3) := by decide +kernel
theorem dX5_freeLateSales_59 : decode cX5_freeLateSales 59 = .ok (.aload_n 0, 1) := by decide +kernel
theorem dX5_freeLateSales_60 : decode cX5_freeLateSales 60 = .ok (.aload_n 0, 1) := by decide +kernel
theorem dX5_freeLateSales_61 : decode cX5_freeLateSales 61 = .ok (.getfield 48, 3) := by decide +kernel
theorem dX5_freeLateSales_64 : decode cX5_freeLateSales 64 = .ok (.aload_n 2, 1) := by decide +kernel
theorem dX5_freeLateSales_65 : decode cX5_freeLateSales 65 = .ok (.getfield 192, 3) := by decide +kernel
theorem dX5_freeLateSales_68 : decode cX5_freeLateSales 68 = .ok (.invokestatic 292, 3) := by decide +kernel
theorem dX5_freeLateSales_71 : decode cX5_freeLateSales 71 = .ok (.putfield 48, 3) := by decide +kernel
theorem dX5_freeLateSales_74 : decode cX5_freeLateSales 74 = .ok (.iinc 1 1, 3) := by decide +kernel
theorem dX5_freeLateSales_77 : decode cX5_freeLateSales 77 = .ok (.goto (-68), 3) := by decide +kernel
theorem dX5_freeLateSales_80 : decode cX5_freeLateSales 80 = .ok (.return_, 1) := by decide +kernel
theorem dX5_goOneTick_0 : decode cX5_goOneTick 0 = .ok (.aload_n 0, 1) := by decide +kernel
theorem dX5_goOneTick_1 : decode cX5_goOneTick 1 = .ok (.dup, 1) := by decide +kernel
theorem dX5_goOneTick_2 : decode cX5_goOneTick 2 = .ok (.getfield 108, 3) := by decide +kernel
theorem dX5_goOneTick_5 : decode cX5_goOneTick 5 = .ok (.iconst 1, 1) := by decide +kernel
theorem dX5_goOneTick_6 : decode cX5_goOneTick 6 = .ok (.iadd, 1) := by decide +kernel
theorem dX5_goOneTick_7 : decode cX5_goOneTick 7 = .ok (.putfield 108, 3) := by decide +kernel
theorem dX5_goOneTick_10 : decode cX5_goOneTick 10 = .ok (.aload_n 0, 1) := by decide +kernel
theorem dX5_goOneTick_11 : decode cX5_goOneTick 11 = .ok (.getfield 108, 3) := by decide +kernel
theorem dX5_goOneTick_14 : decode cX5_goOneTick 14 = .ok (.bipush 100, 2) := by decide +kernel
theorem dX5_goOneTick_16 : decode cX5_goOneTick 16 = .ok (.irem, 1) := by decide +kernel
theorem dX5_goOneTick_17 : decode cX5_goOneTick 17 = .ok (.ifCond .ne 7, 3) := by decide +kernel
theorem dX5_goOneTick_20 : decode cX5_goOneTick 20 = .ok (.aload_n 0, 1) := by decide +kernel
theorem dX5_goOneTick_21 : decode cX5_goOneTick 21 = .ok (.invokevirtual 283, 3) := by decide +kernel
theorem dX5_goOneTick_24 : decode cX5_goOneTick 24 = .ok (.aload_n 0, 1) := by decide +kernel
theorem dX5_goOneTick_25 : decode cX5_goOneTick 25 = .ok (.getfield 108, 3) := by decide +kernel
theorem dX5_goOneTick_28 : decode cX5_goOneTick 28 = .ok (.aload_n 0, 1) := by decide +kernel
theorem dX5_goOneTick_29 : decode cX5_goOneTick 29 = .ok (.getfield 48, 3) := by decide +kernel
theorem dX5_goOneTick_32 : decode cX5_goOneTick 32 = .ok (.if_icmp .le 7, 3) := by decide +kernel
theorem dX5_goOneTick_35 : decode cX5_goOneTick 35 = .ok (.aload_n 0, 1) := by decide +kernel
theorem dX5_goOneTick_36 : decode cX5_goOneTick 36 = .ok (.invokevirtual 286, 3) := by decide +kernel
theorem dX5_goOneTick_39 : decode cX5_goOneTick 39 = .ok (.aload_n 0, 1) := by decide +kernel
theorem dX5_goOneTick_40 : decode cX5_goOneTick 40 = .ok (.getfield 126, 3) := by decide +kernel
theorem dX5_goOneTick_43 : decode cX5_goOneTick 43 = .ok (.ifCond .eq 19, 3) := by decide +kernel
theorem dX5_goOneTick_46 : decode cX5_goOneTick 46 = .ok (.aload_n 0, 1) := by decide +kernel
theorem dX5_goOneTick_47 : decode cX5_goOneTick 47 = .ok (.getfield 108, 3) := by decide +kernel
theorem dX5_goOneTick_50 : decode cX5_goOneTick 50 = .ok (.aload_n 0, 1) := by decide +kernel
theorem dX5_goOneTick_51 : decode cX5_goOneTick 51 = .ok (.getfield 126, 3) := by decide +kernel
theorem dX5_goOneTick_54 : decode cX5_goOneTick 54 = .ok (.irem, 1) := by decide +kernel
theorem dX5_goOneTick_55 : decode cX5_goOneTick 55 = .ok (.ifCond .ne 7, 3) := by decide +kernel
theorem dX5_goOneTick_58 : decode cX5_goOneTick 58 = .ok (.aload_n 0, 1) := by decide +kernel
theorem dX5_goOneTick_59 : decode cX5_goOneTick 59 = .ok (.invokevirtual 289, 3) := by decide +kernel
theorem dX5_goOneTick_62 : decode cX5_goOneTick 62 = .ok (.return_, 1) := by decide +kernel
theorem dX5_tick_0 : decode cX5_tick 0 = .ok (.iload_n 1, 1) := by decide +kernel
theorem dX5_tick_1 : decode cX5_tick 1 = .ok (.iconst 1, 1) := by decide +kernel
theorem dX5_tick_2 : decode cX5_tick 2 = .ok (.bipush 100, 2) := by decide +kernel
theorem dX5_tick_4 : decode cX5_tick 4 = .ok (.invokestatic 65, 3) := by decide +kernel
theorem dX5_tick_7 : decode cX5_tick 7 = .ok (.ifCond .eq 15, 3) := by decide +kernel
theorem dX5_tick_10 : decode cX5_tick 10 = .ok (.aload_n 0, 1) := by decide +kernel
theorem dX5_tick_11 : decode cX5_tick 11 = .ok (.getfield 108, 3) := by decide +kernel
theorem dX5_tick_14 : decode cX5_tick 14 = .ok (.sipush 10000, 3) := by decide +kernel
theorem dX5_tick_17 : decode cX5_tick 17 = .ok (.iload_n 1, 1) := by decide +kernel
theorem dX5_tick_18 : decode cX5_tick 18 = .ok (.isub, 1) := by decide +kernel
theorem dX5_tick_19 : decode cX5_tick 19 = .ok (.if_icmp .le 5, 3) := by decide +kernel
theorem dX5_tick_22 : decode cX5_tick 22 = .ok (.iconst (-1), 1) := by decide +kernel
theorem dX5_tick_23 : decode cX5_tick 23 = .ok (.ireturn, 1) := by decide +kernel
theorem dX5_tick_24 : decode cX5_tick 24 = .ok (.aload_n 0, 1) := by decide +kernel
theorem dX5_tick_25 : decode cX5_tick 25 = .ok (.invokevirtual 129, 3) := by decide +kernel
theorem dX5_tick_28 : decode cX5_tick 28 = .ok (.iconst 0, 1) := by decide +kernel
theorem dX5_tick_29 : decode cX5_tick 29 = .ok (.istore_n 2, 1) := by decide +kernel
theorem dX5_tick_30 : decode cX5_tick 30 = .ok (.iload_n 2, 1) := by decide +kernel
theorem dX5_tick_31 : decode cX5_tick 31 = .ok (.iload_n 1, 1) := by decide +kernel
theorem dX5_tick_32 : decode cX5_tick 32 = .ok (.if_icmp .ge 13, 3) := by decide +kernel
theorem dX5_tick_35 : decode cX5_tick 35 = .ok (.aload_n 0, 1) := by decide +kernel
theorem dX5_tick_36 : decode cX5_tick 36 = .ok (.invokevirtual 132, 3) := by decide +kernel
theorem dX5_tick_39 : decode cX5_tick 39 = .ok (.iinc 2 1, 3) := by decide +kernel
theorem dX5_tick_42 : decode cX5_tick 42 = .ok (.goto (-12), 3) := by decide +kernel
theorem dX5_tick_45 : decode cX5_tick 45 = .ok (.aload_n 0, 1) := by decide +kernel
theorem dX5_tick_46 : decode cX5_tick 46 = .ok (.getfield 108, 3) := by decide +kernel
theorem dX5_tick_49 : decode cX5_tick 49 = .ok (.ireturn, 1) := by decide +kernel
