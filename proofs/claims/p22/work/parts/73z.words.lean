theorem wm_357 : Cond.methodLink RX5 101 yX0_isApartFrom ∈ lw_B := lb_2 49 (by decide +kernel) rfl
theorem wm_358 : Cond.instanceMethod yX0_isApartFrom ∈ lw_B := lb_2 50 (by decide +kernel) rfl
theorem wm_359 : Cond.selects RX0 yX0_isApartFrom yX0_isApartFrom ∈ lw_B := lb_2 51 (by decide +kernel) rfl
theorem wm_360 : Cond.code yX0_isApartFrom cX0_isApartFrom 2 (some .boolean) ∈ lw_B := lb_2 52 (by decide +kernel) rfl
theorem wm_361 : Cond.methodLink RX5 104 yX0_setApart ∈ lw_B := lb_2 53 (by decide +kernel) rfl
theorem wm_362 : Cond.instanceMethod yX0_setApart ∈ lw_B := lb_2 54 (by decide +kernel) rfl
theorem wm_363 : Cond.selects RX0 yX0_setApart yX0_setApart ∈ lw_B := lb_2 55 (by decide +kernel) rfl
theorem wm_364 : Cond.code yX0_setApart cX0_setApart 3 none ∈ lw_B := lb_2 56 (by decide +kernel) rfl
theorem wm_365 : Cond.methodLink RX5 301 yX0_wants ∈ lw_B := lb_2 146 (by decide +kernel) rfl
theorem wm_366 : Cond.instanceMethod yX0_wants ∈ lw_B := lb_2 147 (by decide +kernel) rfl
theorem wm_367 : Cond.selects RX0 yX0_wants yX0_wants ∈ lw_B := lb_2 148 (by decide +kernel) rfl
theorem wm_368 : Cond.code yX0_wants cX0_wants 2 (some .boolean) ∈ lw_B := lb_2 149 (by decide +kernel) rfl
theorem wm_369 : Cond.methodLink RX5 304 yX4_showsTo ∈ lw_B := lb_2 150 (by decide +kernel) rfl
theorem wm_370 : Cond.instanceMethod yX4_showsTo ∈ lw_B := lb_2 151 (by decide +kernel) rfl
theorem wm_371 : Cond.selects RX4 yX4_showsTo yX4_showsTo ∈ lw_B := lb_2 152 (by decide +kernel) rfl
theorem wm_372 : Cond.code yX4_showsTo cX4_showsTo 5 (some .int) ∈ lw_B := lb_2 153 (by decide +kernel) rfl
theorem wm_373 : Cond.fieldLink RX5 242 "NoticeMarket$Campaign" "throttle" "I" ∈ lw_B := lb_1 232 (by decide +kernel) rfl
theorem wm_374 : Cond.fieldLink RX5 310 "NoticeMarket$Campaign" "apartFrom" "J" ∈ lw_B := lb_1 235 (by decide +kernel) rfl
theorem wm_375 : Cond.methodLink RX5 248 yX0_leftToday ∈ lw_B := lb_2 154 (by decide +kernel) rfl
theorem wm_376 : Cond.instanceMethod yX0_leftToday ∈ lw_B := lb_2 155 (by decide +kernel) rfl
theorem wm_377 : Cond.selects RX0 yX0_leftToday yX0_leftToday ∈ lw_B := lb_2 156 (by decide +kernel) rfl
theorem wm_378 : Cond.code yX0_leftToday cX0_leftToday 1 (some .int) ∈ lw_B := lb_2 157 (by decide +kernel) rfl
theorem wm_379 : Cond.methodLink RX5 258 yX0_leftInAll ∈ lw_B := lb_2 158 (by decide +kernel) rfl
theorem wm_380 : Cond.instanceMethod yX0_leftInAll ∈ lw_B := lb_2 159 (by decide +kernel) rfl
theorem wm_381 : Cond.selects RX0 yX0_leftInAll yX0_leftInAll ∈ lw_B := lb_2 160 (by decide +kernel) rfl
theorem wm_382 : Cond.code yX0_leftInAll cX0_leftInAll 1 (some .int) ∈ lw_B := lb_2 161 (by decide +kernel) rfl
theorem wm_383 : Cond.fieldLink RX5 307 "NoticeMarket$Campaign" "bid" "I" ∈ lw_B := lb_1 220 (by decide +kernel) rfl
theorem wm_384 : Cond.methodLink RX5 155 yX5_hindrance ∈ lw_B := lb_2 142 (by decide +kernel) rfl
theorem wm_385 : Cond.instanceMethod yX5_hindrance ∈ lw_B := lb_2 144 (by decide +kernel) rfl
theorem wm_386 : Cond.selects RX5 yX5_hindrance yX5_hindrance ∈ lw_B := lb_0 10 (by decide +kernel) rfl
theorem wm_387 : Cond.code yX5_hindrance cX5_hindrance 5 (some .int) ∈ lw_B := lb_2 145 (by decide +kernel) rfl
theorem wm_388 : Cond.methodLink RX5 245 yX0_isBehind ∈ lw_B := lb_2 172 (by decide +kernel) rfl
theorem wm_389 : Cond.instanceMethod yX0_isBehind ∈ lw_B := lb_2 173 (by decide +kernel) rfl
theorem wm_390 : Cond.selects RX0 yX0_isBehind yX0_isBehind ∈ lw_B := lb_2 174 (by decide +kernel) rfl
theorem wm_391 : Cond.code yX0_isBehind cX0_isBehind 2 (some .boolean) ∈ lw_B := lb_2 175 (by decide +kernel) rfl
theorem wm_392 : Cond.fieldLink RX5 34 "NoticeMarket" "giver" "LNoticeMarket$Giver;" ∈ lw_B := lb_1 68 (by decide +kernel) rfl
theorem wm_393 : Cond.methodLink RX5 334 yX1_addCampaign ∈ lw_B := lb_2 197 (by decide +kernel) rfl
theorem wm_394 : Cond.instanceMethod yX1_addCampaign ∈ lw_B := lb_2 198 (by decide +kernel) rfl
theorem wm_395 : Cond.selects RX1 yX1_addCampaign yX1_addCampaign ∈ lw_B := lb_2 199 (by decide +kernel) rfl
theorem wm_396 : Cond.code yX1_addCampaign cX1_addCampaign 4 none ∈ lw_B := lb_2 200 (by decide +kernel) rfl
theorem wm_397 : Cond.fieldLink RX5 141 "NoticeMarket$Page" "places" "I" ∈ lw_B := lb_1 137 (by decide +kernel) rfl
theorem wm_398 : Cond.fieldLink RX5 324 "NoticeMarket$Page" "sizes" "[I" ∈ lw_B := lb_1 135 (by decide +kernel) rfl
theorem wm_399 : Cond.methodLink RX5 327 yX0_worthAt ∈ lw_B := lb_2 180 (by decide +kernel) rfl
theorem wm_400 : Cond.instanceMethod yX0_worthAt ∈ lw_B := lb_2 181 (by decide +kernel) rfl
theorem wm_401 : Cond.selects RX0 yX0_worthAt yX0_worthAt ∈ lw_B := lb_2 182 (by decide +kernel) rfl
theorem wm_402 : Cond.code yX0_worthAt cX0_worthAt 5 (some .long) ∈ lw_B := lb_2 183 (by decide +kernel) rfl
theorem wm_403 : Cond.methodLink RX5 331 yX1_addWorth ∈ lw_B := lb_2 190 (by decide +kernel) rfl
theorem wm_404 : Cond.instanceMethod yX1_addWorth ∈ lw_B := lb_2 191 (by decide +kernel) rfl
theorem wm_405 : Cond.selects RX1 yX1_addWorth yX1_addWorth ∈ lw_B := lb_2 192 (by decide +kernel) rfl
theorem wm_406 : Cond.code yX1_addWorth cX1_addWorth 10 none ∈ lw_B := lb_2 193 (by decide +kernel) rfl
theorem wm_407 : Cond.methodLink RX5 313 yX1_startFor ∈ lw_B := lb_2 137 (by decide +kernel) rfl
theorem wm_408 : Cond.instanceMethod yX1_startFor ∈ lw_B := lb_2 138 (by decide +kernel) rfl
theorem wm_409 : Cond.selects RX1 yX1_startFor yX1_startFor ∈ lw_B := lb_2 139 (by decide +kernel) rfl
theorem wm_410 : Cond.code yX1_startFor cX1_startFor 2 none ∈ lw_B := lb_2 140 (by decide +kernel) rfl
theorem wm_411 : Cond.methodLink RX5 320 yX1_seek ∈ lw_B := lb_2 201 (by decide +kernel) rfl
theorem wm_412 : Cond.instanceMethod yX1_seek ∈ lw_B := lb_2 202 (by decide +kernel) rfl
theorem wm_413 : Cond.selects RX1 yX1_seek yX1_seek ∈ lw_B := lb_2 203 (by decide +kernel) rfl
theorem wm_414 : Cond.code yX1_seek cX1_seek 4 (some .long) ∈ lw_B := lb_2 204 (by decide +kernel) rfl
theorem wm_415 : Cond.methodLink RX5 316 yX5_offer ∈ lw_B := lb_2 168 (by decide +kernel) rfl
theorem wm_416 : Cond.instanceMethod yX5_offer ∈ lw_B := lb_2 170 (by decide +kernel) rfl
theorem wm_417 : Cond.selects RX5 yX5_offer yX5_offer ∈ lw_B := lb_0 12 (by decide +kernel) rfl
theorem wm_418 : Cond.code yX5_offer cX5_offer 6 none ∈ lw_B := lb_2 171 (by decide +kernel) rfl
theorem wm_419 : Cond.methodLink RX5 144 yX5_seekBest ∈ lw_B := lb_2 133 (by decide +kernel) rfl
theorem wm_420 : Cond.instanceMethod yX5_seekBest ∈ lw_B := lb_2 135 (by decide +kernel) rfl
theorem wm_421 : Cond.selects RX5 yX5_seekBest yX5_seekBest ∈ lw_B := lb_0 9 (by decide +kernel) rfl
theorem wm_422 : Cond.code yX5_seekBest cX5_seekBest 4 (some .long) ∈ lw_B := lb_2 136 (by decide +kernel) rfl
theorem wm_423 : Cond.fieldLink RX5 161 "NoticeMarket$Giver" "chosen" "[I" ∈ lw_B := lb_1 34 (by decide +kernel) rfl
theorem wm_424 : Cond.fieldLink RX5 38 "NoticeMarket" "given" "[I" ∈ lw_B := lb_1 69 (by decide +kernel) rfl
theorem wm_425 : Cond.methodLink RX5 252 Lib.Math.max.name ∈ lw_B := lb_2 239 (by decide +kernel) rfl
theorem wm_426 : Cond.methodLink RX5 346 yX1_worthOf ∈ lw_B := lb_3 0 (by decide +kernel) rfl
theorem wm_427 : Cond.instanceMethod yX1_worthOf ∈ lw_B := lb_3 1 (by decide +kernel) rfl
theorem wm_428 : Cond.selects RX1 yX1_worthOf yX1_worthOf ∈ lw_B := lb_3 2 (by decide +kernel) rfl
theorem wm_429 : Cond.code yX1_worthOf cX1_worthOf 3 (some .long) ∈ lw_B := lb_3 3 (by decide +kernel) rfl
theorem wm_430 : Cond.constantLong RX5 261 (1000000) ∈ lw_B := lb_3 4 (by decide +kernel) rfl
theorem wm_431 : Cond.methodLink RX5 350 yJ9_min_f86c9 ∈ lw_B := lb_3 5 (by decide +kernel) rfl
theorem wm_432 : Cond.static yJ9_min_f86c9 ∈ lw_B := lb_3 6 (by decide +kernel) rfl
theorem wm_433 : Cond.code yJ9_min_f86c9 cJ9_min_f86c9 4 (some .long) ∈ lw_B := lb_3 7 (by decide +kernel) rfl
theorem wm_434 : Cond.methodLink RX5 353 yJ9_max_f86c9 ∈ lw_B := lb_3 8 (by decide +kernel) rfl
theorem wm_435 : Cond.static yJ9_max_f86c9 ∈ lw_B := lb_3 9 (by decide +kernel) rfl
theorem wm_436 : Cond.code yJ9_max_f86c9 cJ9_max_f86c9 4 (some .long) ∈ lw_B := lb_3 10 (by decide +kernel) rfl
theorem wm_437 : Cond.methodLink RX5 338 yX1_bestSum ∈ lw_B := lb_2 234 (by decide +kernel) rfl
theorem wm_438 : Cond.fieldLink RX5 41 "NoticeMarket" "prices" "[I" ∈ lw_B := lb_1 70 (by decide +kernel) rfl
theorem wm_439 : Cond.methodLink RX5 342 yX5_priceAt ∈ lw_B := lb_2 235 (by decide +kernel) rfl
theorem wm_440 : Cond.instanceMethod yX5_priceAt ∈ lw_B := lb_2 237 (by decide +kernel) rfl
theorem wm_441 : Cond.selects RX5 yX5_priceAt yX5_priceAt ∈ lw_B := lb_0 20 (by decide +kernel) rfl
theorem wm_442 : Cond.code yX5_priceAt cX5_priceAt 12 (some .int) ∈ lw_B := lb_2 238 (by decide +kernel) rfl
theorem wm_443 : Cond.fieldLink RX5 170 "NoticeMarket$Sale" "reader" "I" ∈ lw_B := lb_3 25 (by decide +kernel) rfl
theorem wm_444 : Cond.fieldLink RX5 176 "NoticeMarket$Sale" "place" "I" ∈ lw_B := lb_3 29 (by decide +kernel) rfl
theorem wm_445 : Cond.methodLink RX5 263 yX4_chanceOf ∈ lw_B := lb_3 131 (by decide +kernel) rfl
theorem wm_446 : Cond.fieldLink RX5 226 "NoticeMarket" "backCount" "I" ∈ lw_B := lb_1 74 (by decide +kernel) rfl
theorem wm_447 : Cond.fieldLink RX5 188 "NoticeMarket$Campaign" "paysByPress" "Z" ∈ lw_B := lb_1 216 (by decide +kernel) rfl
theorem wm_448 : Cond.methodLink RX5 195 yX5_spendHeld ∈ lw_B := lb_3 106 (by decide +kernel) rfl
theorem wm_449 : Cond.instanceMethod yX5_spendHeld ∈ lw_B := lb_3 108 (by decide +kernel) rfl
theorem wm_450 : Cond.selects RX5 yX5_spendHeld yX5_spendHeld ∈ lw_B := lb_0 26 (by decide +kernel) rfl
theorem wm_451 : Cond.code yX5_spendHeld cX5_spendHeld 2 none ∈ lw_B := lb_3 109 (by decide +kernel) rfl
theorem wm_452 : Cond.methodLink RX5 220 yX5_givePaidBack ∈ lw_B := lb_3 114 (by decide +kernel) rfl
theorem wm_453 : Cond.instanceMethod yX5_givePaidBack ∈ lw_B := lb_3 116 (by decide +kernel) rfl
theorem wm_454 : Cond.selects RX5 yX5_givePaidBack yX5_givePaidBack ∈ lw_B := lb_0 27 (by decide +kernel) rfl
theorem wm_455 : Cond.code yX5_givePaidBack cX5_givePaidBack 2 none ∈ lw_B := lb_3 117 (by decide +kernel) rfl
theorem wm_456 : Cond.methodLink RX5 223 yX5_uncount ∈ lw_B := lb_3 118 (by decide +kernel) rfl
theorem wm_457 : Cond.instanceMethod yX5_uncount ∈ lw_B := lb_3 120 (by decide +kernel) rfl
theorem wm_458 : Cond.selects RX5 yX5_uncount yX5_uncount ∈ lw_B := lb_0 28 (by decide +kernel) rfl
theorem wm_459 : Cond.code yX5_uncount cX5_uncount 3 none ∈ lw_B := lb_3 121 (by decide +kernel) rfl
theorem dX5_apart_8 : decode cX5_apart 8 = .ok (.aload_n 0, 1) := by decide +kernel
theorem dX5_apart_9 : decode cX5_apart 9 = .ok (.iload_n 2, 1) := by decide +kernel
theorem dX5_apart_10 : decode cX5_apart 10 = .ok (.invokevirtual 85, 3) := by decide +kernel
theorem dX5_apart_13 : decode cX5_apart 13 = .ok (.ifCond .eq 17, 3) := by decide +kernel
theorem dX5_apart_16 : decode cX5_apart 16 = .ok (.iload_n 1, 1) := by decide +kernel
theorem dX5_apart_17 : decode cX5_apart 17 = .ok (.iload_n 2, 1) := by decide +kernel
theorem dX5_apart_18 : decode cX5_apart 18 = .ok (.if_icmp .eq 12, 3) := by decide +kernel
theorem dX5_apart_21 : decode cX5_apart 21 = .ok (.iload_n 3, 1) := by decide +kernel
theorem dX5_apart_22 : decode cX5_apart 22 = .ok (.iconst 0, 1) := by decide +kernel
theorem dX5_apart_23 : decode cX5_apart 23 = .ok (.iconst 1, 1) := by decide +kernel
theorem dX5_apart_24 : decode cX5_apart 24 = .ok (.invokestatic 65, 3) := by decide +kernel
theorem dX5_apart_27 : decode cX5_apart 27 = .ok (.ifCond .ne 5, 3) := by decide +kernel
theorem dX5_apart_32 : decode cX5_apart 32 = .ok (.aload_n 0, 1) := by decide +kernel
theorem dX5_apart_33 : decode cX5_apart 33 = .ok (.getfield 17, 3) := by decide +kernel
theorem dX5_apart_36 : decode cX5_apart 36 = .ok (.iload_n 1, 1) := by decide +kernel
theorem dX5_apart_37 : decode cX5_apart 37 = .ok (.aaload, 1) := by decide +kernel
theorem dX5_apart_38 : decode cX5_apart 38 = .ok (.iload_n 2, 1) := by decide +kernel
theorem dX5_apart_39 : decode cX5_apart 39 = .ok (.invokevirtual 101, 3) := by decide +kernel
theorem dX5_apart_42 : decode cX5_apart 42 = .ok (.ifCond .eq 7, 3) := by decide +kernel
theorem dX5_apart_45 : decode cX5_apart 45 = .ok (.iconst 1, 1) := by decide +kernel
theorem dX5_apart_46 : decode cX5_apart 46 = .ok (.goto 4, 3) := by decide +kernel
theorem dX5_apart_49 : decode cX5_apart 49 = .ok (.iconst 0, 1) := by decide +kernel
theorem dX5_apart_50 : decode cX5_apart 50 = .ok (.istore 4, 2) := by decide +kernel
theorem dX5_apart_52 : decode cX5_apart 52 = .ok (.aload_n 0, 1) := by decide +kernel
theorem dX5_apart_53 : decode cX5_apart 53 = .ok (.getfield 17, 3) := by decide +kernel
theorem dX5_apart_56 : decode cX5_apart 56 = .ok (.iload_n 1, 1) := by decide +kernel
theorem dX5_apart_57 : decode cX5_apart 57 = .ok (.aaload, 1) := by decide +kernel
theorem dX5_apart_58 : decode cX5_apart 58 = .ok (.iload_n 2, 1) := by decide +kernel
theorem dX5_apart_59 : decode cX5_apart 59 = .ok (.iload_n 3, 1) := by decide +kernel
theorem dX5_apart_60 : decode cX5_apart 60 = .ok (.iconst 1, 1) := by decide +kernel
theorem dX5_apart_61 : decode cX5_apart 61 = .ok (.if_icmp .ne 7, 3) := by decide +kernel
theorem dX5_apart_64 : decode cX5_apart 64 = .ok (.iconst 1, 1) := by decide +kernel
theorem dX5_apart_65 : decode cX5_apart 65 = .ok (.goto 4, 3) := by decide +kernel
theorem dX5_apart_68 : decode cX5_apart 68 = .ok (.iconst 0, 1) := by decide +kernel
theorem dX5_apart_69 : decode cX5_apart 69 = .ok (.invokevirtual 104, 3) := by decide +kernel
theorem dX5_apart_72 : decode cX5_apart 72 = .ok (.aload_n 0, 1) := by decide +kernel
theorem dX5_apart_73 : decode cX5_apart 73 = .ok (.getfield 17, 3) := by decide +kernel
theorem dX5_apart_76 : decode cX5_apart 76 = .ok (.iload_n 2, 1) := by decide +kernel
theorem dX5_apart_77 : decode cX5_apart 77 = .ok (.aaload, 1) := by decide +kernel
theorem dX5_apart_78 : decode cX5_apart 78 = .ok (.iload_n 1, 1) := by decide +kernel
theorem dX5_apart_79 : decode cX5_apart 79 = .ok (.iload_n 3, 1) := by decide +kernel
theorem dX5_apart_80 : decode cX5_apart 80 = .ok (.iconst 1, 1) := by decide +kernel
theorem dX5_apart_81 : decode cX5_apart 81 = .ok (.if_icmp .ne 7, 3) := by decide +kernel
theorem dX5_apart_84 : decode cX5_apart 84 = .ok (.iconst 1, 1) := by decide +kernel
theorem dX5_apart_85 : decode cX5_apart 85 = .ok (.goto 4, 3) := by decide +kernel
theorem dX5_apart_88 : decode cX5_apart 88 = .ok (.iconst 0, 1) := by decide +kernel
theorem dX5_apart_89 : decode cX5_apart 89 = .ok (.invokevirtual 104, 3) := by decide +kernel
theorem dX5_apart_92 : decode cX5_apart 92 = .ok (.iload 4, 2) := by decide +kernel
theorem dX5_apart_94 : decode cX5_apart 94 = .ok (.ireturn, 1) := by decide +kernel
theorem dX5_why_8 : decode cX5_why 8 = .ok (.iload_n 2, 1) := by decide +kernel
theorem dX5_why_9 : decode cX5_why 9 = .ok (.invokestatic 61, 3) := by decide +kernel
theorem dX5_why_12 : decode cX5_why 12 = .ok (.ifCond .eq 11, 3) := by decide +kernel
theorem dX5_why_15 : decode cX5_why 15 = .ok (.aload_n 0, 1) := by decide +kernel
theorem dX5_why_16 : decode cX5_why 16 = .ok (.iload_n 3, 1) := by decide +kernel
theorem dX5_why_17 : decode cX5_why 17 = .ok (.invokevirtual 135, 3) := by decide +kernel
theorem dX5_why_20 : decode cX5_why 20 = .ok (.ifCond .ne 5, 3) := by decide +kernel
theorem dX5_why_25 : decode cX5_why 25 = .ok (.aload_n 0, 1) := by decide +kernel
theorem dX5_why_26 : decode cX5_why 26 = .ok (.iload_n 1, 1) := by decide +kernel
theorem dX5_why_27 : decode cX5_why 27 = .ok (.iload_n 2, 1) := by decide +kernel
theorem dX5_why_28 : decode cX5_why 28 = .ok (.aload_n 0, 1) := by decide +kernel
theorem dX5_why_29 : decode cX5_why 29 = .ok (.getfield 11, 3) := by decide +kernel
theorem dX5_why_32 : decode cX5_why 32 = .ok (.iload_n 3, 1) := by decide +kernel
theorem dX5_why_33 : decode cX5_why 33 = .ok (.aaload, 1) := by decide +kernel
theorem dX5_why_34 : decode cX5_why 34 = .ok (.invokevirtual 155, 3) := by decide +kernel
theorem dX5_why_37 : decode cX5_why 37 = .ok (.ireturn, 1) := by decide +kernel
theorem dX5_best_19 : decode cX5_best 19 = .ok (.aload_n 0, 1) := by decide +kernel
theorem dX5_best_20 : decode cX5_best 20 = .ok (.iload_n 1, 1) := by decide +kernel
theorem dX5_best_21 : decode cX5_best 21 = .ok (.aload_n 0, 1) := by decide +kernel
theorem dX5_best_22 : decode cX5_best 22 = .ok (.getfield 11, 3) := by decide +kernel
theorem dX5_best_25 : decode cX5_best 25 = .ok (.iload_n 2, 1) := by decide +kernel
theorem dX5_best_26 : decode cX5_best 26 = .ok (.aaload, 1) := by decide +kernel
theorem dX5_best_27 : decode cX5_best 27 = .ok (.invokevirtual 144, 3) := by decide +kernel
theorem dX5_best_30 : decode cX5_best 30 = .ok (.lreturn, 1) := by decide +kernel
theorem dX5_give_15 : decode cX5_give 15 = .ok (.iload_n 3, 1) := by decide +kernel
theorem dX5_give_16 : decode cX5_give 16 = .ok (.iconst 0, 1) := by decide +kernel
theorem dX5_give_17 : decode cX5_give 17 = .ok (.aload_n 0, 1) := by decide +kernel
theorem dX5_give_18 : decode cX5_give 18 = .ok (.getfield 11, 3) := by decide +kernel
theorem dX5_give_21 : decode cX5_give 21 = .ok (.iload_n 2, 1) := by decide +kernel
theorem dX5_give_22 : decode cX5_give 22 = .ok (.aaload, 1) := by decide +kernel
theorem dX5_give_23 : decode cX5_give 23 = .ok (.getfield 141, 3) := by decide +kernel
theorem dX5_give_26 : decode cX5_give 26 = .ok (.iconst 1, 1) := by decide +kernel
theorem dX5_give_27 : decode cX5_give 27 = .ok (.isub, 1) := by decide +kernel
theorem dX5_give_28 : decode cX5_give 28 = .ok (.invokestatic 65, 3) := by decide +kernel
theorem dX5_give_31 : decode cX5_give 31 = .ok (.ifCond .ne 5, 3) := by decide +kernel
theorem dX5_give_36 : decode cX5_give 36 = .ok (.aload_n 0, 1) := by decide +kernel
theorem dX5_give_37 : decode cX5_give 37 = .ok (.iload_n 1, 1) := by decide +kernel
theorem dX5_give_38 : decode cX5_give 38 = .ok (.aload_n 0, 1) := by decide +kernel
theorem dX5_give_39 : decode cX5_give 39 = .ok (.getfield 11, 3) := by decide +kernel
theorem dX5_give_42 : decode cX5_give 42 = .ok (.iload_n 2, 1) := by decide +kernel
theorem dX5_give_43 : decode cX5_give 43 = .ok (.aaload, 1) := by decide +kernel
theorem dX5_give_44 : decode cX5_give 44 = .ok (.invokevirtual 144, 3) := by decide +kernel
theorem dX5_give_47 : decode cX5_give 47 = .ok (.pop2, 1) := by decide +kernel
theorem dX5_give_48 : decode cX5_give 48 = .ok (.aload_n 0, 1) := by decide +kernel
theorem dX5_give_49 : decode cX5_give 49 = .ok (.getfield 34, 3) := by decide +kernel
theorem dX5_give_52 : decode cX5_give 52 = .ok (.getfield 161, 3) := by decide +kernel
theorem dX5_give_55 : decode cX5_give 55 = .ok (.iload_n 3, 1) := by decide +kernel
theorem dX5_give_56 : decode cX5_give 56 = .ok (.iaload, 1) := by decide +kernel
theorem dX5_give_57 : decode cX5_give 57 = .ok (.istore 4, 2) := by decide +kernel
theorem dX5_give_59 : decode cX5_give 59 = .ok (.iload 4, 2) := by decide +kernel
theorem dX5_give_61 : decode cX5_give 61 = .ok (.iconst (-1), 1) := by decide +kernel
theorem dX5_give_62 : decode cX5_give 62 = .ok (.if_icmp .ne 8, 3) := by decide +kernel
theorem dX5_give_65 : decode cX5_give 65 = .ok (.bipush (-2), 2) := by decide +kernel
theorem dX5_give_67 : decode cX5_give 67 = .ok (.goto 5, 3) := by decide +kernel
theorem dX5_give_70 : decode cX5_give 70 = .ok (.iload 4, 2) := by decide +kernel
theorem dX5_give_72 : decode cX5_give 72 = .ok (.ireturn, 1) := by decide +kernel
theorem dX5_sale_10 : decode cX5_sale 10 = .ok (.aload_n 0, 1) := by decide +kernel
theorem dX5_sale_11 : decode cX5_sale 11 = .ok (.getfield 23, 3) := by decide +kernel
theorem dX5_sale_14 : decode cX5_sale 14 = .ok (.iload_n 1, 1) := by decide +kernel
theorem dX5_sale_15 : decode cX5_sale 15 = .ok (.aaload, 1) := by decide +kernel
theorem dX5_sale_16 : decode cX5_sale 16 = .ok (.astore_n 3, 1) := by decide +kernel
theorem dX5_sale_17 : decode cX5_sale 17 = .ok (.iload_n 2, 1) := by decide +kernel
theorem dX5_sale_18 : decode cX5_sale 18 = .ok (.tableswitch 77 0 6 #[42, 47, 52, 57, 62, 67, 72], 42) := by decide +kernel
theorem dX5_sale_60 : decode cX5_sale 60 = .ok (.aload_n 3, 1) := by decide +kernel
theorem dX5_sale_61 : decode cX5_sale 61 = .ok (.getfield 167, 3) := by decide +kernel
theorem dX5_sale_64 : decode cX5_sale 64 = .ok (.ireturn, 1) := by decide +kernel
theorem dX5_sale_65 : decode cX5_sale 65 = .ok (.aload_n 3, 1) := by decide +kernel
theorem dX5_sale_66 : decode cX5_sale 66 = .ok (.getfield 170, 3) := by decide +kernel
theorem dX5_sale_69 : decode cX5_sale 69 = .ok (.ireturn, 1) := by decide +kernel
theorem dX5_sale_70 : decode cX5_sale 70 = .ok (.aload_n 3, 1) := by decide +kernel
theorem dX5_sale_71 : decode cX5_sale 71 = .ok (.getfield 173, 3) := by decide +kernel
theorem dX5_sale_74 : decode cX5_sale 74 = .ok (.ireturn, 1) := by decide +kernel
theorem dX5_sale_75 : decode cX5_sale 75 = .ok (.aload_n 3, 1) := by decide +kernel
theorem dX5_sale_76 : decode cX5_sale 76 = .ok (.getfield 176, 3) := by decide +kernel
theorem dX5_sale_79 : decode cX5_sale 79 = .ok (.ireturn, 1) := by decide +kernel
theorem dX5_sale_80 : decode cX5_sale 80 = .ok (.aload_n 3, 1) := by decide +kernel
theorem dX5_sale_81 : decode cX5_sale 81 = .ok (.getfield 179, 3) := by decide +kernel
theorem dX5_sale_84 : decode cX5_sale 84 = .ok (.ireturn, 1) := by decide +kernel
theorem dX5_sale_85 : decode cX5_sale 85 = .ok (.aload_n 3, 1) := by decide +kernel
theorem dX5_sale_86 : decode cX5_sale 86 = .ok (.getfield 182, 3) := by decide +kernel
theorem dX5_sale_89 : decode cX5_sale 89 = .ok (.ireturn, 1) := by decide +kernel
theorem dX5_sale_90 : decode cX5_sale 90 = .ok (.aload_n 3, 1) := by decide +kernel
theorem dX5_sale_91 : decode cX5_sale 91 = .ok (.getfield 185, 3) := by decide +kernel
theorem dX5_sale_94 : decode cX5_sale 94 = .ok (.ireturn, 1) := by decide +kernel
theorem dX5_sale_95 : decode cX5_sale 95 = .ok (.iconst (-1), 1) := by decide +kernel
theorem dX5_sale_96 : decode cX5_sale 96 = .ok (.ireturn, 1) := by decide +kernel
theorem dX5_press_10 : decode cX5_press 10 = .ok (.aload_n 0, 1) := by decide +kernel
theorem dX5_press_11 : decode cX5_press 11 = .ok (.getfield 23, 3) := by decide +kernel
theorem dX5_press_14 : decode cX5_press 14 = .ok (.iload_n 1, 1) := by decide +kernel
theorem dX5_press_15 : decode cX5_press 15 = .ok (.aaload, 1) := by decide +kernel
theorem dX5_press_16 : decode cX5_press 16 = .ok (.astore_n 2, 1) := by decide +kernel
theorem dX5_press_17 : decode cX5_press 17 = .ok (.aload_n 0, 1) := by decide +kernel
theorem dX5_press_18 : decode cX5_press 18 = .ok (.getfield 17, 3) := by decide +kernel
theorem dX5_press_21 : decode cX5_press 21 = .ok (.aload_n 2, 1) := by decide +kernel
theorem dX5_press_22 : decode cX5_press 22 = .ok (.getfield 179, 3) := by decide +kernel
theorem dX5_press_25 : decode cX5_press 25 = .ok (.aaload, 1) := by decide +kernel
theorem dX5_press_26 : decode cX5_press 26 = .ok (.astore_n 3, 1) := by decide +kernel
theorem dX5_press_27 : decode cX5_press 27 = .ok (.aload_n 3, 1) := by decide +kernel
theorem dX5_press_28 : decode cX5_press 28 = .ok (.getfield 188, 3) := by decide +kernel
theorem dX5_press_31 : decode cX5_press 31 = .ok (.ifCond .eq 7, 3) := by decide +kernel
theorem dX5_press_34 : decode cX5_press 34 = .ok (.iconst 1, 1) := by decide +kernel
theorem dX5_press_35 : decode cX5_press 35 = .ok (.goto 4, 3) := by decide +kernel
theorem dX5_press_38 : decode cX5_press 38 = .ok (.iconst 0, 1) := by decide +kernel
theorem dX5_press_39 : decode cX5_press 39 = .ok (.istore 4, 2) := by decide +kernel
theorem dX5_press_41 : decode cX5_press 41 = .ok (.aload_n 2, 1) := by decide +kernel
theorem dX5_press_42 : decode cX5_press 42 = .ok (.getfield 185, 3) := by decide +kernel
theorem dX5_press_45 : decode cX5_press 45 = .ok (.iload 4, 2) := by decide +kernel
theorem dX5_press_47 : decode cX5_press 47 = .ok (.if_icmp .ne 14, 3) := by decide +kernel
theorem dX5_press_50 : decode cX5_press 50 = .ok (.aload_n 0, 1) := by decide +kernel
theorem dX5_press_51 : decode cX5_press 51 = .ok (.getfield 108, 3) := by decide +kernel
theorem dX5_press_54 : decode cX5_press 54 = .ok (.aload_n 2, 1) := by decide +kernel
theorem dX5_press_55 : decode cX5_press 55 = .ok (.getfield 192, 3) := by decide +kernel
theorem dX5_press_58 : decode cX5_press 58 = .ok (.if_icmp .le 6, 3) := by decide +kernel
theorem dX5_press_61 : decode cX5_press 61 = .ok (.bipush (-2), 2) := by decide +kernel
theorem dX5_press_63 : decode cX5_press 63 = .ok (.ireturn, 1) := by decide +kernel
theorem dX5_press_64 : decode cX5_press 64 = .ok (.aload_n 2, 1) := by decide +kernel
theorem dX5_press_65 : decode cX5_press 65 = .ok (.getfield 185, 3) := by decide +kernel
theorem dX5_press_68 : decode cX5_press 68 = .ok (.iconst 1, 1) := by decide +kernel
theorem dX5_press_69 : decode cX5_press 69 = .ok (.if_icmp .ne 8, 3) := by decide +kernel
theorem dX5_press_72 : decode cX5_press 72 = .ok (.aload_n 0, 1) := by decide +kernel
theorem dX5_press_73 : decode cX5_press 73 = .ok (.aload_n 2, 1) := by decide +kernel
theorem dX5_press_74 : decode cX5_press 74 = .ok (.invokevirtual 195, 3) := by decide +kernel
theorem dX5_press_77 : decode cX5_press 77 = .ok (.aload_n 2, 1) := by decide +kernel
theorem dX5_press_78 : decode cX5_press 78 = .ok (.iconst 2, 1) := by decide +kernel
theorem dX5_press_79 : decode cX5_press 79 = .ok (.putfield 185, 3) := by decide +kernel
theorem dX5_press_82 : decode cX5_press 82 = .ok (.aload_n 2, 1) := by decide +kernel
theorem dX5_press_83 : decode cX5_press 83 = .ok (.aload_n 0, 1) := by decide +kernel
theorem dX5_press_84 : decode cX5_press 84 = .ok (.getfield 108, 3) := by decide +kernel
theorem dX5_press_87 : decode cX5_press 87 = .ok (.putfield 199, 3) := by decide +kernel
theorem dX5_press_90 : decode cX5_press 90 = .ok (.aload_n 3, 1) := by decide +kernel
theorem dX5_press_91 : decode cX5_press 91 = .ok (.getfield 202, 3) := by decide +kernel
theorem dX5_press_94 : decode cX5_press 94 = .ok (.dup, 1) := by decide +kernel
theorem dX5_press_95 : decode cX5_press 95 = .ok (.getfield 206, 3) := by decide +kernel
theorem dX5_press_98 : decode cX5_press 98 = .ok (.iconst 1, 1) := by decide +kernel
theorem dX5_press_99 : decode cX5_press 99 = .ok (.iadd, 1) := by decide +kernel
theorem dX5_press_100 : decode cX5_press 100 = .ok (.putfield 206, 3) := by decide +kernel
theorem dX5_press_103 : decode cX5_press 103 = .ok (.aload_n 3, 1) := by decide +kernel
theorem dX5_press_104 : decode cX5_press 104 = .ok (.getfield 202, 3) := by decide +kernel
theorem dX5_press_107 : decode cX5_press 107 = .ok (.dup, 1) := by decide +kernel
theorem dX5_press_108 : decode cX5_press 108 = .ok (.getfield 211, 3) := by decide +kernel
theorem dX5_press_111 : decode cX5_press 111 = .ok (.iconst 1, 1) := by decide +kernel
theorem dX5_press_112 : decode cX5_press 112 = .ok (.iadd, 1) := by decide +kernel
theorem dX5_press_113 : decode cX5_press 113 = .ok (.putfield 211, 3) := by decide +kernel
theorem dX5_press_116 : decode cX5_press 116 = .ok (.iconst 1, 1) := by decide +kernel
theorem dX5_press_117 : decode cX5_press 117 = .ok (.ireturn, 1) := by decide +kernel
theorem dX5_refund_10 : decode cX5_refund 10 = .ok (.aload_n 0, 1) := by decide +kernel
theorem dX5_refund_11 : decode cX5_refund 11 = .ok (.getfield 23, 3) := by decide +kernel
theorem dX5_refund_14 : decode cX5_refund 14 = .ok (.iload_n 1, 1) := by decide +kernel
theorem dX5_refund_15 : decode cX5_refund 15 = .ok (.aaload, 1) := by decide +kernel
theorem dX5_refund_16 : decode cX5_refund 16 = .ok (.astore_n 2, 1) := by decide +kernel
theorem dX5_refund_17 : decode cX5_refund 17 = .ok (.aload_n 2, 1) := by decide +kernel
theorem dX5_refund_18 : decode cX5_refund 18 = .ok (.getfield 185, 3) := by decide +kernel
theorem dX5_refund_21 : decode cX5_refund 21 = .ok (.iconst 3, 1) := by decide +kernel
theorem dX5_refund_22 : decode cX5_refund 22 = .ok (.if_icmp .ne 6, 3) := by decide +kernel
theorem dX5_refund_25 : decode cX5_refund 25 = .ok (.bipush (-2), 2) := by decide +kernel
theorem dX5_refund_27 : decode cX5_refund 27 = .ok (.ireturn, 1) := by decide +kernel
theorem dX5_refund_28 : decode cX5_refund 28 = .ok (.aload_n 2, 1) := by decide +kernel
theorem dX5_refund_29 : decode cX5_refund 29 = .ok (.getfield 214, 3) := by decide +kernel
theorem dX5_refund_32 : decode cX5_refund 32 = .ok (.istore_n 3, 1) := by decide +kernel
theorem dX5_refund_33 : decode cX5_refund 33 = .ok (.aload_n 0, 1) := by decide +kernel
theorem dX5_refund_34 : decode cX5_refund 34 = .ok (.aload_n 2, 1) := by decide +kernel
theorem dX5_refund_35 : decode cX5_refund 35 = .ok (.invokevirtual 217, 3) := by decide +kernel
theorem dX5_refund_38 : decode cX5_refund 38 = .ok (.aload_n 0, 1) := by decide +kernel
theorem dX5_refund_39 : decode cX5_refund 39 = .ok (.aload_n 2, 1) := by decide +kernel
theorem dX5_refund_40 : decode cX5_refund 40 = .ok (.invokevirtual 220, 3) := by decide +kernel
theorem dX5_refund_43 : decode cX5_refund 43 = .ok (.aload_n 0, 1) := by decide +kernel
theorem dX5_refund_44 : decode cX5_refund 44 = .ok (.aload_n 2, 1) := by decide +kernel
theorem dX5_refund_45 : decode cX5_refund 45 = .ok (.invokevirtual 223, 3) := by decide +kernel
theorem dX5_refund_48 : decode cX5_refund 48 = .ok (.aload_n 2, 1) := by decide +kernel
theorem dX5_refund_49 : decode cX5_refund 49 = .ok (.iconst 3, 1) := by decide +kernel
theorem dX5_refund_50 : decode cX5_refund 50 = .ok (.putfield 185, 3) := by decide +kernel
theorem dX5_refund_53 : decode cX5_refund 53 = .ok (.aload_n 0, 1) := by decide +kernel
theorem dX5_refund_54 : decode cX5_refund 54 = .ok (.dup, 1) := by decide +kernel
theorem dX5_refund_55 : decode cX5_refund 55 = .ok (.getfield 226, 3) := by decide +kernel
theorem dX5_refund_58 : decode cX5_refund 58 = .ok (.iconst 1, 1) := by decide +kernel
theorem dX5_refund_59 : decode cX5_refund 59 = .ok (.iadd, 1) := by decide +kernel
theorem dX5_refund_60 : decode cX5_refund 60 = .ok (.putfield 226, 3) := by decide +kernel
theorem dX5_refund_63 : decode cX5_refund 63 = .ok (.iload_n 3, 1) := by decide +kernel
theorem dX5_refund_64 : decode cX5_refund 64 = .ok (.ireturn, 1) := by decide +kernel
theorem dX5_told_11 : decode cX5_told 11 = .ok (.aload_n 0, 1) := by decide +kernel
theorem dX5_told_12 : decode cX5_told 12 = .ok (.getfield 17, 3) := by decide +kernel
theorem dX5_told_15 : decode cX5_told 15 = .ok (.iload_n 1, 1) := by decide +kernel
theorem dX5_told_16 : decode cX5_told 16 = .ok (.aaload, 1) := by decide +kernel
theorem dX5_told_17 : decode cX5_told 17 = .ok (.astore_n 3, 1) := by decide +kernel
theorem dX5_told_18 : decode cX5_told 18 = .ok (.iload_n 2, 1) := by decide +kernel
theorem dX5_told_19 : decode cX5_told 19 = .ok (.tableswitch 138 0 9 #[53, 61, 69, 77, 85, 93, 98, 115, 124, 133], 53) := by decide +kernel
theorem dX5_told_72 : decode cX5_told 72 = .ok (.aload_n 3, 1) := by decide +kernel
theorem dX5_told_73 : decode cX5_told 73 = .ok (.getfield 202, 3) := by decide +kernel
theorem dX5_told_76 : decode cX5_told 76 = .ok (.getfield 230, 3) := by decide +kernel
theorem dX5_told_79 : decode cX5_told 79 = .ok (.ireturn, 1) := by decide +kernel
theorem dX5_told_80 : decode cX5_told 80 = .ok (.aload_n 3, 1) := by decide +kernel
theorem dX5_told_81 : decode cX5_told 81 = .ok (.getfield 202, 3) := by decide +kernel
theorem dX5_told_84 : decode cX5_told 84 = .ok (.getfield 233, 3) := by decide +kernel
theorem dX5_told_87 : decode cX5_told 87 = .ok (.ireturn, 1) := by decide +kernel
theorem dX5_told_88 : decode cX5_told 88 = .ok (.aload_n 3, 1) := by decide +kernel
theorem dX5_told_89 : decode cX5_told 89 = .ok (.getfield 202, 3) := by decide +kernel
theorem dX5_told_92 : decode cX5_told 92 = .ok (.getfield 236, 3) := by decide +kernel
theorem dX5_told_95 : decode cX5_told 95 = .ok (.ireturn, 1) := by decide +kernel
theorem dX5_told_96 : decode cX5_told 96 = .ok (.aload_n 3, 1) := by decide +kernel
theorem dX5_told_97 : decode cX5_told 97 = .ok (.getfield 202, 3) := by decide +kernel
theorem dX5_told_100 : decode cX5_told 100 = .ok (.getfield 239, 3) := by decide +kernel
theorem dX5_told_103 : decode cX5_told 103 = .ok (.ireturn, 1) := by decide +kernel
theorem dX5_told_104 : decode cX5_told 104 = .ok (.aload_n 3, 1) := by decide +kernel
theorem dX5_told_105 : decode cX5_told 105 = .ok (.getfield 202, 3) := by decide +kernel
theorem dX5_told_108 : decode cX5_told 108 = .ok (.getfield 206, 3) := by decide +kernel
theorem dX5_told_111 : decode cX5_told 111 = .ok (.ireturn, 1) := by decide +kernel
theorem dX5_told_112 : decode cX5_told 112 = .ok (.aload_n 3, 1) := by decide +kernel
theorem dX5_told_113 : decode cX5_told 113 = .ok (.getfield 242, 3) := by decide +kernel
theorem dX5_told_116 : decode cX5_told 116 = .ok (.ireturn, 1) := by decide +kernel
theorem dX5_told_117 : decode cX5_told 117 = .ok (.aload_n 3, 1) := by decide +kernel
theorem dX5_told_118 : decode cX5_told 118 = .ok (.aload_n 0, 1) := by decide +kernel
theorem dX5_told_119 : decode cX5_told 119 = .ok (.getfield 108, 3) := by decide +kernel
theorem dX5_told_122 : decode cX5_told 122 = .ok (.invokevirtual 245, 3) := by decide +kernel
theorem dX5_told_125 : decode cX5_told 125 = .ok (.ifCond .eq 7, 3) := by decide +kernel
theorem dX5_told_128 : decode cX5_told 128 = .ok (.iconst 1, 1) := by decide +kernel
theorem dX5_told_129 : decode cX5_told 129 = .ok (.goto 4, 3) := by decide +kernel
theorem dX5_told_132 : decode cX5_told 132 = .ok (.iconst 0, 1) := by decide +kernel
theorem dX5_told_133 : decode cX5_told 133 = .ok (.ireturn, 1) := by decide +kernel
theorem dX5_told_134 : decode cX5_told 134 = .ok (.iconst 0, 1) := by decide +kernel
theorem dX5_told_135 : decode cX5_told 135 = .ok (.aload_n 3, 1) := by decide +kernel
theorem dX5_told_136 : decode cX5_told 136 = .ok (.invokevirtual 248, 3) := by decide +kernel
theorem dX5_told_139 : decode cX5_told 139 = .ok (.invokestatic 252, 3) := by decide +kernel
theorem dX5_told_142 : decode cX5_told 142 = .ok (.ireturn, 1) := by decide +kernel
theorem dX5_told_143 : decode cX5_told 143 = .ok (.iconst 0, 1) := by decide +kernel
theorem dX5_told_144 : decode cX5_told 144 = .ok (.aload_n 3, 1) := by decide +kernel
theorem dX5_told_145 : decode cX5_told 145 = .ok (.invokevirtual 258, 3) := by decide +kernel
theorem dX5_told_148 : decode cX5_told 148 = .ok (.invokestatic 252, 3) := by decide +kernel
theorem dX5_told_151 : decode cX5_told 151 = .ok (.ireturn, 1) := by decide +kernel
theorem dX5_told_152 : decode cX5_told 152 = .ok (.aload_n 3, 1) := by decide +kernel
theorem dX5_told_153 : decode cX5_told 153 = .ok (.getfield 120, 3) := by decide +kernel
theorem dX5_told_156 : decode cX5_told 156 = .ok (.ireturn, 1) := by decide +kernel
theorem dX5_told_157 : decode cX5_told 157 = .ok (.ldc 229, 2) := by decide +kernel
theorem dX5_told_159 : decode cX5_told 159 = .ok (.ireturn, 1) := by decide +kernel
theorem dX5_chance_10 : decode cX5_chance 10 = .ok (.aload_n 0, 1) := by decide +kernel
theorem dX5_chance_11 : decode cX5_chance 11 = .ok (.getfield 17, 3) := by decide +kernel
theorem dX5_chance_14 : decode cX5_chance 14 = .ok (.iload_n 1, 1) := by decide +kernel
theorem dX5_chance_15 : decode cX5_chance 15 = .ok (.aaload, 1) := by decide +kernel
theorem dX5_chance_16 : decode cX5_chance 16 = .ok (.getfield 202, 3) := by decide +kernel
theorem dX5_chance_19 : decode cX5_chance 19 = .ok (.ldc2_w 261, 3) := by decide +kernel
theorem dX5_chance_22 : decode cX5_chance 22 = .ok (.invokevirtual 263, 3) := by decide +kernel
theorem dX5_chance_25 : decode cX5_chance 25 = .ok (.l2i, 1) := by decide +kernel
theorem dX5_chance_26 : decode cX5_chance 26 = .ok (.ireturn, 1) := by decide +kernel
theorem dX5_income_10 : decode cX5_income 10 = .ok (.aload_n 0, 1) := by decide +kernel
theorem dX5_income_11 : decode cX5_income 11 = .ok (.getfield 11, 3) := by decide +kernel
theorem dX5_income_14 : decode cX5_income 14 = .ok (.iload_n 1, 1) := by decide +kernel
theorem dX5_income_15 : decode cX5_income 15 = .ok (.aaload, 1) := by decide +kernel
theorem dX5_income_16 : decode cX5_income 16 = .ok (.getfield 270, 3) := by decide +kernel
theorem dX5_income_19 : decode cX5_income 19 = .ok (.ireturn, 1) := by decide +kernel
theorem dX5_hindrance_0 : decode cX5_hindrance 0 = .ok (.aload_n 0, 1) := by decide +kernel
theorem dX5_hindrance_1 : decode cX5_hindrance 1 = .ok (.getfield 17, 3) := by decide +kernel
theorem dX5_hindrance_4 : decode cX5_hindrance 4 = .ok (.iload_n 1, 1) := by decide +kernel
theorem dX5_hindrance_5 : decode cX5_hindrance 5 = .ok (.aaload, 1) := by decide +kernel
theorem dX5_hindrance_6 : decode cX5_hindrance 6 = .ok (.astore 4, 2) := by decide +kernel
theorem dX5_hindrance_8 : decode cX5_hindrance 8 = .ok (.aload 4, 2) := by decide +kernel
theorem dX5_hindrance_10 : decode cX5_hindrance 10 = .ok (.getfield 120, 3) := by decide +kernel
theorem dX5_hindrance_13 : decode cX5_hindrance 13 = .ok (.iconst 1, 1) := by decide +kernel
theorem dX5_hindrance_14 : decode cX5_hindrance 14 = .ok (.if_icmp .ne 5, 3) := by decide +kernel
theorem dX5_hindrance_17 : decode cX5_hindrance 17 = .ok (.iconst 1, 1) := by decide +kernel
theorem dX5_hindrance_18 : decode cX5_hindrance 18 = .ok (.ireturn, 1) := by decide +kernel
theorem dX5_hindrance_19 : decode cX5_hindrance 19 = .ok (.aload 4, 2) := by decide +kernel
theorem dX5_hindrance_21 : decode cX5_hindrance 21 = .ok (.aload_n 0, 1) := by decide +kernel
theorem dX5_hindrance_22 : decode cX5_hindrance 22 = .ok (.getfield 27, 3) := by decide +kernel
theorem dX5_hindrance_25 : decode cX5_hindrance 25 = .ok (.iload_n 2, 1) := by decide +kernel
theorem dX5_hindrance_26 : decode cX5_hindrance 26 = .ok (.iaload, 1) := by decide +kernel
theorem dX5_hindrance_27 : decode cX5_hindrance 27 = .ok (.invokevirtual 301, 3) := by decide +kernel
theorem dX5_hindrance_30 : decode cX5_hindrance 30 = .ok (.ifCond .ne 5, 3) := by decide +kernel
theorem dX5_hindrance_33 : decode cX5_hindrance 33 = .ok (.iconst 2, 1) := by decide +kernel
theorem dX5_hindrance_34 : decode cX5_hindrance 34 = .ok (.ireturn, 1) := by decide +kernel
theorem dX5_hindrance_35 : decode cX5_hindrance 35 = .ok (.aload 4, 2) := by decide +kernel
theorem dX5_hindrance_37 : decode cX5_hindrance 37 = .ok (.getfield 202, 3) := by decide +kernel
theorem dX5_hindrance_40 : decode cX5_hindrance 40 = .ok (.iload_n 2, 1) := by decide +kernel
theorem dX5_hindrance_41 : decode cX5_hindrance 41 = .ok (.aload_n 0, 1) := by decide +kernel
theorem dX5_hindrance_42 : decode cX5_hindrance 42 = .ok (.getfield 108, 3) := by decide +kernel
theorem dX5_hindrance_45 : decode cX5_hindrance 45 = .ok (.aload 4, 2) := by decide +kernel
theorem dX5_hindrance_47 : decode cX5_hindrance 47 = .ok (.getfield 98, 3) := by decide +kernel
theorem dX5_hindrance_50 : decode cX5_hindrance 50 = .ok (.isub, 1) := by decide +kernel
theorem dX5_hindrance_51 : decode cX5_hindrance 51 = .ok (.invokevirtual 304, 3) := by decide +kernel
theorem dX5_hindrance_54 : decode cX5_hindrance 54 = .ok (.aload 4, 2) := by decide +kernel
theorem dX5_hindrance_56 : decode cX5_hindrance 56 = .ok (.getfield 95, 3) := by decide +kernel
theorem dX5_hindrance_59 : decode cX5_hindrance 59 = .ok (.if_icmp .lt 5, 3) := by decide +kernel
theorem dX5_hindrance_62 : decode cX5_hindrance 62 = .ok (.iconst 3, 1) := by decide +kernel
theorem dX5_hindrance_63 : decode cX5_hindrance 63 = .ok (.ireturn, 1) := by decide +kernel
theorem dX5_hindrance_64 : decode cX5_hindrance 64 = .ok (.aload 4, 2) := by decide +kernel
theorem dX5_hindrance_66 : decode cX5_hindrance 66 = .ok (.getfield 111, 3) := by decide +kernel
theorem dX5_hindrance_69 : decode cX5_hindrance 69 = .ok (.ifCond .ne 26, 3) := by decide +kernel
theorem dX5_hindrance_72 : decode cX5_hindrance 72 = .ok (.aload 4, 2) := by decide +kernel
theorem dX5_hindrance_74 : decode cX5_hindrance 74 = .ok (.invokevirtual 248, 3) := by decide +kernel
theorem dX5_hindrance_77 : decode cX5_hindrance 77 = .ok (.aload 4, 2) := by decide +kernel
theorem dX5_hindrance_79 : decode cX5_hindrance 79 = .ok (.invokevirtual 258, 3) := by decide +kernel
theorem dX5_hindrance_82 : decode cX5_hindrance 82 = .ok (.invokestatic 292, 3) := by decide +kernel
theorem dX5_hindrance_85 : decode cX5_hindrance 85 = .ok (.aload 4, 2) := by decide +kernel
theorem dX5_hindrance_87 : decode cX5_hindrance 87 = .ok (.getfield 307, 3) := by decide +kernel
theorem dX5_hindrance_90 : decode cX5_hindrance 90 = .ok (.if_icmp .ge 5, 3) := by decide +kernel
theorem dX5_hindrance_93 : decode cX5_hindrance 93 = .ok (.iconst 4, 1) := by decide +kernel
theorem dX5_hindrance_94 : decode cX5_hindrance 94 = .ok (.ireturn, 1) := by decide +kernel
theorem dX5_hindrance_95 : decode cX5_hindrance 95 = .ok (.aload_n 0, 1) := by decide +kernel
theorem dX5_hindrance_96 : decode cX5_hindrance 96 = .ok (.iload_n 1, 1) := by decide +kernel
theorem dX5_hindrance_97 : decode cX5_hindrance 97 = .ok (.iload_n 2, 1) := by decide +kernel
theorem dX5_hindrance_98 : decode cX5_hindrance 98 = .ok (.invokevirtual 267, 3) := by decide +kernel
theorem dX5_hindrance_101 : decode cX5_hindrance 101 = .ok (.aload 4, 2) := by decide +kernel
theorem dX5_hindrance_103 : decode cX5_hindrance 103 = .ok (.getfield 242, 3) := by decide +kernel
theorem dX5_hindrance_106 : decode cX5_hindrance 106 = .ok (.if_icmp .lt 5, 3) := by decide +kernel
theorem dX5_hindrance_109 : decode cX5_hindrance 109 = .ok (.iconst 5, 1) := by decide +kernel
theorem dX5_hindrance_110 : decode cX5_hindrance 110 = .ok (.ireturn, 1) := by decide +kernel
theorem dX5_hindrance_111 : decode cX5_hindrance 111 = .ok (.aload 4, 2) := by decide +kernel
theorem dX5_hindrance_113 : decode cX5_hindrance 113 = .ok (.getfield 310, 3) := by decide +kernel
theorem dX5_hindrance_116 : decode cX5_hindrance 116 = .ok (.aload_n 3, 1) := by decide +kernel
theorem dX5_hindrance_117 : decode cX5_hindrance 117 = .ok (.getfield 279, 3) := by decide +kernel
theorem dX5_hindrance_120 : decode cX5_hindrance 120 = .ok (.land, 1) := by decide +kernel
theorem dX5_hindrance_121 : decode cX5_hindrance 121 = .ok (.lconst 0, 1) := by decide +kernel
theorem dX5_hindrance_122 : decode cX5_hindrance 122 = .ok (.lcmp, 1) := by decide +kernel
theorem dX5_hindrance_123 : decode cX5_hindrance 123 = .ok (.ifCond .eq 6, 3) := by decide +kernel
theorem dX5_hindrance_126 : decode cX5_hindrance 126 = .ok (.bipush 6, 2) := by decide +kernel
theorem dX5_hindrance_128 : decode cX5_hindrance 128 = .ok (.ireturn, 1) := by decide +kernel
theorem dX5_hindrance_129 : decode cX5_hindrance 129 = .ok (.aload_n 3, 1) := by decide +kernel
theorem dX5_hindrance_130 : decode cX5_hindrance 130 = .ok (.getfield 279, 3) := by decide +kernel
theorem dX5_hindrance_133 : decode cX5_hindrance 133 = .ok (.iload_n 1, 1) := by decide +kernel
theorem dX5_hindrance_134 : decode cX5_hindrance 134 = .ok (.lushr, 1) := by decide +kernel
theorem dX5_hindrance_135 : decode cX5_hindrance 135 = .ok (.lconst 1, 1) := by decide +kernel
theorem dX5_hindrance_136 : decode cX5_hindrance 136 = .ok (.land, 1) := by decide +kernel
theorem dX5_hindrance_137 : decode cX5_hindrance 137 = .ok (.lconst 1, 1) := by decide +kernel
theorem dX5_hindrance_138 : decode cX5_hindrance 138 = .ok (.lcmp, 1) := by decide +kernel
theorem dX5_hindrance_139 : decode cX5_hindrance 139 = .ok (.ifCond .ne 6, 3) := by decide +kernel
theorem dX5_hindrance_142 : decode cX5_hindrance 142 = .ok (.bipush 7, 2) := by decide +kernel
theorem dX5_hindrance_144 : decode cX5_hindrance 144 = .ok (.ireturn, 1) := by decide +kernel
theorem dX5_hindrance_145 : decode cX5_hindrance 145 = .ok (.iconst 0, 1) := by decide +kernel
theorem dX5_hindrance_146 : decode cX5_hindrance 146 = .ok (.ireturn, 1) := by decide +kernel
theorem dX5_offer_0 : decode cX5_offer 0 = .ok (.aload_n 0, 1) := by decide +kernel
theorem dX5_offer_1 : decode cX5_offer 1 = .ok (.getfield 17, 3) := by decide +kernel
theorem dX5_offer_4 : decode cX5_offer 4 = .ok (.iload_n 1, 1) := by decide +kernel
theorem dX5_offer_5 : decode cX5_offer 5 = .ok (.aaload, 1) := by decide +kernel
theorem dX5_offer_6 : decode cX5_offer 6 = .ok (.astore_n 3, 1) := by decide +kernel
theorem dX5_offer_7 : decode cX5_offer 7 = .ok (.aload_n 3, 1) := by decide +kernel
theorem dX5_offer_8 : decode cX5_offer 8 = .ok (.aload_n 0, 1) := by decide +kernel
theorem dX5_offer_9 : decode cX5_offer 9 = .ok (.getfield 108, 3) := by decide +kernel
theorem dX5_offer_12 : decode cX5_offer 12 = .ok (.invokevirtual 245, 3) := by decide +kernel
theorem dX5_offer_15 : decode cX5_offer 15 = .ok (.istore 4, 2) := by decide +kernel
theorem dX5_offer_17 : decode cX5_offer 17 = .ok (.iconst 0, 1) := by decide +kernel
theorem dX5_offer_18 : decode cX5_offer 18 = .ok (.istore 5, 2) := by decide +kernel
theorem dX5_offer_20 : decode cX5_offer 20 = .ok (.iload 5, 2) := by decide +kernel
theorem dX5_offer_22 : decode cX5_offer 22 = .ok (.aload_n 2, 1) := by decide +kernel
theorem dX5_offer_23 : decode cX5_offer 23 = .ok (.getfield 141, 3) := by decide +kernel
theorem dX5_offer_26 : decode cX5_offer 26 = .ok (.if_icmp .ge 32, 3) := by decide +kernel
theorem dX5_offer_29 : decode cX5_offer 29 = .ok (.aload_n 0, 1) := by decide +kernel
theorem dX5_offer_30 : decode cX5_offer 30 = .ok (.getfield 34, 3) := by decide +kernel
theorem dX5_offer_33 : decode cX5_offer 33 = .ok (.iload_n 1, 1) := by decide +kernel
theorem dX5_offer_34 : decode cX5_offer 34 = .ok (.iload 5, 2) := by decide +kernel
theorem dX5_offer_36 : decode cX5_offer 36 = .ok (.aload_n 3, 1) := by decide +kernel
theorem dX5_offer_37 : decode cX5_offer 37 = .ok (.aload_n 2, 1) := by decide +kernel
theorem dX5_offer_38 : decode cX5_offer 38 = .ok (.getfield 324, 3) := by decide +kernel
theorem dX5_offer_41 : decode cX5_offer 41 = .ok (.iload 5, 2) := by decide +kernel
theorem dX5_offer_43 : decode cX5_offer 43 = .ok (.iaload, 1) := by decide +kernel
theorem dX5_offer_44 : decode cX5_offer 44 = .ok (.iload 4, 2) := by decide +kernel
theorem dX5_offer_46 : decode cX5_offer 46 = .ok (.invokevirtual 327, 3) := by decide +kernel
theorem dX5_offer_49 : decode cX5_offer 49 = .ok (.invokevirtual 331, 3) := by decide +kernel
theorem dX5_offer_52 : decode cX5_offer 52 = .ok (.iinc 5 1, 3) := by decide +kernel
theorem dX5_offer_55 : decode cX5_offer 55 = .ok (.goto (-35), 3) := by decide +kernel
theorem dX5_offer_58 : decode cX5_offer 58 = .ok (.aload_n 0, 1) := by decide +kernel
theorem dX5_offer_59 : decode cX5_offer 59 = .ok (.getfield 34, 3) := by decide +kernel
theorem dX5_offer_62 : decode cX5_offer 62 = .ok (.iload_n 1, 1) := by decide +kernel
theorem dX5_offer_63 : decode cX5_offer 63 = .ok (.aload_n 3, 1) := by decide +kernel
theorem dX5_offer_64 : decode cX5_offer 64 = .ok (.getfield 310, 3) := by decide +kernel
theorem dX5_offer_67 : decode cX5_offer 67 = .ok (.invokevirtual 334, 3) := by decide +kernel
theorem dX5_offer_70 : decode cX5_offer 70 = .ok (.return_, 1) := by decide +kernel
theorem dX5_seekBest_0 : decode cX5_seekBest 0 = .ok (.aload_n 0, 1) := by decide +kernel
theorem dX5_seekBest_1 : decode cX5_seekBest 1 = .ok (.getfield 34, 3) := by decide +kernel
theorem dX5_seekBest_4 : decode cX5_seekBest 4 = .ok (.aload_n 2, 1) := by decide +kernel
theorem dX5_seekBest_5 : decode cX5_seekBest 5 = .ok (.getfield 141, 3) := by decide +kernel
theorem dX5_seekBest_8 : decode cX5_seekBest 8 = .ok (.invokevirtual 313, 3) := by decide +kernel
theorem dX5_seekBest_11 : decode cX5_seekBest 11 = .ok (.iconst 0, 1) := by decide +kernel
theorem dX5_seekBest_12 : decode cX5_seekBest 12 = .ok (.istore_n 3, 1) := by decide +kernel
theorem dX5_seekBest_13 : decode cX5_seekBest 13 = .ok (.iload_n 3, 1) := by decide +kernel
theorem dX5_seekBest_14 : decode cX5_seekBest 14 = .ok (.aload_n 0, 1) := by decide +kernel
theorem dX5_seekBest_15 : decode cX5_seekBest 15 = .ok (.getfield 79, 3) := by decide +kernel
theorem dX5_seekBest_18 : decode cX5_seekBest 18 = .ok (.if_icmp .ge 25, 3) := by decide +kernel
theorem dX5_seekBest_21 : decode cX5_seekBest 21 = .ok (.aload_n 0, 1) := by decide +kernel
theorem dX5_seekBest_22 : decode cX5_seekBest 22 = .ok (.iload_n 3, 1) := by decide +kernel
theorem dX5_seekBest_23 : decode cX5_seekBest 23 = .ok (.iload_n 1, 1) := by decide +kernel
theorem dX5_seekBest_24 : decode cX5_seekBest 24 = .ok (.aload_n 2, 1) := by decide +kernel
theorem dX5_seekBest_25 : decode cX5_seekBest 25 = .ok (.invokevirtual 155, 3) := by decide +kernel
theorem dX5_seekBest_28 : decode cX5_seekBest 28 = .ok (.ifCond .ne 9, 3) := by decide +kernel
theorem dX5_seekBest_31 : decode cX5_seekBest 31 = .ok (.aload_n 0, 1) := by decide +kernel
theorem dX5_seekBest_32 : decode cX5_seekBest 32 = .ok (.iload_n 3, 1) := by decide +kernel
theorem dX5_seekBest_33 : decode cX5_seekBest 33 = .ok (.aload_n 2, 1) := by decide +kernel
theorem dX5_seekBest_34 : decode cX5_seekBest 34 = .ok (.invokevirtual 316, 3) := by decide +kernel
theorem dX5_seekBest_37 : decode cX5_seekBest 37 = .ok (.iinc 3 1, 3) := by decide +kernel
theorem dX5_seekBest_40 : decode cX5_seekBest 40 = .ok (.goto (-27), 3) := by decide +kernel
theorem dX5_seekBest_43 : decode cX5_seekBest 43 = .ok (.aload_n 0, 1) := by decide +kernel
theorem dX5_seekBest_44 : decode cX5_seekBest 44 = .ok (.getfield 34, 3) := by decide +kernel
theorem dX5_seekBest_47 : decode cX5_seekBest 47 = .ok (.iconst (-1), 1) := by decide +kernel
theorem dX5_seekBest_48 : decode cX5_seekBest 48 = .ok (.invokevirtual 320, 3) := by decide +kernel
theorem dX5_seekBest_51 : decode cX5_seekBest 51 = .ok (.lreturn, 1) := by decide +kernel
theorem dX5_priceAt_0 : decode cX5_priceAt 0 = .ok (.aload_n 0, 1) := by decide +kernel
theorem dX5_priceAt_1 : decode cX5_priceAt 1 = .ok (.getfield 38, 3) := by decide +kernel
theorem dX5_priceAt_4 : decode cX5_priceAt 4 = .ok (.iload_n 1, 1) := by decide +kernel
theorem dX5_priceAt_5 : decode cX5_priceAt 5 = .ok (.iaload, 1) := by decide +kernel
theorem dX5_priceAt_6 : decode cX5_priceAt 6 = .ok (.istore 5, 2) := by decide +kernel
theorem dX5_priceAt_8 : decode cX5_priceAt 8 = .ok (.aload_n 0, 1) := by decide +kernel
theorem dX5_priceAt_9 : decode cX5_priceAt 9 = .ok (.getfield 17, 3) := by decide +kernel
theorem dX5_priceAt_12 : decode cX5_priceAt 12 = .ok (.iload 5, 2) := by decide +kernel
theorem dX5_priceAt_14 : decode cX5_priceAt 14 = .ok (.aaload, 1) := by decide +kernel
theorem dX5_priceAt_15 : decode cX5_priceAt 15 = .ok (.astore 6, 2) := by decide +kernel
theorem dX5_priceAt_17 : decode cX5_priceAt 17 = .ok (.aload 6, 2) := by decide +kernel
theorem dX5_priceAt_19 : decode cX5_priceAt 19 = .ok (.getfield 111, 3) := by decide +kernel
theorem dX5_priceAt_22 : decode cX5_priceAt 22 = .ok (.ifCond .eq 5, 3) := by decide +kernel
theorem dX5_priceAt_25 : decode cX5_priceAt 25 = .ok (.iconst 0, 1) := by decide +kernel
theorem dX5_priceAt_26 : decode cX5_priceAt 26 = .ok (.ireturn, 1) := by decide +kernel
theorem dX5_priceAt_27 : decode cX5_priceAt 27 = .ok (.iconst 1, 1) := by decide +kernel
theorem dX5_priceAt_28 : decode cX5_priceAt 28 = .ok (.aload 6, 2) := by decide +kernel
theorem dX5_priceAt_30 : decode cX5_priceAt 30 = .ok (.getfield 307, 3) := by decide +kernel
theorem dX5_priceAt_33 : decode cX5_priceAt 33 = .ok (.aload_n 2, 1) := by decide +kernel
theorem dX5_priceAt_34 : decode cX5_priceAt 34 = .ok (.getfield 324, 3) := by decide +kernel
theorem dX5_priceAt_37 : decode cX5_priceAt 37 = .ok (.iload_n 1, 1) := by decide +kernel
theorem dX5_priceAt_38 : decode cX5_priceAt 38 = .ok (.iaload, 1) := by decide +kernel
theorem dX5_priceAt_39 : decode cX5_priceAt 39 = .ok (.imul, 1) := by decide +kernel
theorem dX5_priceAt_40 : decode cX5_priceAt 40 = .ok (.bipush 100, 2) := by decide +kernel
theorem dX5_priceAt_42 : decode cX5_priceAt 42 = .ok (.idiv, 1) := by decide +kernel
theorem dX5_priceAt_43 : decode cX5_priceAt 43 = .ok (.invokestatic 252, 3) := by decide +kernel
theorem dX5_priceAt_46 : decode cX5_priceAt 46 = .ok (.istore 7, 2) := by decide +kernel
theorem dX5_priceAt_48 : decode cX5_priceAt 48 = .ok (.aload_n 0, 1) := by decide +kernel
theorem dX5_priceAt_49 : decode cX5_priceAt 49 = .ok (.getfield 123, 3) := by decide +kernel
theorem dX5_priceAt_52 : decode cX5_priceAt 52 = .ok (.ifCond .ne 6, 3) := by decide +kernel
theorem dX5_priceAt_55 : decode cX5_priceAt 55 = .ok (.iload 7, 2) := by decide +kernel
theorem dX5_priceAt_57 : decode cX5_priceAt 57 = .ok (.ireturn, 1) := by decide +kernel
theorem dX5_priceAt_58 : decode cX5_priceAt 58 = .ok (.lload_n 3, 1) := by decide +kernel
theorem dX5_priceAt_59 : decode cX5_priceAt 59 = .ok (.aload_n 0, 1) := by decide +kernel
theorem dX5_priceAt_60 : decode cX5_priceAt 60 = .ok (.getfield 34, 3) := by decide +kernel
theorem dX5_priceAt_63 : decode cX5_priceAt 63 = .ok (.iload 5, 2) := by decide +kernel
theorem dX5_priceAt_65 : decode cX5_priceAt 65 = .ok (.iload_n 1, 1) := by decide +kernel
theorem dX5_priceAt_66 : decode cX5_priceAt 66 = .ok (.invokevirtual 346, 3) := by decide +kernel
theorem dX5_priceAt_69 : decode cX5_priceAt 69 = .ok (.lsub, 1) := by decide +kernel
theorem dX5_priceAt_70 : decode cX5_priceAt 70 = .ok (.lstore 8, 2) := by decide +kernel
theorem dX5_priceAt_72 : decode cX5_priceAt 72 = .ok (.aload_n 0, 1) := by decide +kernel
theorem dX5_priceAt_73 : decode cX5_priceAt 73 = .ok (.getfield 34, 3) := by decide +kernel
theorem dX5_priceAt_76 : decode cX5_priceAt 76 = .ok (.iload 5, 2) := by decide +kernel
theorem dX5_priceAt_78 : decode cX5_priceAt 78 = .ok (.invokevirtual 320, 3) := by decide +kernel
theorem dX5_priceAt_81 : decode cX5_priceAt 81 = .ok (.lload 8, 2) := by decide +kernel
theorem dX5_priceAt_83 : decode cX5_priceAt 83 = .ok (.lsub, 1) := by decide +kernel
theorem dX5_priceAt_84 : decode cX5_priceAt 84 = .ok (.ldc2_w 261, 3) := by decide +kernel
theorem dX5_priceAt_87 : decode cX5_priceAt 87 = .ok (.ldiv, 1) := by decide +kernel
theorem dX5_priceAt_88 : decode cX5_priceAt 88 = .ok (.lstore 10, 2) := by decide +kernel
theorem dX5_priceAt_90 : decode cX5_priceAt 90 = .ok (.lconst 0, 1) := by decide +kernel
theorem dX5_priceAt_91 : decode cX5_priceAt 91 = .ok (.iload 7, 2) := by decide +kernel
theorem dX5_priceAt_93 : decode cX5_priceAt 93 = .ok (.i2l, 1) := by decide +kernel
theorem dX5_priceAt_94 : decode cX5_priceAt 94 = .ok (.lload 10, 2) := by decide +kernel
theorem dX5_priceAt_96 : decode cX5_priceAt 96 = .ok (.invokestatic 350, 3) := by decide +kernel
theorem dX5_priceAt_99 : decode cX5_priceAt 99 = .ok (.invokestatic 353, 3) := by decide +kernel
theorem dX5_priceAt_102 : decode cX5_priceAt 102 = .ok (.l2i, 1) := by decide +kernel
theorem dX5_priceAt_103 : decode cX5_priceAt 103 = .ok (.ireturn, 1) := by decide +kernel
theorem dX5_keepGivenAndPrices_0 : decode cX5_keepGivenAndPrices 0 = .ok (.iconst 0, 1) := by decide +kernel
theorem dX5_keepGivenAndPrices_1 : decode cX5_keepGivenAndPrices 1 = .ok (.istore_n 2, 1) := by decide +kernel
theorem dX5_keepGivenAndPrices_2 : decode cX5_keepGivenAndPrices 2 = .ok (.iload_n 2, 1) := by decide +kernel
theorem dX5_keepGivenAndPrices_3 : decode cX5_keepGivenAndPrices 3 = .ok (.aload_n 1, 1) := by decide +kernel
theorem dX5_keepGivenAndPrices_4 : decode cX5_keepGivenAndPrices 4 = .ok (.getfield 141, 3) := by decide +kernel
theorem dX5_keepGivenAndPrices_7 : decode cX5_keepGivenAndPrices 7 = .ok (.if_icmp .ge 24, 3) := by decide +kernel
theorem dX5_keepGivenAndPrices_10 : decode cX5_keepGivenAndPrices 10 = .ok (.aload_n 0, 1) := by decide +kernel
theorem dX5_keepGivenAndPrices_11 : decode cX5_keepGivenAndPrices 11 = .ok (.getfield 38, 3) := by decide +kernel
theorem dX5_keepGivenAndPrices_14 : decode cX5_keepGivenAndPrices 14 = .ok (.iload_n 2, 1) := by decide +kernel
theorem dX5_keepGivenAndPrices_15 : decode cX5_keepGivenAndPrices 15 = .ok (.aload_n 0, 1) := by decide +kernel
theorem dX5_keepGivenAndPrices_16 : decode cX5_keepGivenAndPrices 16 = .ok (.getfield 34, 3) := by decide +kernel
theorem dX5_keepGivenAndPrices_19 : decode cX5_keepGivenAndPrices 19 = .ok (.getfield 161, 3) := by decide +kernel
theorem dX5_keepGivenAndPrices_22 : decode cX5_keepGivenAndPrices 22 = .ok (.iload_n 2, 1) := by decide +kernel
theorem dX5_keepGivenAndPrices_23 : decode cX5_keepGivenAndPrices 23 = .ok (.iaload, 1) := by decide +kernel
theorem dX5_keepGivenAndPrices_24 : decode cX5_keepGivenAndPrices 24 = .ok (.iastore, 1) := by decide +kernel
theorem dX5_keepGivenAndPrices_25 : decode cX5_keepGivenAndPrices 25 = .ok (.iinc 2 1, 3) := by decide +kernel
theorem dX5_keepGivenAndPrices_28 : decode cX5_keepGivenAndPrices 28 = .ok (.goto (-26), 3) := by decide +kernel
theorem dX5_keepGivenAndPrices_31 : decode cX5_keepGivenAndPrices 31 = .ok (.aload_n 0, 1) := by decide +kernel
theorem dX5_keepGivenAndPrices_32 : decode cX5_keepGivenAndPrices 32 = .ok (.getfield 34, 3) := by decide +kernel
theorem dX5_keepGivenAndPrices_35 : decode cX5_keepGivenAndPrices 35 = .ok (.invokevirtual 338, 3) := by decide +kernel
theorem dX5_keepGivenAndPrices_38 : decode cX5_keepGivenAndPrices 38 = .ok (.lstore_n 2, 1) := by decide +kernel
theorem dX5_keepGivenAndPrices_39 : decode cX5_keepGivenAndPrices 39 = .ok (.iconst 0, 1) := by decide +kernel
theorem dX5_keepGivenAndPrices_40 : decode cX5_keepGivenAndPrices 40 = .ok (.istore 4, 2) := by decide +kernel
theorem dX5_keepGivenAndPrices_42 : decode cX5_keepGivenAndPrices 42 = .ok (.iload 4, 2) := by decide +kernel
theorem dX5_keepGivenAndPrices_44 : decode cX5_keepGivenAndPrices 44 = .ok (.aload_n 1, 1) := by decide +kernel
theorem dX5_keepGivenAndPrices_45 : decode cX5_keepGivenAndPrices 45 = .ok (.getfield 141, 3) := by decide +kernel
theorem dX5_keepGivenAndPrices_48 : decode cX5_keepGivenAndPrices 48 = .ok (.if_icmp .ge 39, 3) := by decide +kernel
theorem dX5_keepGivenAndPrices_51 : decode cX5_keepGivenAndPrices 51 = .ok (.aload_n 0, 1) := by decide +kernel
theorem dX5_keepGivenAndPrices_52 : decode cX5_keepGivenAndPrices 52 = .ok (.getfield 41, 3) := by decide +kernel
theorem dX5_keepGivenAndPrices_55 : decode cX5_keepGivenAndPrices 55 = .ok (.iload 4, 2) := by decide +kernel
theorem dX5_keepGivenAndPrices_57 : decode cX5_keepGivenAndPrices 57 = .ok (.aload_n 0, 1) := by decide +kernel
theorem dX5_keepGivenAndPrices_58 : decode cX5_keepGivenAndPrices 58 = .ok (.getfield 38, 3) := by decide +kernel
theorem dX5_keepGivenAndPrices_61 : decode cX5_keepGivenAndPrices 61 = .ok (.iload 4, 2) := by decide +kernel
theorem dX5_keepGivenAndPrices_63 : decode cX5_keepGivenAndPrices 63 = .ok (.iaload, 1) := by decide +kernel
theorem dX5_keepGivenAndPrices_64 : decode cX5_keepGivenAndPrices 64 = .ok (.iconst (-1), 1) := by decide +kernel
theorem dX5_keepGivenAndPrices_65 : decode cX5_keepGivenAndPrices 65 = .ok (.if_icmp .ne 7, 3) := by decide +kernel
theorem dX5_keepGivenAndPrices_68 : decode cX5_keepGivenAndPrices 68 = .ok (.iconst 0, 1) := by decide +kernel
theorem dX5_keepGivenAndPrices_69 : decode cX5_keepGivenAndPrices 69 = .ok (.goto 11, 3) := by decide +kernel
theorem dX5_keepGivenAndPrices_72 : decode cX5_keepGivenAndPrices 72 = .ok (.aload_n 0, 1) := by decide +kernel
theorem dX5_keepGivenAndPrices_73 : decode cX5_keepGivenAndPrices 73 = .ok (.iload 4, 2) := by decide +kernel
theorem dX5_keepGivenAndPrices_75 : decode cX5_keepGivenAndPrices 75 = .ok (.aload_n 1, 1) := by decide +kernel
theorem dX5_keepGivenAndPrices_76 : decode cX5_keepGivenAndPrices 76 = .ok (.lload_n 2, 1) := by decide +kernel
theorem dX5_keepGivenAndPrices_77 : decode cX5_keepGivenAndPrices 77 = .ok (.invokevirtual 342, 3) := by decide +kernel
theorem dX5_keepGivenAndPrices_80 : decode cX5_keepGivenAndPrices 80 = .ok (.iastore, 1) := by decide +kernel
theorem dX5_keepGivenAndPrices_81 : decode cX5_keepGivenAndPrices 81 = .ok (.iinc 4 1, 3) := by decide +kernel
theorem dX5_keepGivenAndPrices_84 : decode cX5_keepGivenAndPrices 84 = .ok (.goto (-42), 3) := by decide +kernel
theorem dX5_keepGivenAndPrices_87 : decode cX5_keepGivenAndPrices 87 = .ok (.return_, 1) := by decide +kernel
theorem dX5_count_0 : decode cX5_count 0 = .ok (.iload_n 1, 1) := by decide +kernel
theorem dX5_count_1 : decode cX5_count 1 = .ok (.tableswitch 69 0 5 #[39, 44, 49, 54, 59, 64], 39) := by decide +kernel
theorem dX5_count_40 : decode cX5_count 40 = .ok (.aload_n 0, 1) := by decide +kernel
theorem dX5_count_41 : decode cX5_count 41 = .ok (.getfield 55, 3) := by decide +kernel
theorem dX5_count_44 : decode cX5_count 44 = .ok (.ireturn, 1) := by decide +kernel
theorem dX5_count_45 : decode cX5_count 45 = .ok (.aload_n 0, 1) := by decide +kernel
theorem dX5_count_46 : decode cX5_count 46 = .ok (.getfield 79, 3) := by decide +kernel
theorem dX5_count_49 : decode cX5_count 49 = .ok (.ireturn, 1) := by decide +kernel
theorem dX5_count_50 : decode cX5_count 50 = .ok (.aload_n 0, 1) := by decide +kernel
theorem dX5_count_51 : decode cX5_count 51 = .ok (.getfield 138, 3) := by decide +kernel
theorem dX5_count_54 : decode cX5_count 54 = .ok (.ireturn, 1) := by decide +kernel
theorem dX5_count_55 : decode cX5_count 55 = .ok (.aload_n 0, 1) := by decide +kernel
theorem dX5_count_56 : decode cX5_count 56 = .ok (.getfield 108, 3) := by decide +kernel
theorem dX5_count_59 : decode cX5_count 59 = .ok (.ireturn, 1) := by decide +kernel
theorem dX5_count_60 : decode cX5_count 60 = .ok (.aload_n 0, 1) := by decide +kernel
theorem dX5_count_61 : decode cX5_count 61 = .ok (.getfield 226, 3) := by decide +kernel
theorem dX5_count_64 : decode cX5_count 64 = .ok (.ireturn, 1) := by decide +kernel
theorem dX5_count_65 : decode cX5_count 65 = .ok (.aload_n 0, 1) := by decide +kernel
theorem dX5_count_66 : decode cX5_count 66 = .ok (.getfield 273, 3) := by decide +kernel
theorem dX5_count_69 : decode cX5_count 69 = .ok (.ireturn, 1) := by decide +kernel
theorem dX5_count_70 : decode cX5_count 70 = .ok (.iconst (-1), 1) := by decide +kernel
theorem dX5_count_71 : decode cX5_count 71 = .ok (.ireturn, 1) := by decide +kernel
