theorem wm_226 : Cond.methodLink RX1 32 Lib.Math.min.name ∈ lw_B := lb_2 141 (by decide +kernel) rfl
theorem wm_227 : Cond.fieldLink RX1 38 "NoticeMarket$Giver" "places" "I" ∈ lw_B := lb_1 39 (by decide +kernel) rfl
theorem wm_228 : Cond.fieldLink RX1 42 "NoticeMarket$Giver" "offered" "I" ∈ lw_B := lb_1 40 (by decide +kernel) rfl
theorem wm_229 : Cond.fieldLink RX1 45 "NoticeMarket$Giver" "offeredSet" "J" ∈ lw_B := lb_1 41 (by decide +kernel) rfl
theorem wm_230 : Cond.fieldLink RX1 28 "NoticeMarket$Giver" "apartFrom" "[J" ∈ lw_B := lb_1 38 (by decide +kernel) rfl
theorem wm_231 : Cond.fieldLink RX1 20 "NoticeMarket$Giver" "weights" "[[J" ∈ lw_B := lb_1 36 (by decide +kernel) rfl
theorem wm_232 : Cond.constantLong RX1 51 (14128805) ∈ lw_B := lb_2 195 (by decide +kernel) rfl
theorem wm_233 : Cond.fieldLink RX1 55 "NoticeMarket$Giver" "bestWeight" "J" ∈ lw_B := lb_1 42 (by decide +kernel) rfl
theorem wm_234 : Cond.fieldLink RX1 25 "NoticeMarket$Giver" "order" "[[I" ∈ lw_B := lb_1 37 (by decide +kernel) rfl
theorem wm_235 : Cond.methodLink RX1 80 yX1_greatestAt ∈ lw_B := lb_2 218 (by decide +kernel) rfl
theorem wm_236 : Cond.instanceMethod yX1_greatestAt ∈ lw_B := lb_2 220 (by decide +kernel) rfl
theorem wm_237 : Cond.selects RX1 yX1_greatestAt yX1_greatestAt ∈ lw_B := lb_0 17 (by decide +kernel) rfl
theorem wm_238 : Cond.initialized RX1 ∈ lw_B := lb_1 2 (by decide +kernel) rfl
theorem wm_239 : Cond.code yX1_greatestAt cX1_greatestAt 6 (some .long) ∈ lw_B := lb_2 221 (by decide +kernel) rfl
theorem wm_240 : Cond.constantLong RX1 53 (2825761) ∈ lw_B := lb_2 196 (by decide +kernel) rfl
theorem wm_241 : Cond.constantLong RX1 49 (41) ∈ lw_B := lb_2 194 (by decide +kernel) rfl
theorem wm_242 : Cond.fieldLink RX1 11 "NoticeMarket$Giver" "chosen" "[I" ∈ lw_B := lb_1 33 (by decide +kernel) rfl
theorem wm_243 : Cond.fieldLink RX1 15 "NoticeMarket$Giver" "trial" "[I" ∈ lw_B := lb_1 35 (by decide +kernel) rfl
theorem wm_244 : Cond.methodLink RX1 68 yX1_keepIfBetter ∈ lw_B := lb_2 210 (by decide +kernel) rfl
theorem wm_245 : Cond.instanceMethod yX1_keepIfBetter ∈ lw_B := lb_2 212 (by decide +kernel) rfl
theorem wm_246 : Cond.selects RX1 yX1_keepIfBetter yX1_keepIfBetter ∈ lw_B := lb_0 15 (by decide +kernel) rfl
theorem wm_247 : Cond.code yX1_keepIfBetter cX1_keepIfBetter 4 none ∈ lw_B := lb_2 213 (by decide +kernel) rfl
theorem wm_248 : Cond.methodLink RX1 60 yX1_fillFrom ∈ lw_B := lb_2 206 (by decide +kernel) rfl
theorem wm_249 : Cond.instanceMethod yX1_fillFrom ∈ lw_B := lb_2 208 (by decide +kernel) rfl
theorem wm_250 : Cond.selects RX1 yX1_fillFrom yX1_fillFrom ∈ lw_B := lb_0 14 (by decide +kernel) rfl
theorem wm_251 : Cond.code yX1_fillFrom cX1_fillFrom 12 none ∈ lw_B := lb_2 209 (by decide +kernel) rfl
theorem wm_252 : Cond.methodLink RX1 72 yX1_mostFrom ∈ lw_B := lb_2 214 (by decide +kernel) rfl
theorem wm_253 : Cond.instanceMethod yX1_mostFrom ∈ lw_B := lb_2 216 (by decide +kernel) rfl
theorem wm_254 : Cond.selects RX1 yX1_mostFrom yX1_mostFrom ∈ lw_B := lb_0 16 (by decide +kernel) rfl
theorem wm_255 : Cond.code yX1_mostFrom cX1_mostFrom 7 (some .long) ∈ lw_B := lb_2 217 (by decide +kernel) rfl
theorem wm_256 : Cond.methodLink RX1 76 yX1_tryAt ∈ lw_B := lb_2 222 (by decide +kernel) rfl
theorem wm_257 : Cond.instanceMethod yX1_tryAt ∈ lw_B := lb_2 224 (by decide +kernel) rfl
theorem wm_258 : Cond.selects RX1 yX1_tryAt yX1_tryAt ∈ lw_B := lb_0 18 (by decide +kernel) rfl
theorem wm_259 : Cond.code yX1_tryAt cX1_tryAt 7 none ∈ lw_B := lb_2 225 (by decide +kernel) rfl
theorem wm_260 : Cond.constantLong RX1 58 (-1) ∈ lw_B := lb_2 205 (by decide +kernel) rfl
theorem wm_261 : Cond.methodLink RX1 64 yX1_bestSum ∈ lw_B := lb_2 226 (by decide +kernel) rfl
theorem wm_262 : Cond.instanceMethod yX1_bestSum ∈ lw_B := lb_2 227 (by decide +kernel) rfl
theorem wm_263 : Cond.selects RX1 yX1_bestSum yX1_bestSum ∈ lw_B := lb_2 228 (by decide +kernel) rfl
theorem wm_264 : Cond.code yX1_bestSum cX1_bestSum 1 (some .long) ∈ lw_B := lb_2 229 (by decide +kernel) rfl
theorem dX1_startFor_0 : decode cX1_startFor 0 = .ok (.aload_n 0, 1) := by decide +kernel
theorem dX1_startFor_1 : decode cX1_startFor 1 = .ok (.iload_n 1, 1) := by decide +kernel
theorem dX1_startFor_2 : decode cX1_startFor 2 = .ok (.iconst 4, 1) := by decide +kernel
theorem dX1_startFor_3 : decode cX1_startFor 3 = .ok (.invokestatic 32, 3) := by decide +kernel
theorem dX1_startFor_6 : decode cX1_startFor 6 = .ok (.putfield 38, 3) := by decide +kernel
theorem dX1_startFor_9 : decode cX1_startFor 9 = .ok (.aload_n 0, 1) := by decide +kernel
theorem dX1_startFor_10 : decode cX1_startFor 10 = .ok (.iconst 0, 1) := by decide +kernel
theorem dX1_startFor_11 : decode cX1_startFor 11 = .ok (.putfield 42, 3) := by decide +kernel
theorem dX1_startFor_14 : decode cX1_startFor 14 = .ok (.aload_n 0, 1) := by decide +kernel
theorem dX1_startFor_15 : decode cX1_startFor 15 = .ok (.lconst 0, 1) := by decide +kernel
theorem dX1_startFor_16 : decode cX1_startFor 16 = .ok (.putfield 45, 3) := by decide +kernel
theorem dX1_startFor_19 : decode cX1_startFor 19 = .ok (.return_, 1) := by decide +kernel
theorem dX1_addCampaign_0 : decode cX1_addCampaign 0 = .ok (.aload_n 0, 1) := by decide +kernel
theorem dX1_addCampaign_1 : decode cX1_addCampaign 1 = .ok (.getfield 28, 3) := by decide +kernel
theorem dX1_addCampaign_4 : decode cX1_addCampaign 4 = .ok (.iload_n 1, 1) := by decide +kernel
theorem dX1_addCampaign_5 : decode cX1_addCampaign 5 = .ok (.lload_n 2, 1) := by decide +kernel
theorem dX1_addCampaign_6 : decode cX1_addCampaign 6 = .ok (.lastore, 1) := by decide +kernel
theorem dX1_addCampaign_7 : decode cX1_addCampaign 7 = .ok (.aload_n 0, 1) := by decide +kernel
theorem dX1_addCampaign_8 : decode cX1_addCampaign 8 = .ok (.dup, 1) := by decide +kernel
theorem dX1_addCampaign_9 : decode cX1_addCampaign 9 = .ok (.getfield 45, 3) := by decide +kernel
theorem dX1_addCampaign_12 : decode cX1_addCampaign 12 = .ok (.lconst 1, 1) := by decide +kernel
theorem dX1_addCampaign_13 : decode cX1_addCampaign 13 = .ok (.iload_n 1, 1) := by decide +kernel
theorem dX1_addCampaign_14 : decode cX1_addCampaign 14 = .ok (.lshl, 1) := by decide +kernel
theorem dX1_addCampaign_15 : decode cX1_addCampaign 15 = .ok (.lor, 1) := by decide +kernel
theorem dX1_addCampaign_16 : decode cX1_addCampaign 16 = .ok (.putfield 45, 3) := by decide +kernel
theorem dX1_addCampaign_19 : decode cX1_addCampaign 19 = .ok (.aload_n 0, 1) := by decide +kernel
theorem dX1_addCampaign_20 : decode cX1_addCampaign 20 = .ok (.dup, 1) := by decide +kernel
theorem dX1_addCampaign_21 : decode cX1_addCampaign 21 = .ok (.getfield 42, 3) := by decide +kernel
theorem dX1_addCampaign_24 : decode cX1_addCampaign 24 = .ok (.iconst 1, 1) := by decide +kernel
theorem dX1_addCampaign_25 : decode cX1_addCampaign 25 = .ok (.iadd, 1) := by decide +kernel
theorem dX1_addCampaign_26 : decode cX1_addCampaign 26 = .ok (.putfield 42, 3) := by decide +kernel
theorem dX1_addCampaign_29 : decode cX1_addCampaign 29 = .ok (.return_, 1) := by decide +kernel
theorem dX1_worthOf_0 : decode cX1_worthOf 0 = .ok (.aload_n 0, 1) := by decide +kernel
theorem dX1_worthOf_1 : decode cX1_worthOf 1 = .ok (.getfield 20, 3) := by decide +kernel
theorem dX1_worthOf_4 : decode cX1_worthOf 4 = .ok (.iload_n 2, 1) := by decide +kernel
theorem dX1_worthOf_5 : decode cX1_worthOf 5 = .ok (.aaload, 1) := by decide +kernel
theorem dX1_worthOf_6 : decode cX1_worthOf 6 = .ok (.iload_n 1, 1) := by decide +kernel
theorem dX1_worthOf_7 : decode cX1_worthOf 7 = .ok (.laload, 1) := by decide +kernel
theorem dX1_worthOf_8 : decode cX1_worthOf 8 = .ok (.ldc2_w 51, 3) := by decide +kernel
theorem dX1_worthOf_11 : decode cX1_worthOf 11 = .ok (.ldiv, 1) := by decide +kernel
theorem dX1_worthOf_12 : decode cX1_worthOf 12 = .ok (.lreturn, 1) := by decide +kernel
theorem dX1_bestSum_0 : decode cX1_bestSum 0 = .ok (.aload_n 0, 1) := by decide +kernel
theorem dX1_bestSum_1 : decode cX1_bestSum 1 = .ok (.getfield 55, 3) := by decide +kernel
theorem dX1_bestSum_4 : decode cX1_bestSum 4 = .ok (.ldc2_w 51, 3) := by decide +kernel
theorem dX1_bestSum_7 : decode cX1_bestSum 7 = .ok (.ldiv, 1) := by decide +kernel
theorem dX1_bestSum_8 : decode cX1_bestSum 8 = .ok (.lreturn, 1) := by decide +kernel
theorem dX1_greatestAt_0 : decode cX1_greatestAt 0 = .ok (.iconst 0, 1) := by decide +kernel
theorem dX1_greatestAt_1 : decode cX1_greatestAt 1 = .ok (.istore 4, 2) := by decide +kernel
theorem dX1_greatestAt_3 : decode cX1_greatestAt 3 = .ok (.iload 4, 2) := by decide +kernel
theorem dX1_greatestAt_5 : decode cX1_greatestAt 5 = .ok (.aload_n 0, 1) := by decide +kernel
theorem dX1_greatestAt_6 : decode cX1_greatestAt 6 = .ok (.getfield 42, 3) := by decide +kernel
theorem dX1_greatestAt_9 : decode cX1_greatestAt 9 = .ok (.if_icmp .ge 41, 3) := by decide +kernel
theorem dX1_greatestAt_12 : decode cX1_greatestAt 12 = .ok (.aload_n 0, 1) := by decide +kernel
theorem dX1_greatestAt_13 : decode cX1_greatestAt 13 = .ok (.getfield 25, 3) := by decide +kernel
theorem dX1_greatestAt_16 : decode cX1_greatestAt 16 = .ok (.iload_n 1, 1) := by decide +kernel
theorem dX1_greatestAt_17 : decode cX1_greatestAt 17 = .ok (.aaload, 1) := by decide +kernel
theorem dX1_greatestAt_18 : decode cX1_greatestAt 18 = .ok (.iload 4, 2) := by decide +kernel
theorem dX1_greatestAt_20 : decode cX1_greatestAt 20 = .ok (.iaload, 1) := by decide +kernel
theorem dX1_greatestAt_21 : decode cX1_greatestAt 21 = .ok (.istore 5, 2) := by decide +kernel
theorem dX1_greatestAt_23 : decode cX1_greatestAt 23 = .ok (.lload_n 2, 1) := by decide +kernel
theorem dX1_greatestAt_24 : decode cX1_greatestAt 24 = .ok (.iload 5, 2) := by decide +kernel
theorem dX1_greatestAt_26 : decode cX1_greatestAt 26 = .ok (.lushr, 1) := by decide +kernel
theorem dX1_greatestAt_27 : decode cX1_greatestAt 27 = .ok (.lconst 1, 1) := by decide +kernel
theorem dX1_greatestAt_28 : decode cX1_greatestAt 28 = .ok (.land, 1) := by decide +kernel
theorem dX1_greatestAt_29 : decode cX1_greatestAt 29 = .ok (.lconst 1, 1) := by decide +kernel
theorem dX1_greatestAt_30 : decode cX1_greatestAt 30 = .ok (.lcmp, 1) := by decide +kernel
theorem dX1_greatestAt_31 : decode cX1_greatestAt 31 = .ok (.ifCond .ne 13, 3) := by decide +kernel
theorem dX1_greatestAt_34 : decode cX1_greatestAt 34 = .ok (.aload_n 0, 1) := by decide +kernel
theorem dX1_greatestAt_35 : decode cX1_greatestAt 35 = .ok (.getfield 20, 3) := by decide +kernel
theorem dX1_greatestAt_38 : decode cX1_greatestAt 38 = .ok (.iload_n 1, 1) := by decide +kernel
theorem dX1_greatestAt_39 : decode cX1_greatestAt 39 = .ok (.aaload, 1) := by decide +kernel
theorem dX1_greatestAt_40 : decode cX1_greatestAt 40 = .ok (.iload 5, 2) := by decide +kernel
theorem dX1_greatestAt_42 : decode cX1_greatestAt 42 = .ok (.laload, 1) := by decide +kernel
theorem dX1_greatestAt_43 : decode cX1_greatestAt 43 = .ok (.lreturn, 1) := by decide +kernel
theorem dX1_greatestAt_44 : decode cX1_greatestAt 44 = .ok (.iinc 4 1, 3) := by decide +kernel
theorem dX1_greatestAt_47 : decode cX1_greatestAt 47 = .ok (.goto (-44), 3) := by decide +kernel
theorem dX1_greatestAt_50 : decode cX1_greatestAt 50 = .ok (.lconst 0, 1) := by decide +kernel
theorem dX1_greatestAt_51 : decode cX1_greatestAt 51 = .ok (.lreturn, 1) := by decide +kernel
theorem dX1_mostFrom_0 : decode cX1_mostFrom 0 = .ok (.lconst 0, 1) := by decide +kernel
theorem dX1_mostFrom_1 : decode cX1_mostFrom 1 = .ok (.lstore 4, 2) := by decide +kernel
theorem dX1_mostFrom_3 : decode cX1_mostFrom 3 = .ok (.iload_n 1, 1) := by decide +kernel
theorem dX1_mostFrom_4 : decode cX1_mostFrom 4 = .ok (.istore 6, 2) := by decide +kernel
theorem dX1_mostFrom_6 : decode cX1_mostFrom 6 = .ok (.iload 6, 2) := by decide +kernel
theorem dX1_mostFrom_8 : decode cX1_mostFrom 8 = .ok (.aload_n 0, 1) := by decide +kernel
theorem dX1_mostFrom_9 : decode cX1_mostFrom 9 = .ok (.getfield 38, 3) := by decide +kernel
theorem dX1_mostFrom_12 : decode cX1_mostFrom 12 = .ok (.if_icmp .ge 21, 3) := by decide +kernel
theorem dX1_mostFrom_15 : decode cX1_mostFrom 15 = .ok (.lload 4, 2) := by decide +kernel
theorem dX1_mostFrom_17 : decode cX1_mostFrom 17 = .ok (.aload_n 0, 1) := by decide +kernel
theorem dX1_mostFrom_18 : decode cX1_mostFrom 18 = .ok (.iload 6, 2) := by decide +kernel
theorem dX1_mostFrom_20 : decode cX1_mostFrom 20 = .ok (.lload_n 2, 1) := by decide +kernel
theorem dX1_mostFrom_21 : decode cX1_mostFrom 21 = .ok (.invokevirtual 80, 3) := by decide +kernel
theorem dX1_mostFrom_24 : decode cX1_mostFrom 24 = .ok (.ladd, 1) := by decide +kernel
theorem dX1_mostFrom_25 : decode cX1_mostFrom 25 = .ok (.lstore 4, 2) := by decide +kernel
theorem dX1_mostFrom_27 : decode cX1_mostFrom 27 = .ok (.iinc 6 1, 3) := by decide +kernel
theorem dX1_mostFrom_30 : decode cX1_mostFrom 30 = .ok (.goto (-24), 3) := by decide +kernel
theorem dX1_mostFrom_33 : decode cX1_mostFrom 33 = .ok (.lload 4, 2) := by decide +kernel
theorem dX1_mostFrom_35 : decode cX1_mostFrom 35 = .ok (.lreturn, 1) := by decide +kernel
theorem dX1_addWorth_0 : decode cX1_addWorth 0 = .ok (.bipush 40, 2) := by decide +kernel
theorem dX1_addWorth_2 : decode cX1_addWorth 2 = .ok (.iload_n 1, 1) := by decide +kernel
theorem dX1_addWorth_3 : decode cX1_addWorth 3 = .ok (.isub, 1) := by decide +kernel
theorem dX1_addWorth_4 : decode cX1_addWorth 4 = .ok (.i2l, 1) := by decide +kernel
theorem dX1_addWorth_5 : decode cX1_addWorth 5 = .ok (.lstore 5, 2) := by decide +kernel
theorem dX1_addWorth_7 : decode cX1_addWorth 7 = .ok (.iload_n 2, 1) := by decide +kernel
theorem dX1_addWorth_8 : decode cX1_addWorth 8 = .ok (.iconst 1, 1) := by decide +kernel
theorem dX1_addWorth_9 : decode cX1_addWorth 9 = .ok (.iadd, 1) := by decide +kernel
theorem dX1_addWorth_10 : decode cX1_addWorth 10 = .ok (.istore 7, 2) := by decide +kernel
theorem dX1_addWorth_12 : decode cX1_addWorth 12 = .ok (.iload 7, 2) := by decide +kernel
theorem dX1_addWorth_14 : decode cX1_addWorth 14 = .ok (.iconst 4, 1) := by decide +kernel
theorem dX1_addWorth_15 : decode cX1_addWorth 15 = .ok (.if_icmp .ge 17, 3) := by decide +kernel
theorem dX1_addWorth_18 : decode cX1_addWorth 18 = .ok (.lload 5, 2) := by decide +kernel
theorem dX1_addWorth_20 : decode cX1_addWorth 20 = .ok (.ldc2_w 49, 3) := by decide +kernel
theorem dX1_addWorth_23 : decode cX1_addWorth 23 = .ok (.lmul, 1) := by decide +kernel
theorem dX1_addWorth_24 : decode cX1_addWorth 24 = .ok (.lstore 5, 2) := by decide +kernel
theorem dX1_addWorth_26 : decode cX1_addWorth 26 = .ok (.iinc 7 1, 3) := by decide +kernel
theorem dX1_addWorth_29 : decode cX1_addWorth 29 = .ok (.goto (-17), 3) := by decide +kernel
theorem dX1_addWorth_32 : decode cX1_addWorth 32 = .ok (.lload_n 3, 1) := by decide +kernel
theorem dX1_addWorth_33 : decode cX1_addWorth 33 = .ok (.ldc2_w 51, 3) := by decide +kernel
theorem dX1_addWorth_36 : decode cX1_addWorth 36 = .ok (.lmul, 1) := by decide +kernel
theorem dX1_addWorth_37 : decode cX1_addWorth 37 = .ok (.ldc2_w 53, 3) := by decide +kernel
theorem dX1_addWorth_40 : decode cX1_addWorth 40 = .ok (.ladd, 1) := by decide +kernel
theorem dX1_addWorth_41 : decode cX1_addWorth 41 = .ok (.lload 5, 2) := by decide +kernel
theorem dX1_addWorth_43 : decode cX1_addWorth 43 = .ok (.ladd, 1) := by decide +kernel
theorem dX1_addWorth_44 : decode cX1_addWorth 44 = .ok (.lstore 7, 2) := by decide +kernel
theorem dX1_addWorth_46 : decode cX1_addWorth 46 = .ok (.aload_n 0, 1) := by decide +kernel
theorem dX1_addWorth_47 : decode cX1_addWorth 47 = .ok (.getfield 20, 3) := by decide +kernel
theorem dX1_addWorth_50 : decode cX1_addWorth 50 = .ok (.iload_n 2, 1) := by decide +kernel
theorem dX1_addWorth_51 : decode cX1_addWorth 51 = .ok (.aaload, 1) := by decide +kernel
theorem dX1_addWorth_52 : decode cX1_addWorth 52 = .ok (.iload_n 1, 1) := by decide +kernel
theorem dX1_addWorth_53 : decode cX1_addWorth 53 = .ok (.lload 7, 2) := by decide +kernel
theorem dX1_addWorth_55 : decode cX1_addWorth 55 = .ok (.lastore, 1) := by decide +kernel
theorem dX1_addWorth_56 : decode cX1_addWorth 56 = .ok (.aload_n 0, 1) := by decide +kernel
theorem dX1_addWorth_57 : decode cX1_addWorth 57 = .ok (.getfield 42, 3) := by decide +kernel
theorem dX1_addWorth_60 : decode cX1_addWorth 60 = .ok (.istore 9, 2) := by decide +kernel
theorem dX1_addWorth_62 : decode cX1_addWorth 62 = .ok (.iload 9, 2) := by decide +kernel
theorem dX1_addWorth_64 : decode cX1_addWorth 64 = .ok (.ifCond .le 53, 3) := by decide +kernel
theorem dX1_addWorth_67 : decode cX1_addWorth 67 = .ok (.aload_n 0, 1) := by decide +kernel
theorem dX1_addWorth_68 : decode cX1_addWorth 68 = .ok (.getfield 20, 3) := by decide +kernel
theorem dX1_addWorth_71 : decode cX1_addWorth 71 = .ok (.iload_n 2, 1) := by decide +kernel
theorem dX1_addWorth_72 : decode cX1_addWorth 72 = .ok (.aaload, 1) := by decide +kernel
theorem dX1_addWorth_73 : decode cX1_addWorth 73 = .ok (.aload_n 0, 1) := by decide +kernel
theorem dX1_addWorth_74 : decode cX1_addWorth 74 = .ok (.getfield 25, 3) := by decide +kernel
theorem dX1_addWorth_77 : decode cX1_addWorth 77 = .ok (.iload_n 2, 1) := by decide +kernel
theorem dX1_addWorth_78 : decode cX1_addWorth 78 = .ok (.aaload, 1) := by decide +kernel
theorem dX1_addWorth_79 : decode cX1_addWorth 79 = .ok (.iload 9, 2) := by decide +kernel
theorem dX1_addWorth_81 : decode cX1_addWorth 81 = .ok (.iconst 1, 1) := by decide +kernel
theorem dX1_addWorth_82 : decode cX1_addWorth 82 = .ok (.isub, 1) := by decide +kernel
theorem dX1_addWorth_83 : decode cX1_addWorth 83 = .ok (.iaload, 1) := by decide +kernel
theorem dX1_addWorth_84 : decode cX1_addWorth 84 = .ok (.laload, 1) := by decide +kernel
theorem dX1_addWorth_85 : decode cX1_addWorth 85 = .ok (.lload 7, 2) := by decide +kernel
theorem dX1_addWorth_87 : decode cX1_addWorth 87 = .ok (.lcmp, 1) := by decide +kernel
theorem dX1_addWorth_88 : decode cX1_addWorth 88 = .ok (.ifCond .ge 29, 3) := by decide +kernel
theorem dX1_addWorth_91 : decode cX1_addWorth 91 = .ok (.aload_n 0, 1) := by decide +kernel
theorem dX1_addWorth_92 : decode cX1_addWorth 92 = .ok (.getfield 25, 3) := by decide +kernel
theorem dX1_addWorth_95 : decode cX1_addWorth 95 = .ok (.iload_n 2, 1) := by decide +kernel
theorem dX1_addWorth_96 : decode cX1_addWorth 96 = .ok (.aaload, 1) := by decide +kernel
theorem dX1_addWorth_97 : decode cX1_addWorth 97 = .ok (.iload 9, 2) := by decide +kernel
theorem dX1_addWorth_99 : decode cX1_addWorth 99 = .ok (.aload_n 0, 1) := by decide +kernel
theorem dX1_addWorth_100 : decode cX1_addWorth 100 = .ok (.getfield 25, 3) := by decide +kernel
theorem dX1_addWorth_103 : decode cX1_addWorth 103 = .ok (.iload_n 2, 1) := by decide +kernel
theorem dX1_addWorth_104 : decode cX1_addWorth 104 = .ok (.aaload, 1) := by decide +kernel
theorem dX1_addWorth_105 : decode cX1_addWorth 105 = .ok (.iload 9, 2) := by decide +kernel
theorem dX1_addWorth_107 : decode cX1_addWorth 107 = .ok (.iconst 1, 1) := by decide +kernel
theorem dX1_addWorth_108 : decode cX1_addWorth 108 = .ok (.isub, 1) := by decide +kernel
theorem dX1_addWorth_109 : decode cX1_addWorth 109 = .ok (.iaload, 1) := by decide +kernel
theorem dX1_addWorth_110 : decode cX1_addWorth 110 = .ok (.iastore, 1) := by decide +kernel
theorem dX1_addWorth_111 : decode cX1_addWorth 111 = .ok (.iinc 9 (-1), 3) := by decide +kernel
theorem dX1_addWorth_114 : decode cX1_addWorth 114 = .ok (.goto (-52), 3) := by decide +kernel
theorem dX1_addWorth_117 : decode cX1_addWorth 117 = .ok (.aload_n 0, 1) := by decide +kernel
theorem dX1_addWorth_118 : decode cX1_addWorth 118 = .ok (.getfield 25, 3) := by decide +kernel
theorem dX1_addWorth_121 : decode cX1_addWorth 121 = .ok (.iload_n 2, 1) := by decide +kernel
theorem dX1_addWorth_122 : decode cX1_addWorth 122 = .ok (.aaload, 1) := by decide +kernel
theorem dX1_addWorth_123 : decode cX1_addWorth 123 = .ok (.iload 9, 2) := by decide +kernel
theorem dX1_addWorth_125 : decode cX1_addWorth 125 = .ok (.iload_n 1, 1) := by decide +kernel
theorem dX1_addWorth_126 : decode cX1_addWorth 126 = .ok (.iastore, 1) := by decide +kernel
theorem dX1_addWorth_127 : decode cX1_addWorth 127 = .ok (.return_, 1) := by decide +kernel
theorem dX1_keepIfBetter_0 : decode cX1_keepIfBetter 0 = .ok (.lload_n 1, 1) := by decide +kernel
theorem dX1_keepIfBetter_1 : decode cX1_keepIfBetter 1 = .ok (.aload_n 0, 1) := by decide +kernel
theorem dX1_keepIfBetter_2 : decode cX1_keepIfBetter 2 = .ok (.getfield 55, 3) := by decide +kernel
theorem dX1_keepIfBetter_5 : decode cX1_keepIfBetter 5 = .ok (.lcmp, 1) := by decide +kernel
theorem dX1_keepIfBetter_6 : decode cX1_keepIfBetter 6 = .ok (.ifCond .gt 4, 3) := by decide +kernel
theorem dX1_keepIfBetter_9 : decode cX1_keepIfBetter 9 = .ok (.return_, 1) := by decide +kernel
theorem dX1_keepIfBetter_10 : decode cX1_keepIfBetter 10 = .ok (.aload_n 0, 1) := by decide +kernel
theorem dX1_keepIfBetter_11 : decode cX1_keepIfBetter 11 = .ok (.lload_n 1, 1) := by decide +kernel
theorem dX1_keepIfBetter_12 : decode cX1_keepIfBetter 12 = .ok (.putfield 55, 3) := by decide +kernel
theorem dX1_keepIfBetter_15 : decode cX1_keepIfBetter 15 = .ok (.iconst 0, 1) := by decide +kernel
theorem dX1_keepIfBetter_16 : decode cX1_keepIfBetter 16 = .ok (.istore_n 3, 1) := by decide +kernel
theorem dX1_keepIfBetter_17 : decode cX1_keepIfBetter 17 = .ok (.iload_n 3, 1) := by decide +kernel
theorem dX1_keepIfBetter_18 : decode cX1_keepIfBetter 18 = .ok (.aload_n 0, 1) := by decide +kernel
theorem dX1_keepIfBetter_19 : decode cX1_keepIfBetter 19 = .ok (.getfield 38, 3) := by decide +kernel
theorem dX1_keepIfBetter_22 : decode cX1_keepIfBetter 22 = .ok (.if_icmp .ge 21, 3) := by decide +kernel
theorem dX1_keepIfBetter_25 : decode cX1_keepIfBetter 25 = .ok (.aload_n 0, 1) := by decide +kernel
theorem dX1_keepIfBetter_26 : decode cX1_keepIfBetter 26 = .ok (.getfield 11, 3) := by decide +kernel
theorem dX1_keepIfBetter_29 : decode cX1_keepIfBetter 29 = .ok (.iload_n 3, 1) := by decide +kernel
theorem dX1_keepIfBetter_30 : decode cX1_keepIfBetter 30 = .ok (.aload_n 0, 1) := by decide +kernel
theorem dX1_keepIfBetter_31 : decode cX1_keepIfBetter 31 = .ok (.getfield 15, 3) := by decide +kernel
theorem dX1_keepIfBetter_34 : decode cX1_keepIfBetter 34 = .ok (.iload_n 3, 1) := by decide +kernel
theorem dX1_keepIfBetter_35 : decode cX1_keepIfBetter 35 = .ok (.iaload, 1) := by decide +kernel
theorem dX1_keepIfBetter_36 : decode cX1_keepIfBetter 36 = .ok (.iastore, 1) := by decide +kernel
theorem dX1_keepIfBetter_37 : decode cX1_keepIfBetter 37 = .ok (.iinc 3 1, 3) := by decide +kernel
theorem dX1_keepIfBetter_40 : decode cX1_keepIfBetter 40 = .ok (.goto (-23), 3) := by decide +kernel
theorem dX1_keepIfBetter_43 : decode cX1_keepIfBetter 43 = .ok (.return_, 1) := by decide +kernel
theorem dX1_fillFrom_0 : decode cX1_fillFrom 0 = .ok (.iload_n 1, 1) := by decide +kernel
theorem dX1_fillFrom_1 : decode cX1_fillFrom 1 = .ok (.aload_n 0, 1) := by decide +kernel
theorem dX1_fillFrom_2 : decode cX1_fillFrom 2 = .ok (.getfield 38, 3) := by decide +kernel
theorem dX1_fillFrom_5 : decode cX1_fillFrom 5 = .ok (.if_icmp .lt 10, 3) := by decide +kernel
theorem dX1_fillFrom_8 : decode cX1_fillFrom 8 = .ok (.aload_n 0, 1) := by decide +kernel
theorem dX1_fillFrom_9 : decode cX1_fillFrom 9 = .ok (.lload 4, 2) := by decide +kernel
theorem dX1_fillFrom_11 : decode cX1_fillFrom 11 = .ok (.invokevirtual 68, 3) := by decide +kernel
theorem dX1_fillFrom_14 : decode cX1_fillFrom 14 = .ok (.return_, 1) := by decide +kernel
theorem dX1_fillFrom_15 : decode cX1_fillFrom 15 = .ok (.lload 4, 2) := by decide +kernel
theorem dX1_fillFrom_17 : decode cX1_fillFrom 17 = .ok (.aload_n 0, 1) := by decide +kernel
theorem dX1_fillFrom_18 : decode cX1_fillFrom 18 = .ok (.iload_n 1, 1) := by decide +kernel
theorem dX1_fillFrom_19 : decode cX1_fillFrom 19 = .ok (.iconst 1, 1) := by decide +kernel
theorem dX1_fillFrom_20 : decode cX1_fillFrom 20 = .ok (.iadd, 1) := by decide +kernel
theorem dX1_fillFrom_21 : decode cX1_fillFrom 21 = .ok (.lload_n 2, 1) := by decide +kernel
theorem dX1_fillFrom_22 : decode cX1_fillFrom 22 = .ok (.invokevirtual 72, 3) := by decide +kernel
theorem dX1_fillFrom_25 : decode cX1_fillFrom 25 = .ok (.ladd, 1) := by decide +kernel
theorem dX1_fillFrom_26 : decode cX1_fillFrom 26 = .ok (.lstore 6, 2) := by decide +kernel
theorem dX1_fillFrom_28 : decode cX1_fillFrom 28 = .ok (.iconst 0, 1) := by decide +kernel
theorem dX1_fillFrom_29 : decode cX1_fillFrom 29 = .ok (.istore 8, 2) := by decide +kernel
theorem dX1_fillFrom_31 : decode cX1_fillFrom 31 = .ok (.iload 8, 2) := by decide +kernel
theorem dX1_fillFrom_33 : decode cX1_fillFrom 33 = .ok (.aload_n 0, 1) := by decide +kernel
theorem dX1_fillFrom_34 : decode cX1_fillFrom 34 = .ok (.getfield 42, 3) := by decide +kernel
theorem dX1_fillFrom_37 : decode cX1_fillFrom 37 = .ok (.if_icmp .ge 89, 3) := by decide +kernel
theorem dX1_fillFrom_40 : decode cX1_fillFrom 40 = .ok (.aload_n 0, 1) := by decide +kernel
theorem dX1_fillFrom_41 : decode cX1_fillFrom 41 = .ok (.getfield 25, 3) := by decide +kernel
theorem dX1_fillFrom_44 : decode cX1_fillFrom 44 = .ok (.iload_n 1, 1) := by decide +kernel
theorem dX1_fillFrom_45 : decode cX1_fillFrom 45 = .ok (.aaload, 1) := by decide +kernel
theorem dX1_fillFrom_46 : decode cX1_fillFrom 46 = .ok (.iload 8, 2) := by decide +kernel
theorem dX1_fillFrom_48 : decode cX1_fillFrom 48 = .ok (.iaload, 1) := by decide +kernel
theorem dX1_fillFrom_49 : decode cX1_fillFrom 49 = .ok (.istore 9, 2) := by decide +kernel
theorem dX1_fillFrom_51 : decode cX1_fillFrom 51 = .ok (.lload_n 2, 1) := by decide +kernel
theorem dX1_fillFrom_52 : decode cX1_fillFrom 52 = .ok (.iload 9, 2) := by decide +kernel
theorem dX1_fillFrom_54 : decode cX1_fillFrom 54 = .ok (.lushr, 1) := by decide +kernel
theorem dX1_fillFrom_55 : decode cX1_fillFrom 55 = .ok (.lconst 1, 1) := by decide +kernel
theorem dX1_fillFrom_56 : decode cX1_fillFrom 56 = .ok (.land, 1) := by decide +kernel
theorem dX1_fillFrom_57 : decode cX1_fillFrom 57 = .ok (.lconst 0, 1) := by decide +kernel
theorem dX1_fillFrom_58 : decode cX1_fillFrom 58 = .ok (.lcmp, 1) := by decide +kernel
theorem dX1_fillFrom_59 : decode cX1_fillFrom 59 = .ok (.ifCond .ne 6, 3) := by decide +kernel
theorem dX1_fillFrom_62 : decode cX1_fillFrom 62 = .ok (.goto 58, 3) := by decide +kernel
theorem dX1_fillFrom_65 : decode cX1_fillFrom 65 = .ok (.aload_n 0, 1) := by decide +kernel
theorem dX1_fillFrom_66 : decode cX1_fillFrom 66 = .ok (.getfield 20, 3) := by decide +kernel
theorem dX1_fillFrom_69 : decode cX1_fillFrom 69 = .ok (.iload_n 1, 1) := by decide +kernel
theorem dX1_fillFrom_70 : decode cX1_fillFrom 70 = .ok (.aaload, 1) := by decide +kernel
theorem dX1_fillFrom_71 : decode cX1_fillFrom 71 = .ok (.iload 9, 2) := by decide +kernel
theorem dX1_fillFrom_73 : decode cX1_fillFrom 73 = .ok (.laload, 1) := by decide +kernel
theorem dX1_fillFrom_74 : decode cX1_fillFrom 74 = .ok (.lstore 10, 2) := by decide +kernel
theorem dX1_fillFrom_76 : decode cX1_fillFrom 76 = .ok (.lload 6, 2) := by decide +kernel
theorem dX1_fillFrom_78 : decode cX1_fillFrom 78 = .ok (.lload 10, 2) := by decide +kernel
theorem dX1_fillFrom_80 : decode cX1_fillFrom 80 = .ok (.ladd, 1) := by decide +kernel
theorem dX1_fillFrom_81 : decode cX1_fillFrom 81 = .ok (.aload_n 0, 1) := by decide +kernel
theorem dX1_fillFrom_82 : decode cX1_fillFrom 82 = .ok (.getfield 55, 3) := by decide +kernel
theorem dX1_fillFrom_85 : decode cX1_fillFrom 85 = .ok (.lcmp, 1) := by decide +kernel
theorem dX1_fillFrom_86 : decode cX1_fillFrom 86 = .ok (.ifCond .gt 4, 3) := by decide +kernel
theorem dX1_fillFrom_89 : decode cX1_fillFrom 89 = .ok (.return_, 1) := by decide +kernel
theorem dX1_fillFrom_90 : decode cX1_fillFrom 90 = .ok (.aload_n 0, 1) := by decide +kernel
theorem dX1_fillFrom_91 : decode cX1_fillFrom 91 = .ok (.iload_n 1, 1) := by decide +kernel
theorem dX1_fillFrom_92 : decode cX1_fillFrom 92 = .ok (.iload 9, 2) := by decide +kernel
theorem dX1_fillFrom_94 : decode cX1_fillFrom 94 = .ok (.lload_n 2, 1) := by decide +kernel
theorem dX1_fillFrom_95 : decode cX1_fillFrom 95 = .ok (.aload_n 0, 1) := by decide +kernel
theorem dX1_fillFrom_96 : decode cX1_fillFrom 96 = .ok (.getfield 28, 3) := by decide +kernel
theorem dX1_fillFrom_99 : decode cX1_fillFrom 99 = .ok (.iload 9, 2) := by decide +kernel
theorem dX1_fillFrom_101 : decode cX1_fillFrom 101 = .ok (.laload, 1) := by decide +kernel
theorem dX1_fillFrom_102 : decode cX1_fillFrom 102 = .ok (.lconst 1, 1) := by decide +kernel
theorem dX1_fillFrom_103 : decode cX1_fillFrom 103 = .ok (.iload 9, 2) := by decide +kernel
theorem dX1_fillFrom_105 : decode cX1_fillFrom 105 = .ok (.lshl, 1) := by decide +kernel
theorem dX1_fillFrom_106 : decode cX1_fillFrom 106 = .ok (.lor, 1) := by decide +kernel
theorem dX1_fillFrom_107 : decode cX1_fillFrom 107 = .ok (.ldc2_w 58, 3) := by decide +kernel
theorem dX1_fillFrom_110 : decode cX1_fillFrom 110 = .ok (.lxor, 1) := by decide +kernel
theorem dX1_fillFrom_111 : decode cX1_fillFrom 111 = .ok (.land, 1) := by decide +kernel
theorem dX1_fillFrom_112 : decode cX1_fillFrom 112 = .ok (.lload 4, 2) := by decide +kernel
theorem dX1_fillFrom_114 : decode cX1_fillFrom 114 = .ok (.lload 10, 2) := by decide +kernel
theorem dX1_fillFrom_116 : decode cX1_fillFrom 116 = .ok (.ladd, 1) := by decide +kernel
theorem dX1_fillFrom_117 : decode cX1_fillFrom 117 = .ok (.invokevirtual 76, 3) := by decide +kernel
theorem dX1_fillFrom_120 : decode cX1_fillFrom 120 = .ok (.iinc 8 1, 3) := by decide +kernel
theorem dX1_fillFrom_123 : decode cX1_fillFrom 123 = .ok (.goto (-92), 3) := by decide +kernel
theorem dX1_fillFrom_126 : decode cX1_fillFrom 126 = .ok (.lload 6, 2) := by decide +kernel
theorem dX1_fillFrom_128 : decode cX1_fillFrom 128 = .ok (.aload_n 0, 1) := by decide +kernel
theorem dX1_fillFrom_129 : decode cX1_fillFrom 129 = .ok (.getfield 55, 3) := by decide +kernel
theorem dX1_fillFrom_132 : decode cX1_fillFrom 132 = .ok (.lcmp, 1) := by decide +kernel
theorem dX1_fillFrom_133 : decode cX1_fillFrom 133 = .ok (.ifCond .le 12, 3) := by decide +kernel
theorem dX1_fillFrom_136 : decode cX1_fillFrom 136 = .ok (.aload_n 0, 1) := by decide +kernel
theorem dX1_fillFrom_137 : decode cX1_fillFrom 137 = .ok (.iload_n 1, 1) := by decide +kernel
theorem dX1_fillFrom_138 : decode cX1_fillFrom 138 = .ok (.iconst (-1), 1) := by decide +kernel
theorem dX1_fillFrom_139 : decode cX1_fillFrom 139 = .ok (.lload_n 2, 1) := by decide +kernel
theorem dX1_fillFrom_140 : decode cX1_fillFrom 140 = .ok (.lload 4, 2) := by decide +kernel
theorem dX1_fillFrom_142 : decode cX1_fillFrom 142 = .ok (.invokevirtual 76, 3) := by decide +kernel
theorem dX1_fillFrom_145 : decode cX1_fillFrom 145 = .ok (.return_, 1) := by decide +kernel
theorem dX1_tryAt_0 : decode cX1_tryAt 0 = .ok (.aload_n 0, 1) := by decide +kernel
theorem dX1_tryAt_1 : decode cX1_tryAt 1 = .ok (.getfield 15, 3) := by decide +kernel
theorem dX1_tryAt_4 : decode cX1_tryAt 4 = .ok (.iload_n 1, 1) := by decide +kernel
theorem dX1_tryAt_5 : decode cX1_tryAt 5 = .ok (.iload_n 2, 1) := by decide +kernel
theorem dX1_tryAt_6 : decode cX1_tryAt 6 = .ok (.iastore, 1) := by decide +kernel
theorem dX1_tryAt_7 : decode cX1_tryAt 7 = .ok (.aload_n 0, 1) := by decide +kernel
theorem dX1_tryAt_8 : decode cX1_tryAt 8 = .ok (.iload_n 1, 1) := by decide +kernel
theorem dX1_tryAt_9 : decode cX1_tryAt 9 = .ok (.iconst 1, 1) := by decide +kernel
theorem dX1_tryAt_10 : decode cX1_tryAt 10 = .ok (.iadd, 1) := by decide +kernel
theorem dX1_tryAt_11 : decode cX1_tryAt 11 = .ok (.lload_n 3, 1) := by decide +kernel
theorem dX1_tryAt_12 : decode cX1_tryAt 12 = .ok (.lload 5, 2) := by decide +kernel
theorem dX1_tryAt_14 : decode cX1_tryAt 14 = .ok (.invokevirtual 60, 3) := by decide +kernel
theorem dX1_tryAt_17 : decode cX1_tryAt 17 = .ok (.return_, 1) := by decide +kernel
theorem dX1_seek_0 : decode cX1_seek 0 = .ok (.aload_n 0, 1) := by decide +kernel
theorem dX1_seek_1 : decode cX1_seek 1 = .ok (.lconst 0, 1) := by decide +kernel
theorem dX1_seek_2 : decode cX1_seek 2 = .ok (.putfield 55, 3) := by decide +kernel
theorem dX1_seek_5 : decode cX1_seek 5 = .ok (.iconst 0, 1) := by decide +kernel
theorem dX1_seek_6 : decode cX1_seek 6 = .ok (.istore_n 2, 1) := by decide +kernel
theorem dX1_seek_7 : decode cX1_seek 7 = .ok (.iload_n 2, 1) := by decide +kernel
theorem dX1_seek_8 : decode cX1_seek 8 = .ok (.iconst 4, 1) := by decide +kernel
theorem dX1_seek_9 : decode cX1_seek 9 = .ok (.if_icmp .ge 16, 3) := by decide +kernel
theorem dX1_seek_12 : decode cX1_seek 12 = .ok (.aload_n 0, 1) := by decide +kernel
theorem dX1_seek_13 : decode cX1_seek 13 = .ok (.getfield 11, 3) := by decide +kernel
theorem dX1_seek_16 : decode cX1_seek 16 = .ok (.iload_n 2, 1) := by decide +kernel
theorem dX1_seek_17 : decode cX1_seek 17 = .ok (.iconst (-1), 1) := by decide +kernel
theorem dX1_seek_18 : decode cX1_seek 18 = .ok (.iastore, 1) := by decide +kernel
theorem dX1_seek_19 : decode cX1_seek 19 = .ok (.iinc 2 1, 3) := by decide +kernel
theorem dX1_seek_22 : decode cX1_seek 22 = .ok (.goto (-15), 3) := by decide +kernel
theorem dX1_seek_25 : decode cX1_seek 25 = .ok (.iload_n 1, 1) := by decide +kernel
theorem dX1_seek_26 : decode cX1_seek 26 = .ok (.iconst (-1), 1) := by decide +kernel
theorem dX1_seek_27 : decode cX1_seek 27 = .ok (.if_icmp .ne 10, 3) := by decide +kernel
theorem dX1_seek_30 : decode cX1_seek 30 = .ok (.aload_n 0, 1) := by decide +kernel
theorem dX1_seek_31 : decode cX1_seek 31 = .ok (.getfield 45, 3) := by decide +kernel
theorem dX1_seek_34 : decode cX1_seek 34 = .ok (.goto 15, 3) := by decide +kernel
theorem dX1_seek_37 : decode cX1_seek 37 = .ok (.aload_n 0, 1) := by decide +kernel
theorem dX1_seek_38 : decode cX1_seek 38 = .ok (.getfield 45, 3) := by decide +kernel
theorem dX1_seek_41 : decode cX1_seek 41 = .ok (.lconst 1, 1) := by decide +kernel
theorem dX1_seek_42 : decode cX1_seek 42 = .ok (.iload_n 1, 1) := by decide +kernel
theorem dX1_seek_43 : decode cX1_seek 43 = .ok (.lshl, 1) := by decide +kernel
theorem dX1_seek_44 : decode cX1_seek 44 = .ok (.ldc2_w 58, 3) := by decide +kernel
theorem dX1_seek_47 : decode cX1_seek 47 = .ok (.lxor, 1) := by decide +kernel
theorem dX1_seek_48 : decode cX1_seek 48 = .ok (.land, 1) := by decide +kernel
theorem dX1_seek_49 : decode cX1_seek 49 = .ok (.lstore_n 2, 1) := by decide +kernel
theorem dX1_seek_50 : decode cX1_seek 50 = .ok (.aload_n 0, 1) := by decide +kernel
theorem dX1_seek_51 : decode cX1_seek 51 = .ok (.iconst 0, 1) := by decide +kernel
theorem dX1_seek_52 : decode cX1_seek 52 = .ok (.lload_n 2, 1) := by decide +kernel
theorem dX1_seek_53 : decode cX1_seek 53 = .ok (.lconst 0, 1) := by decide +kernel
theorem dX1_seek_54 : decode cX1_seek 54 = .ok (.invokevirtual 60, 3) := by decide +kernel
theorem dX1_seek_57 : decode cX1_seek 57 = .ok (.aload_n 0, 1) := by decide +kernel
theorem dX1_seek_58 : decode cX1_seek 58 = .ok (.invokevirtual 64, 3) := by decide +kernel
theorem dX1_seek_61 : decode cX1_seek 61 = .ok (.lreturn, 1) := by decide +kernel
