theorem wm_179 : Cond.fieldLink RX4 15 "NoticeMarket$Tally" "showsNow" "I" ∈ lw_B := lb_1 189 (by decide +kernel) rfl
theorem wm_180 : Cond.fieldLink RX4 27 "NoticeMarket$Tally" "pressesNow" "I" ∈ lw_B := lb_1 193 (by decide +kernel) rfl
theorem wm_181 : Cond.fieldLink RX4 9 "NoticeMarket$Tally" "shows" "I" ∈ lw_B := lb_1 186 (by decide +kernel) rfl
theorem wm_182 : Cond.fieldLink RX4 30 "NoticeMarket$Tally" "presses" "I" ∈ lw_B := lb_1 191 (by decide +kernel) rfl
theorem wm_183 : Cond.fieldLink RX4 18 "NoticeMarket$Tally" "newest" "LNoticeMarket$Sale;" ∈ lw_B := lb_1 195 (by decide +kernel) rfl
theorem wm_184 : Cond.fieldLink RX4 33 "NoticeMarket$Sale" "soldAt" "I" ∈ lw_B := lb_3 21 (by decide +kernel) rfl
theorem wm_185 : Cond.fieldLink RX4 36 "NoticeMarket$Sale" "reader" "I" ∈ lw_B := lb_3 24 (by decide +kernel) rfl
theorem wm_186 : Cond.fieldLink RX4 22 "NoticeMarket$Sale" "earlier" "LNoticeMarket$Sale;" ∈ lw_B := lb_3 39 (by decide +kernel) rfl
theorem wm_187 : Cond.fieldLink RX4 39 "NoticeMarket$Sale" "state" "I" ∈ lw_B := lb_3 33 (by decide +kernel) rfl
theorem wm_188 : Cond.fieldLink RX0 44 "NoticeMarket$Campaign" "apartFrom" "J" ∈ lw_B := lb_1 234 (by decide +kernel) rfl
theorem wm_189 : Cond.constantLong RX0 48 (-1) ∈ lw_B := lb_2 57 (by decide +kernel) rfl
theorem wm_190 : Cond.fieldLink RX0 50 "NoticeMarket$Campaign" "promisedMany" "I" ∈ lw_B := lb_1 236 (by decide +kernel) rfl
theorem wm_191 : Cond.fieldLink RX0 53 "NoticeMarket$Campaign" "promisedAt" "I" ∈ lw_B := lb_1 237 (by decide +kernel) rfl
theorem wm_192 : Cond.fieldLink RX0 56 "NoticeMarket$Campaign" "promiseEnd" "J" ∈ lw_B := lb_1 238 (by decide +kernel) rfl
theorem wm_193 : Cond.fieldLink RX0 35 "NoticeMarket$Campaign" "mustHave" "I" ∈ lw_B := lb_1 217 (by decide +kernel) rfl
theorem wm_194 : Cond.fieldLink RX0 38 "NoticeMarket$Campaign" "mustLack" "I" ∈ lw_B := lb_1 218 (by decide +kernel) rfl
theorem wm_195 : Cond.fieldLink RX0 59 "NoticeMarket$Campaign" "dayBudget" "I" ∈ lw_B := lb_1 224 (by decide +kernel) rfl
theorem wm_196 : Cond.fieldLink RX0 12 "NoticeMarket$Campaign" "tally" "LNoticeMarket$Tally;" ∈ lw_B := lb_1 221 (by decide +kernel) rfl
theorem wm_197 : Cond.fieldLink RX0 62 "NoticeMarket$Tally" "usedToday" "I" ∈ lw_B := lb_1 184 (by decide +kernel) rfl
theorem wm_198 : Cond.fieldLink RX0 65 "NoticeMarket$Campaign" "allBudget" "I" ∈ lw_B := lb_1 226 (by decide +kernel) rfl
theorem wm_199 : Cond.fieldLink RX0 68 "NoticeMarket$Tally" "spent" "I" ∈ lw_B := lb_1 180 (by decide +kernel) rfl
theorem wm_200 : Cond.fieldLink RX0 71 "NoticeMarket$Tally" "held" "I" ∈ lw_B := lb_1 182 (by decide +kernel) rfl
theorem wm_201 : Cond.fieldLink RX0 74 "NoticeMarket$Tally" "shows" "I" ∈ lw_B := lb_1 187 (by decide +kernel) rfl
theorem wm_202 : Cond.methodLink RX0 77 yX0_dueBy ∈ lw_B := lb_2 176 (by decide +kernel) rfl
theorem wm_203 : Cond.instanceMethod yX0_dueBy ∈ lw_B := lb_2 178 (by decide +kernel) rfl
theorem wm_204 : Cond.selects RX0 yX0_dueBy yX0_dueBy ∈ lw_B := lb_0 13 (by decide +kernel) rfl
theorem wm_205 : Cond.initialized RX0 ∈ lw_B := lb_1 6 (by decide +kernel) rfl
theorem wm_206 : Cond.code yX0_dueBy cX0_dueBy 4 (some .long) ∈ lw_B := lb_2 179 (by decide +kernel) rfl
theorem wm_207 : Cond.fieldLink RX0 28 "NoticeMarket$Campaign" "sort" "I" ∈ lw_B := lb_1 213 (by decide +kernel) rfl
theorem wm_208 : Cond.constantLong RX0 81 (10000) ∈ lw_B := lb_2 184 (by decide +kernel) rfl
theorem wm_209 : Cond.fieldLink RX0 41 "NoticeMarket$Campaign" "bid" "I" ∈ lw_B := lb_1 219 (by decide +kernel) rfl
theorem wm_210 : Cond.fieldLink RX0 31 "NoticeMarket$Campaign" "paysByPress" "Z" ∈ lw_B := lb_1 215 (by decide +kernel) rfl
theorem wm_211 : Cond.constantLong RX0 87 (1000000000) ∈ lw_B := lb_2 189 (by decide +kernel) rfl
theorem wm_212 : Cond.methodLink RX0 83 yX4_chanceOf ∈ lw_B := lb_2 185 (by decide +kernel) rfl
theorem wm_213 : Cond.instanceMethod yX4_chanceOf ∈ lw_B := lb_2 186 (by decide +kernel) rfl
theorem wm_214 : Cond.selects RX4 yX4_chanceOf yX4_chanceOf ∈ lw_B := lb_2 187 (by decide +kernel) rfl
theorem wm_215 : Cond.initialized RX4 ∈ lw_B := lb_1 7 (by decide +kernel) rfl
theorem wm_216 : Cond.code yX4_chanceOf cX4_chanceOf 4 (some .long) ∈ lw_B := lb_2 188 (by decide +kernel) rfl
theorem wm_217 : Cond.constantLong RX0 89 (100) ∈ lw_B := lb_2 120 (by decide +kernel) rfl
theorem wm_218 : Cond.fieldLink RX0 25 "NoticeMarket$Campaign" "throttle" "I" ∈ lw_B := lb_1 231 (by decide +kernel) rfl
theorem wm_219 : Cond.methodLink RX0 97 Lib.Math.min.name ∈ lw_B := lb_2 124 (by decide +kernel) rfl
theorem wm_220 : Cond.static Lib.Math.min.name ∈ lw_B := lb_1 132 (by decide +kernel) rfl
theorem wm_221 : Cond.initialized RJ9 ∈ lw_B := lb_1 5 (by decide +kernel) rfl
theorem wm_222 : Cond.code Lib.Math.min.name Lib.Math.min.code 2 (some .int) ∈ lw_B := lb_1 133 (by decide +kernel) rfl
theorem wm_223 : Cond.methodLink RX0 91 Lib.Math.max.name ∈ lw_B := lb_2 121 (by decide +kernel) rfl
theorem wm_224 : Cond.static Lib.Math.max.name ∈ lw_B := lb_2 122 (by decide +kernel) rfl
theorem wm_225 : Cond.code Lib.Math.max.name Lib.Math.max.code 2 (some .int) ∈ lw_B := lb_2 123 (by decide +kernel) rfl
theorem dX4_endTick_0 : decode cX4_endTick 0 = .ok (.aload_n 0, 1) := by decide +kernel
theorem dX4_endTick_1 : decode cX4_endTick 1 = .ok (.iconst 0, 1) := by decide +kernel
theorem dX4_endTick_2 : decode cX4_endTick 2 = .ok (.putfield 15, 3) := by decide +kernel
theorem dX4_endTick_5 : decode cX4_endTick 5 = .ok (.aload_n 0, 1) := by decide +kernel
theorem dX4_endTick_6 : decode cX4_endTick 6 = .ok (.iconst 0, 1) := by decide +kernel
theorem dX4_endTick_7 : decode cX4_endTick 7 = .ok (.putfield 27, 3) := by decide +kernel
theorem dX4_endTick_10 : decode cX4_endTick 10 = .ok (.return_, 1) := by decide +kernel
theorem dX4_chanceOf_0 : decode cX4_chanceOf 0 = .ok (.aload_n 0, 1) := by decide +kernel
theorem dX4_chanceOf_1 : decode cX4_chanceOf 1 = .ok (.getfield 9, 3) := by decide +kernel
theorem dX4_chanceOf_4 : decode cX4_chanceOf 4 = .ok (.aload_n 0, 1) := by decide +kernel
theorem dX4_chanceOf_5 : decode cX4_chanceOf 5 = .ok (.getfield 15, 3) := by decide +kernel
theorem dX4_chanceOf_8 : decode cX4_chanceOf 8 = .ok (.isub, 1) := by decide +kernel
theorem dX4_chanceOf_9 : decode cX4_chanceOf 9 = .ok (.bipush 20, 2) := by decide +kernel
theorem dX4_chanceOf_11 : decode cX4_chanceOf 11 = .ok (.iadd, 1) := by decide +kernel
theorem dX4_chanceOf_12 : decode cX4_chanceOf 12 = .ok (.istore_n 3, 1) := by decide +kernel
theorem dX4_chanceOf_13 : decode cX4_chanceOf 13 = .ok (.iload_n 3, 1) := by decide +kernel
theorem dX4_chanceOf_14 : decode cX4_chanceOf 14 = .ok (.ifCond .gt 5, 3) := by decide +kernel
theorem dX4_chanceOf_17 : decode cX4_chanceOf 17 = .ok (.lconst 0, 1) := by decide +kernel
theorem dX4_chanceOf_18 : decode cX4_chanceOf 18 = .ok (.lreturn, 1) := by decide +kernel
theorem dX4_chanceOf_19 : decode cX4_chanceOf 19 = .ok (.lload_n 1, 1) := by decide +kernel
theorem dX4_chanceOf_20 : decode cX4_chanceOf 20 = .ok (.aload_n 0, 1) := by decide +kernel
theorem dX4_chanceOf_21 : decode cX4_chanceOf 21 = .ok (.getfield 30, 3) := by decide +kernel
theorem dX4_chanceOf_24 : decode cX4_chanceOf 24 = .ok (.aload_n 0, 1) := by decide +kernel
theorem dX4_chanceOf_25 : decode cX4_chanceOf 25 = .ok (.getfield 27, 3) := by decide +kernel
theorem dX4_chanceOf_28 : decode cX4_chanceOf 28 = .ok (.isub, 1) := by decide +kernel
theorem dX4_chanceOf_29 : decode cX4_chanceOf 29 = .ok (.iconst 1, 1) := by decide +kernel
theorem dX4_chanceOf_30 : decode cX4_chanceOf 30 = .ok (.iadd, 1) := by decide +kernel
theorem dX4_chanceOf_31 : decode cX4_chanceOf 31 = .ok (.i2l, 1) := by decide +kernel
theorem dX4_chanceOf_32 : decode cX4_chanceOf 32 = .ok (.lmul, 1) := by decide +kernel
theorem dX4_chanceOf_33 : decode cX4_chanceOf 33 = .ok (.iload_n 3, 1) := by decide +kernel
theorem dX4_chanceOf_34 : decode cX4_chanceOf 34 = .ok (.i2l, 1) := by decide +kernel
theorem dX4_chanceOf_35 : decode cX4_chanceOf 35 = .ok (.ldiv, 1) := by decide +kernel
theorem dX4_chanceOf_36 : decode cX4_chanceOf 36 = .ok (.lreturn, 1) := by decide +kernel
theorem dX4_showsTo_0 : decode cX4_showsTo 0 = .ok (.iconst 0, 1) := by decide +kernel
theorem dX4_showsTo_1 : decode cX4_showsTo 1 = .ok (.istore_n 3, 1) := by decide +kernel
theorem dX4_showsTo_2 : decode cX4_showsTo 2 = .ok (.aload_n 0, 1) := by decide +kernel
theorem dX4_showsTo_3 : decode cX4_showsTo 3 = .ok (.getfield 18, 3) := by decide +kernel
theorem dX4_showsTo_6 : decode cX4_showsTo 6 = .ok (.astore 4, 2) := by decide +kernel
theorem dX4_showsTo_8 : decode cX4_showsTo 8 = .ok (.aload 4, 2) := by decide +kernel
theorem dX4_showsTo_10 : decode cX4_showsTo 10 = .ok (.ifnull 43, 3) := by decide +kernel
theorem dX4_showsTo_13 : decode cX4_showsTo 13 = .ok (.aload 4, 2) := by decide +kernel
theorem dX4_showsTo_15 : decode cX4_showsTo 15 = .ok (.getfield 33, 3) := by decide +kernel
theorem dX4_showsTo_18 : decode cX4_showsTo 18 = .ok (.iload_n 2, 1) := by decide +kernel
theorem dX4_showsTo_19 : decode cX4_showsTo 19 = .ok (.if_icmp .le 34, 3) := by decide +kernel
theorem dX4_showsTo_22 : decode cX4_showsTo 22 = .ok (.aload 4, 2) := by decide +kernel
theorem dX4_showsTo_24 : decode cX4_showsTo 24 = .ok (.getfield 36, 3) := by decide +kernel
theorem dX4_showsTo_27 : decode cX4_showsTo 27 = .ok (.iload_n 1, 1) := by decide +kernel
theorem dX4_showsTo_28 : decode cX4_showsTo 28 = .ok (.if_icmp .ne 15, 3) := by decide +kernel
theorem dX4_showsTo_31 : decode cX4_showsTo 31 = .ok (.aload 4, 2) := by decide +kernel
theorem dX4_showsTo_33 : decode cX4_showsTo 33 = .ok (.getfield 39, 3) := by decide +kernel
theorem dX4_showsTo_36 : decode cX4_showsTo 36 = .ok (.iconst 3, 1) := by decide +kernel
theorem dX4_showsTo_37 : decode cX4_showsTo 37 = .ok (.if_icmp .eq 6, 3) := by decide +kernel
theorem dX4_showsTo_40 : decode cX4_showsTo 40 = .ok (.iinc 3 1, 3) := by decide +kernel
theorem dX4_showsTo_43 : decode cX4_showsTo 43 = .ok (.aload 4, 2) := by decide +kernel
theorem dX4_showsTo_45 : decode cX4_showsTo 45 = .ok (.getfield 22, 3) := by decide +kernel
theorem dX4_showsTo_48 : decode cX4_showsTo 48 = .ok (.astore 4, 2) := by decide +kernel
theorem dX4_showsTo_50 : decode cX4_showsTo 50 = .ok (.goto (-42), 3) := by decide +kernel
theorem dX4_showsTo_53 : decode cX4_showsTo 53 = .ok (.iload_n 3, 1) := by decide +kernel
theorem dX4_showsTo_54 : decode cX4_showsTo 54 = .ok (.ireturn, 1) := by decide +kernel
theorem dX4_addShowing_0 : decode cX4_addShowing 0 = .ok (.aload_n 0, 1) := by decide +kernel
theorem dX4_addShowing_1 : decode cX4_addShowing 1 = .ok (.dup, 1) := by decide +kernel
theorem dX4_addShowing_2 : decode cX4_addShowing 2 = .ok (.getfield 9, 3) := by decide +kernel
theorem dX4_addShowing_5 : decode cX4_addShowing 5 = .ok (.iconst 1, 1) := by decide +kernel
theorem dX4_addShowing_6 : decode cX4_addShowing 6 = .ok (.iadd, 1) := by decide +kernel
theorem dX4_addShowing_7 : decode cX4_addShowing 7 = .ok (.putfield 9, 3) := by decide +kernel
theorem dX4_addShowing_10 : decode cX4_addShowing 10 = .ok (.aload_n 0, 1) := by decide +kernel
theorem dX4_addShowing_11 : decode cX4_addShowing 11 = .ok (.dup, 1) := by decide +kernel
theorem dX4_addShowing_12 : decode cX4_addShowing 12 = .ok (.getfield 15, 3) := by decide +kernel
theorem dX4_addShowing_15 : decode cX4_addShowing 15 = .ok (.iconst 1, 1) := by decide +kernel
theorem dX4_addShowing_16 : decode cX4_addShowing 16 = .ok (.iadd, 1) := by decide +kernel
theorem dX4_addShowing_17 : decode cX4_addShowing 17 = .ok (.putfield 15, 3) := by decide +kernel
theorem dX4_addShowing_20 : decode cX4_addShowing 20 = .ok (.aload_n 1, 1) := by decide +kernel
theorem dX4_addShowing_21 : decode cX4_addShowing 21 = .ok (.aload_n 0, 1) := by decide +kernel
theorem dX4_addShowing_22 : decode cX4_addShowing 22 = .ok (.getfield 18, 3) := by decide +kernel
theorem dX4_addShowing_25 : decode cX4_addShowing 25 = .ok (.putfield 22, 3) := by decide +kernel
theorem dX4_addShowing_28 : decode cX4_addShowing 28 = .ok (.aload_n 0, 1) := by decide +kernel
theorem dX4_addShowing_29 : decode cX4_addShowing 29 = .ok (.aload_n 1, 1) := by decide +kernel
theorem dX4_addShowing_30 : decode cX4_addShowing 30 = .ok (.putfield 18, 3) := by decide +kernel
theorem dX4_addShowing_33 : decode cX4_addShowing 33 = .ok (.return_, 1) := by decide +kernel
theorem dX0_isApartFrom_0 : decode cX0_isApartFrom 0 = .ok (.aload_n 0, 1) := by decide +kernel
theorem dX0_isApartFrom_1 : decode cX0_isApartFrom 1 = .ok (.getfield 44, 3) := by decide +kernel
theorem dX0_isApartFrom_4 : decode cX0_isApartFrom 4 = .ok (.iload_n 1, 1) := by decide +kernel
theorem dX0_isApartFrom_5 : decode cX0_isApartFrom 5 = .ok (.lushr, 1) := by decide +kernel
theorem dX0_isApartFrom_6 : decode cX0_isApartFrom 6 = .ok (.lconst 1, 1) := by decide +kernel
theorem dX0_isApartFrom_7 : decode cX0_isApartFrom 7 = .ok (.land, 1) := by decide +kernel
theorem dX0_isApartFrom_8 : decode cX0_isApartFrom 8 = .ok (.lconst 1, 1) := by decide +kernel
theorem dX0_isApartFrom_9 : decode cX0_isApartFrom 9 = .ok (.lcmp, 1) := by decide +kernel
theorem dX0_isApartFrom_10 : decode cX0_isApartFrom 10 = .ok (.ifCond .ne 7, 3) := by decide +kernel
theorem dX0_isApartFrom_13 : decode cX0_isApartFrom 13 = .ok (.iconst 1, 1) := by decide +kernel
theorem dX0_isApartFrom_14 : decode cX0_isApartFrom 14 = .ok (.goto 4, 3) := by decide +kernel
theorem dX0_isApartFrom_17 : decode cX0_isApartFrom 17 = .ok (.iconst 0, 1) := by decide +kernel
theorem dX0_isApartFrom_18 : decode cX0_isApartFrom 18 = .ok (.ireturn, 1) := by decide +kernel
theorem dX0_setApart_0 : decode cX0_setApart 0 = .ok (.iload_n 2, 1) := by decide +kernel
theorem dX0_setApart_1 : decode cX0_setApart 1 = .ok (.ifCond .eq 18, 3) := by decide +kernel
theorem dX0_setApart_4 : decode cX0_setApart 4 = .ok (.aload_n 0, 1) := by decide +kernel
theorem dX0_setApart_5 : decode cX0_setApart 5 = .ok (.dup, 1) := by decide +kernel
theorem dX0_setApart_6 : decode cX0_setApart 6 = .ok (.getfield 44, 3) := by decide +kernel
theorem dX0_setApart_9 : decode cX0_setApart 9 = .ok (.lconst 1, 1) := by decide +kernel
theorem dX0_setApart_10 : decode cX0_setApart 10 = .ok (.iload_n 1, 1) := by decide +kernel
theorem dX0_setApart_11 : decode cX0_setApart 11 = .ok (.lshl, 1) := by decide +kernel
theorem dX0_setApart_12 : decode cX0_setApart 12 = .ok (.lor, 1) := by decide +kernel
theorem dX0_setApart_13 : decode cX0_setApart 13 = .ok (.putfield 44, 3) := by decide +kernel
theorem dX0_setApart_16 : decode cX0_setApart 16 = .ok (.goto 19, 3) := by decide +kernel
theorem dX0_setApart_19 : decode cX0_setApart 19 = .ok (.aload_n 0, 1) := by decide +kernel
theorem dX0_setApart_20 : decode cX0_setApart 20 = .ok (.dup, 1) := by decide +kernel
theorem dX0_setApart_21 : decode cX0_setApart 21 = .ok (.getfield 44, 3) := by decide +kernel
theorem dX0_setApart_24 : decode cX0_setApart 24 = .ok (.lconst 1, 1) := by decide +kernel
theorem dX0_setApart_25 : decode cX0_setApart 25 = .ok (.iload_n 1, 1) := by decide +kernel
theorem dX0_setApart_26 : decode cX0_setApart 26 = .ok (.lshl, 1) := by decide +kernel
theorem dX0_setApart_27 : decode cX0_setApart 27 = .ok (.ldc2_w 48, 3) := by decide +kernel
theorem dX0_setApart_30 : decode cX0_setApart 30 = .ok (.lxor, 1) := by decide +kernel
theorem dX0_setApart_31 : decode cX0_setApart 31 = .ok (.land, 1) := by decide +kernel
theorem dX0_setApart_32 : decode cX0_setApart 32 = .ok (.putfield 44, 3) := by decide +kernel
theorem dX0_setApart_35 : decode cX0_setApart 35 = .ok (.return_, 1) := by decide +kernel
theorem dX0_takePromise_0 : decode cX0_takePromise 0 = .ok (.aload_n 0, 1) := by decide +kernel
theorem dX0_takePromise_1 : decode cX0_takePromise 1 = .ok (.iload_n 1, 1) := by decide +kernel
theorem dX0_takePromise_2 : decode cX0_takePromise 2 = .ok (.putfield 50, 3) := by decide +kernel
theorem dX0_takePromise_5 : decode cX0_takePromise 5 = .ok (.aload_n 0, 1) := by decide +kernel
theorem dX0_takePromise_6 : decode cX0_takePromise 6 = .ok (.iload_n 2, 1) := by decide +kernel
theorem dX0_takePromise_7 : decode cX0_takePromise 7 = .ok (.putfield 53, 3) := by decide +kernel
theorem dX0_takePromise_10 : decode cX0_takePromise 10 = .ok (.aload_n 0, 1) := by decide +kernel
theorem dX0_takePromise_11 : decode cX0_takePromise 11 = .ok (.lload_n 3, 1) := by decide +kernel
theorem dX0_takePromise_12 : decode cX0_takePromise 12 = .ok (.putfield 56, 3) := by decide +kernel
theorem dX0_takePromise_15 : decode cX0_takePromise 15 = .ok (.return_, 1) := by decide +kernel
theorem dX0_wants_0 : decode cX0_wants 0 = .ok (.iload_n 1, 1) := by decide +kernel
theorem dX0_wants_1 : decode cX0_wants 1 = .ok (.aload_n 0, 1) := by decide +kernel
theorem dX0_wants_2 : decode cX0_wants 2 = .ok (.getfield 35, 3) := by decide +kernel
theorem dX0_wants_5 : decode cX0_wants 5 = .ok (.iand, 1) := by decide +kernel
theorem dX0_wants_6 : decode cX0_wants 6 = .ok (.aload_n 0, 1) := by decide +kernel
theorem dX0_wants_7 : decode cX0_wants 7 = .ok (.getfield 35, 3) := by decide +kernel
theorem dX0_wants_10 : decode cX0_wants 10 = .ok (.if_icmp .ne 16, 3) := by decide +kernel
theorem dX0_wants_13 : decode cX0_wants 13 = .ok (.iload_n 1, 1) := by decide +kernel
theorem dX0_wants_14 : decode cX0_wants 14 = .ok (.aload_n 0, 1) := by decide +kernel
theorem dX0_wants_15 : decode cX0_wants 15 = .ok (.getfield 38, 3) := by decide +kernel
theorem dX0_wants_18 : decode cX0_wants 18 = .ok (.iand, 1) := by decide +kernel
theorem dX0_wants_19 : decode cX0_wants 19 = .ok (.ifCond .ne 7, 3) := by decide +kernel
theorem dX0_wants_22 : decode cX0_wants 22 = .ok (.iconst 1, 1) := by decide +kernel
theorem dX0_wants_23 : decode cX0_wants 23 = .ok (.goto 4, 3) := by decide +kernel
theorem dX0_wants_26 : decode cX0_wants 26 = .ok (.iconst 0, 1) := by decide +kernel
theorem dX0_wants_27 : decode cX0_wants 27 = .ok (.ireturn, 1) := by decide +kernel
theorem dX0_leftToday_0 : decode cX0_leftToday 0 = .ok (.aload_n 0, 1) := by decide +kernel
theorem dX0_leftToday_1 : decode cX0_leftToday 1 = .ok (.getfield 59, 3) := by decide +kernel
theorem dX0_leftToday_4 : decode cX0_leftToday 4 = .ok (.aload_n 0, 1) := by decide +kernel
theorem dX0_leftToday_5 : decode cX0_leftToday 5 = .ok (.getfield 12, 3) := by decide +kernel
theorem dX0_leftToday_8 : decode cX0_leftToday 8 = .ok (.getfield 62, 3) := by decide +kernel
theorem dX0_leftToday_11 : decode cX0_leftToday 11 = .ok (.isub, 1) := by decide +kernel
theorem dX0_leftToday_12 : decode cX0_leftToday 12 = .ok (.ireturn, 1) := by decide +kernel
theorem dX0_leftInAll_0 : decode cX0_leftInAll 0 = .ok (.aload_n 0, 1) := by decide +kernel
theorem dX0_leftInAll_1 : decode cX0_leftInAll 1 = .ok (.getfield 65, 3) := by decide +kernel
theorem dX0_leftInAll_4 : decode cX0_leftInAll 4 = .ok (.aload_n 0, 1) := by decide +kernel
theorem dX0_leftInAll_5 : decode cX0_leftInAll 5 = .ok (.getfield 12, 3) := by decide +kernel
theorem dX0_leftInAll_8 : decode cX0_leftInAll 8 = .ok (.getfield 68, 3) := by decide +kernel
theorem dX0_leftInAll_11 : decode cX0_leftInAll 11 = .ok (.isub, 1) := by decide +kernel
theorem dX0_leftInAll_12 : decode cX0_leftInAll 12 = .ok (.aload_n 0, 1) := by decide +kernel
theorem dX0_leftInAll_13 : decode cX0_leftInAll 13 = .ok (.getfield 12, 3) := by decide +kernel
theorem dX0_leftInAll_16 : decode cX0_leftInAll 16 = .ok (.getfield 71, 3) := by decide +kernel
theorem dX0_leftInAll_19 : decode cX0_leftInAll 19 = .ok (.isub, 1) := by decide +kernel
theorem dX0_leftInAll_20 : decode cX0_leftInAll 20 = .ok (.ireturn, 1) := by decide +kernel
theorem dX0_dueBy_0 : decode cX0_dueBy 0 = .ok (.aload_n 0, 1) := by decide +kernel
theorem dX0_dueBy_1 : decode cX0_dueBy 1 = .ok (.getfield 56, 3) := by decide +kernel
theorem dX0_dueBy_4 : decode cX0_dueBy 4 = .ok (.aload_n 0, 1) := by decide +kernel
theorem dX0_dueBy_5 : decode cX0_dueBy 5 = .ok (.getfield 53, 3) := by decide +kernel
theorem dX0_dueBy_8 : decode cX0_dueBy 8 = .ok (.i2l, 1) := by decide +kernel
theorem dX0_dueBy_9 : decode cX0_dueBy 9 = .ok (.lsub, 1) := by decide +kernel
theorem dX0_dueBy_10 : decode cX0_dueBy 10 = .ok (.lstore_n 2, 1) := by decide +kernel
theorem dX0_dueBy_11 : decode cX0_dueBy 11 = .ok (.iload_n 1, 1) := by decide +kernel
theorem dX0_dueBy_12 : decode cX0_dueBy 12 = .ok (.i2l, 1) := by decide +kernel
theorem dX0_dueBy_13 : decode cX0_dueBy 13 = .ok (.aload_n 0, 1) := by decide +kernel
theorem dX0_dueBy_14 : decode cX0_dueBy 14 = .ok (.getfield 56, 3) := by decide +kernel
theorem dX0_dueBy_17 : decode cX0_dueBy 17 = .ok (.lcmp, 1) := by decide +kernel
theorem dX0_dueBy_18 : decode cX0_dueBy 18 = .ok (.ifCond .ge 9, 3) := by decide +kernel
theorem dX0_dueBy_21 : decode cX0_dueBy 21 = .ok (.lload_n 2, 1) := by decide +kernel
theorem dX0_dueBy_22 : decode cX0_dueBy 22 = .ok (.lconst 0, 1) := by decide +kernel
theorem dX0_dueBy_23 : decode cX0_dueBy 23 = .ok (.lcmp, 1) := by decide +kernel
theorem dX0_dueBy_24 : decode cX0_dueBy 24 = .ok (.ifCond .gt 9, 3) := by decide +kernel
theorem dX0_dueBy_27 : decode cX0_dueBy 27 = .ok (.aload_n 0, 1) := by decide +kernel
theorem dX0_dueBy_28 : decode cX0_dueBy 28 = .ok (.getfield 50, 3) := by decide +kernel
theorem dX0_dueBy_31 : decode cX0_dueBy 31 = .ok (.i2l, 1) := by decide +kernel
theorem dX0_dueBy_32 : decode cX0_dueBy 32 = .ok (.lreturn, 1) := by decide +kernel
theorem dX0_dueBy_33 : decode cX0_dueBy 33 = .ok (.aload_n 0, 1) := by decide +kernel
theorem dX0_dueBy_34 : decode cX0_dueBy 34 = .ok (.getfield 50, 3) := by decide +kernel
theorem dX0_dueBy_37 : decode cX0_dueBy 37 = .ok (.i2l, 1) := by decide +kernel
theorem dX0_dueBy_38 : decode cX0_dueBy 38 = .ok (.iload_n 1, 1) := by decide +kernel
theorem dX0_dueBy_39 : decode cX0_dueBy 39 = .ok (.aload_n 0, 1) := by decide +kernel
theorem dX0_dueBy_40 : decode cX0_dueBy 40 = .ok (.getfield 53, 3) := by decide +kernel
theorem dX0_dueBy_43 : decode cX0_dueBy 43 = .ok (.isub, 1) := by decide +kernel
theorem dX0_dueBy_44 : decode cX0_dueBy 44 = .ok (.i2l, 1) := by decide +kernel
theorem dX0_dueBy_45 : decode cX0_dueBy 45 = .ok (.lmul, 1) := by decide +kernel
theorem dX0_dueBy_46 : decode cX0_dueBy 46 = .ok (.lload_n 2, 1) := by decide +kernel
theorem dX0_dueBy_47 : decode cX0_dueBy 47 = .ok (.ldiv, 1) := by decide +kernel
theorem dX0_dueBy_48 : decode cX0_dueBy 48 = .ok (.lreturn, 1) := by decide +kernel
theorem dX0_isBehind_0 : decode cX0_isBehind 0 = .ok (.aload_n 0, 1) := by decide +kernel
theorem dX0_isBehind_1 : decode cX0_isBehind 1 = .ok (.getfield 50, 3) := by decide +kernel
theorem dX0_isBehind_4 : decode cX0_isBehind 4 = .ok (.ifCond .ne 5, 3) := by decide +kernel
theorem dX0_isBehind_7 : decode cX0_isBehind 7 = .ok (.iconst 0, 1) := by decide +kernel
theorem dX0_isBehind_8 : decode cX0_isBehind 8 = .ok (.ireturn, 1) := by decide +kernel
theorem dX0_isBehind_9 : decode cX0_isBehind 9 = .ok (.aload_n 0, 1) := by decide +kernel
theorem dX0_isBehind_10 : decode cX0_isBehind 10 = .ok (.getfield 12, 3) := by decide +kernel
theorem dX0_isBehind_13 : decode cX0_isBehind 13 = .ok (.getfield 74, 3) := by decide +kernel
theorem dX0_isBehind_16 : decode cX0_isBehind 16 = .ok (.i2l, 1) := by decide +kernel
theorem dX0_isBehind_17 : decode cX0_isBehind 17 = .ok (.aload_n 0, 1) := by decide +kernel
theorem dX0_isBehind_18 : decode cX0_isBehind 18 = .ok (.iload_n 1, 1) := by decide +kernel
theorem dX0_isBehind_19 : decode cX0_isBehind 19 = .ok (.invokevirtual 77, 3) := by decide +kernel
theorem dX0_isBehind_22 : decode cX0_isBehind 22 = .ok (.lcmp, 1) := by decide +kernel
theorem dX0_isBehind_23 : decode cX0_isBehind 23 = .ok (.ifCond .ge 7, 3) := by decide +kernel
theorem dX0_isBehind_26 : decode cX0_isBehind 26 = .ok (.iconst 1, 1) := by decide +kernel
theorem dX0_isBehind_27 : decode cX0_isBehind 27 = .ok (.goto 4, 3) := by decide +kernel
theorem dX0_isBehind_30 : decode cX0_isBehind 30 = .ok (.iconst 0, 1) := by decide +kernel
theorem dX0_isBehind_31 : decode cX0_isBehind 31 = .ok (.ireturn, 1) := by decide +kernel
theorem dX0_worthAt_0 : decode cX0_worthAt 0 = .ok (.aload_n 0, 1) := by decide +kernel
theorem dX0_worthAt_1 : decode cX0_worthAt 1 = .ok (.getfield 28, 3) := by decide +kernel
theorem dX0_worthAt_4 : decode cX0_worthAt 4 = .ok (.iconst 2, 1) := by decide +kernel
theorem dX0_worthAt_5 : decode cX0_worthAt 5 = .ok (.if_icmp .ne 5, 3) := by decide +kernel
theorem dX0_worthAt_8 : decode cX0_worthAt 8 = .ok (.lconst 0, 1) := by decide +kernel
theorem dX0_worthAt_9 : decode cX0_worthAt 9 = .ok (.lreturn, 1) := by decide +kernel
theorem dX0_worthAt_10 : decode cX0_worthAt 10 = .ok (.ldc2_w 81, 3) := by decide +kernel
theorem dX0_worthAt_13 : decode cX0_worthAt 13 = .ok (.aload_n 0, 1) := by decide +kernel
theorem dX0_worthAt_14 : decode cX0_worthAt 14 = .ok (.getfield 41, 3) := by decide +kernel
theorem dX0_worthAt_17 : decode cX0_worthAt 17 = .ok (.i2l, 1) := by decide +kernel
theorem dX0_worthAt_18 : decode cX0_worthAt 18 = .ok (.lmul, 1) := by decide +kernel
theorem dX0_worthAt_19 : decode cX0_worthAt 19 = .ok (.iload_n 1, 1) := by decide +kernel
theorem dX0_worthAt_20 : decode cX0_worthAt 20 = .ok (.i2l, 1) := by decide +kernel
theorem dX0_worthAt_21 : decode cX0_worthAt 21 = .ok (.lmul, 1) := by decide +kernel
theorem dX0_worthAt_22 : decode cX0_worthAt 22 = .ok (.lstore_n 3, 1) := by decide +kernel
theorem dX0_worthAt_23 : decode cX0_worthAt 23 = .ok (.aload_n 0, 1) := by decide +kernel
theorem dX0_worthAt_24 : decode cX0_worthAt 24 = .ok (.getfield 31, 3) := by decide +kernel
theorem dX0_worthAt_27 : decode cX0_worthAt 27 = .ok (.ifCond .eq 12, 3) := by decide +kernel
theorem dX0_worthAt_30 : decode cX0_worthAt 30 = .ok (.aload_n 0, 1) := by decide +kernel
theorem dX0_worthAt_31 : decode cX0_worthAt 31 = .ok (.getfield 12, 3) := by decide +kernel
theorem dX0_worthAt_34 : decode cX0_worthAt 34 = .ok (.lload_n 3, 1) := by decide +kernel
theorem dX0_worthAt_35 : decode cX0_worthAt 35 = .ok (.invokevirtual 83, 3) := by decide +kernel
theorem dX0_worthAt_38 : decode cX0_worthAt 38 = .ok (.lreturn, 1) := by decide +kernel
theorem dX0_worthAt_39 : decode cX0_worthAt 39 = .ok (.iload_n 2, 1) := by decide +kernel
theorem dX0_worthAt_40 : decode cX0_worthAt 40 = .ok (.ifCond .eq 11, 3) := by decide +kernel
theorem dX0_worthAt_43 : decode cX0_worthAt 43 = .ok (.lload_n 3, 1) := by decide +kernel
theorem dX0_worthAt_44 : decode cX0_worthAt 44 = .ok (.ldc2_w 87, 3) := by decide +kernel
theorem dX0_worthAt_47 : decode cX0_worthAt 47 = .ok (.ladd, 1) := by decide +kernel
theorem dX0_worthAt_48 : decode cX0_worthAt 48 = .ok (.goto 4, 3) := by decide +kernel
theorem dX0_worthAt_51 : decode cX0_worthAt 51 = .ok (.lload_n 3, 1) := by decide +kernel
theorem dX0_worthAt_52 : decode cX0_worthAt 52 = .ok (.lreturn, 1) := by decide +kernel
theorem dX0_setThrottle_0 : decode cX0_setThrottle 0 = .ok (.iload_n 1, 1) := by decide +kernel
theorem dX0_setThrottle_1 : decode cX0_setThrottle 1 = .ok (.ifCond .ne 4, 3) := by decide +kernel
theorem dX0_setThrottle_4 : decode cX0_setThrottle 4 = .ok (.return_, 1) := by decide +kernel
theorem dX0_setThrottle_5 : decode cX0_setThrottle 5 = .ok (.aload_n 0, 1) := by decide +kernel
theorem dX0_setThrottle_6 : decode cX0_setThrottle 6 = .ok (.getfield 12, 3) := by decide +kernel
theorem dX0_setThrottle_9 : decode cX0_setThrottle 9 = .ok (.getfield 62, 3) := by decide +kernel
theorem dX0_setThrottle_12 : decode cX0_setThrottle 12 = .ok (.i2l, 1) := by decide +kernel
theorem dX0_setThrottle_13 : decode cX0_setThrottle 13 = .ok (.ldc2_w 89, 3) := by decide +kernel
theorem dX0_setThrottle_16 : decode cX0_setThrottle 16 = .ok (.lmul, 1) := by decide +kernel
theorem dX0_setThrottle_17 : decode cX0_setThrottle 17 = .ok (.lstore_n 2, 1) := by decide +kernel
theorem dX0_setThrottle_18 : decode cX0_setThrottle 18 = .ok (.aload_n 0, 1) := by decide +kernel
theorem dX0_setThrottle_19 : decode cX0_setThrottle 19 = .ok (.getfield 59, 3) := by decide +kernel
theorem dX0_setThrottle_22 : decode cX0_setThrottle 22 = .ok (.i2l, 1) := by decide +kernel
theorem dX0_setThrottle_23 : decode cX0_setThrottle 23 = .ok (.iload_n 1, 1) := by decide +kernel
theorem dX0_setThrottle_24 : decode cX0_setThrottle 24 = .ok (.i2l, 1) := by decide +kernel
theorem dX0_setThrottle_25 : decode cX0_setThrottle 25 = .ok (.lmul, 1) := by decide +kernel
theorem dX0_setThrottle_26 : decode cX0_setThrottle 26 = .ok (.lstore 4, 2) := by decide +kernel
theorem dX0_setThrottle_28 : decode cX0_setThrottle 28 = .ok (.lload_n 2, 1) := by decide +kernel
theorem dX0_setThrottle_29 : decode cX0_setThrottle 29 = .ok (.lload 4, 2) := by decide +kernel
theorem dX0_setThrottle_31 : decode cX0_setThrottle 31 = .ok (.lcmp, 1) := by decide +kernel
theorem dX0_setThrottle_32 : decode cX0_setThrottle 32 = .ok (.ifCond .le 24, 3) := by decide +kernel
theorem dX0_setThrottle_35 : decode cX0_setThrottle 35 = .ok (.aload_n 0, 1) := by decide +kernel
theorem dX0_setThrottle_36 : decode cX0_setThrottle 36 = .ok (.iconst 1, 1) := by decide +kernel
theorem dX0_setThrottle_37 : decode cX0_setThrottle 37 = .ok (.aload_n 0, 1) := by decide +kernel
theorem dX0_setThrottle_38 : decode cX0_setThrottle 38 = .ok (.getfield 25, 3) := by decide +kernel
theorem dX0_setThrottle_41 : decode cX0_setThrottle 41 = .ok (.bipush 9, 2) := by decide +kernel
theorem dX0_setThrottle_43 : decode cX0_setThrottle 43 = .ok (.imul, 1) := by decide +kernel
theorem dX0_setThrottle_44 : decode cX0_setThrottle 44 = .ok (.bipush 10, 2) := by decide +kernel
theorem dX0_setThrottle_46 : decode cX0_setThrottle 46 = .ok (.idiv, 1) := by decide +kernel
theorem dX0_setThrottle_47 : decode cX0_setThrottle 47 = .ok (.invokestatic 91, 3) := by decide +kernel
theorem dX0_setThrottle_50 : decode cX0_setThrottle 50 = .ok (.putfield 25, 3) := by decide +kernel
theorem dX0_setThrottle_53 : decode cX0_setThrottle 53 = .ok (.goto 32, 3) := by decide +kernel
theorem dX0_setThrottle_56 : decode cX0_setThrottle 56 = .ok (.lload_n 2, 1) := by decide +kernel
theorem dX0_setThrottle_57 : decode cX0_setThrottle 57 = .ok (.lload 4, 2) := by decide +kernel
theorem dX0_setThrottle_59 : decode cX0_setThrottle 59 = .ok (.lcmp, 1) := by decide +kernel
theorem dX0_setThrottle_60 : decode cX0_setThrottle 60 = .ok (.ifCond .ge 25, 3) := by decide +kernel
theorem dX0_setThrottle_63 : decode cX0_setThrottle 63 = .ok (.aload_n 0, 1) := by decide +kernel
theorem dX0_setThrottle_64 : decode cX0_setThrottle 64 = .ok (.sipush 1000, 3) := by decide +kernel
theorem dX0_setThrottle_67 : decode cX0_setThrottle 67 = .ok (.aload_n 0, 1) := by decide +kernel
theorem dX0_setThrottle_68 : decode cX0_setThrottle 68 = .ok (.getfield 25, 3) := by decide +kernel
theorem dX0_setThrottle_71 : decode cX0_setThrottle 71 = .ok (.bipush 11, 2) := by decide +kernel
theorem dX0_setThrottle_73 : decode cX0_setThrottle 73 = .ok (.imul, 1) := by decide +kernel
theorem dX0_setThrottle_74 : decode cX0_setThrottle 74 = .ok (.bipush 10, 2) := by decide +kernel
theorem dX0_setThrottle_76 : decode cX0_setThrottle 76 = .ok (.idiv, 1) := by decide +kernel
theorem dX0_setThrottle_77 : decode cX0_setThrottle 77 = .ok (.iconst 1, 1) := by decide +kernel
theorem dX0_setThrottle_78 : decode cX0_setThrottle 78 = .ok (.iadd, 1) := by decide +kernel
theorem dX0_setThrottle_79 : decode cX0_setThrottle 79 = .ok (.invokestatic 97, 3) := by decide +kernel
theorem dX0_setThrottle_82 : decode cX0_setThrottle 82 = .ok (.putfield 25, 3) := by decide +kernel
theorem dX0_setThrottle_85 : decode cX0_setThrottle 85 = .ok (.return_, 1) := by decide +kernel
