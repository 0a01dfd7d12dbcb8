theorem wm_0 : Cond.fieldLink RX6 87 "NoticeMarketModel" "state" "[I" ∈ lw_B := lb_3 181 (by decide +kernel) rfl
theorem wm_1 : Cond.fieldLink RX6 26 "NoticeMarketModel" "pays" "[I" ∈ lw_B := lb_3 160 (by decide +kernel) rfl
theorem wm_2 : Cond.fieldLink RX6 81 "NoticeMarketModel" "saleOf" "[I" ∈ lw_B := lb_3 179 (by decide +kernel) rfl
theorem wm_3 : Cond.fieldLink RX6 84 "NoticeMarketModel" "price" "[I" ∈ lw_B := lb_3 180 (by decide +kernel) rfl
theorem wm_4 : Cond.fieldLink RX6 161 "NoticeMarketModel" "sales" "I" ∈ lw_B := lb_3 174 (by decide +kernel) rfl
theorem wm_5 : Cond.methodLink RX6 164 yX6_coins ∈ lw_B := lb_4 128 (by decide +kernel) rfl
theorem wm_6 : Cond.instanceMethod yX6_coins ∈ lw_B := lb_4 130 (by decide +kernel) rfl
theorem wm_7 : Cond.selects RX6 yX6_coins yX6_coins ∈ lw_B := lb_0 32 (by decide +kernel) rfl
theorem wm_8 : Cond.initialized RX6 ∈ lw_B := lb_1 3 (by decide +kernel) rfl
theorem wm_9 : Cond.code yX6_coins cX6_coins 4 (some .int) ∈ lw_B := lb_4 131 (by decide +kernel) rfl
theorem wm_10 : Cond.fieldLink RX6 69 "NoticeMarketModel" "saleTick" "[I" ∈ lw_B := lb_3 175 (by decide +kernel) rfl
theorem wm_11 : Cond.fieldLink RX6 93 "NoticeMarketModel" "pressTick" "[I" ∈ lw_B := lb_3 183 (by decide +kernel) rfl
theorem wm_12 : Cond.fieldLink RX6 38 "NoticeMarketModel" "dayBudget" "[I" ∈ lw_B := lb_3 164 (by decide +kernel) rfl
theorem wm_13 : Cond.fieldLink RX6 152 "NoticeMarketModel" "tick" "I" ∈ lw_B := lb_3 150 (by decide +kernel) rfl
theorem wm_14 : Cond.methodLink RX6 168 yX6_sum ∈ lw_B := lb_4 124 (by decide +kernel) rfl
theorem wm_15 : Cond.instanceMethod yX6_sum ∈ lw_B := lb_4 126 (by decide +kernel) rfl
theorem wm_16 : Cond.selects RX6 yX6_sum yX6_sum ∈ lw_B := lb_0 31 (by decide +kernel) rfl
theorem wm_17 : Cond.code yX6_sum cX6_sum 7 (some .int) ∈ lw_B := lb_4 127 (by decide +kernel) rfl
theorem wm_18 : Cond.fieldLink RX6 41 "NoticeMarketModel" "allBudget" "[I" ∈ lw_B := lb_3 165 (by decide +kernel) rfl
theorem wm_19 : Cond.constant RX6 176 (40503) ∈ lw_B := lb_4 165 (by decide +kernel) rfl
theorem wm_20 : Cond.constant RX6 177 (668265263) ∈ lw_B := lb_4 166 (by decide +kernel) rfl
theorem wm_21 : Cond.fieldLink RX6 23 "NoticeMarketModel" "sort" "[I" ∈ lw_B := lb_3 159 (by decide +kernel) rfl
theorem wm_22 : Cond.fieldLink RX6 60 "NoticeMarketModel" "promised" "[I" ∈ lw_B := lb_3 171 (by decide +kernel) rfl
theorem wm_23 : Cond.methodLink RX6 172 yX6_showings ∈ lw_B := lb_4 176 (by decide +kernel) rfl
theorem wm_24 : Cond.instanceMethod yX6_showings ∈ lw_B := lb_4 178 (by decide +kernel) rfl
theorem wm_25 : Cond.selects RX6 yX6_showings yX6_showings ∈ lw_B := lb_0 42 (by decide +kernel) rfl
theorem wm_26 : Cond.code yX6_showings cX6_showings 5 (some .int) ∈ lw_B := lb_4 179 (by decide +kernel) rfl
theorem wm_27 : Cond.fieldLink RX6 63 "NoticeMarketModel" "promiseDay" "[I" ∈ lw_B := lb_3 172 (by decide +kernel) rfl
theorem wm_28 : Cond.fieldLink RX6 66 "NoticeMarketModel" "promiseFrom" "[I" ∈ lw_B := lb_3 173 (by decide +kernel) rfl
theorem wm_29 : Cond.fieldLink RX6 53 "NoticeMarketModel" "stopped" "[Z" ∈ lw_B := lb_3 169 (by decide +kernel) rfl
theorem wm_30 : Cond.fieldLink RX6 20 "NoticeMarketModel" "marks" "[I" ∈ lw_B := lb_3 157 (by decide +kernel) rfl
theorem wm_31 : Cond.fieldLink RX6 29 "NoticeMarketModel" "must" "[I" ∈ lw_B := lb_3 161 (by decide +kernel) rfl
theorem wm_32 : Cond.fieldLink RX6 32 "NoticeMarketModel" "never" "[I" ∈ lw_B := lb_3 162 (by decide +kernel) rfl
theorem wm_33 : Cond.fieldLink RX6 44 "NoticeMarketModel" "cap" "[I" ∈ lw_B := lb_3 166 (by decide +kernel) rfl
theorem wm_34 : Cond.methodLink RX6 185 yX6_drawOf ∈ lw_B := lb_4 161 (by decide +kernel) rfl
theorem wm_35 : Cond.instanceMethod yX6_drawOf ∈ lw_B := lb_4 163 (by decide +kernel) rfl
theorem wm_36 : Cond.selects RX6 yX6_drawOf yX6_drawOf ∈ lw_B := lb_0 39 (by decide +kernel) rfl
theorem wm_37 : Cond.code yX6_drawOf cX6_drawOf 4 (some .int) ∈ lw_B := lb_4 164 (by decide +kernel) rfl
theorem wm_38 : Cond.fieldLink RX6 50 "NoticeMarketModel" "throttle" "[I" ∈ lw_B := lb_3 168 (by decide +kernel) rfl
theorem wm_39 : Cond.methodLink RX6 178 yX6_leftOfDay ∈ lw_B := lb_4 153 (by decide +kernel) rfl
theorem wm_40 : Cond.instanceMethod yX6_leftOfDay ∈ lw_B := lb_4 155 (by decide +kernel) rfl
theorem wm_41 : Cond.selects RX6 yX6_leftOfDay yX6_leftOfDay ∈ lw_B := lb_0 37 (by decide +kernel) rfl
theorem wm_42 : Cond.code yX6_leftOfDay cX6_leftOfDay 2 (some .int) ∈ lw_B := lb_4 156 (by decide +kernel) rfl
theorem wm_43 : Cond.fieldLink RX6 35 "NoticeMarketModel" "bid" "[I" ∈ lw_B := lb_3 163 (by decide +kernel) rfl
theorem wm_44 : Cond.methodLink RX6 182 yX6_leftInAll ∈ lw_B := lb_4 157 (by decide +kernel) rfl
theorem wm_45 : Cond.instanceMethod yX6_leftInAll ∈ lw_B := lb_4 159 (by decide +kernel) rfl
theorem wm_46 : Cond.selects RX6 yX6_leftInAll yX6_leftInAll ∈ lw_B := lb_0 38 (by decide +kernel) rfl
theorem wm_47 : Cond.code yX6_leftInAll cX6_leftInAll 2 (some .int) ∈ lw_B := lb_4 160 (by decide +kernel) rfl
theorem wm_48 : Cond.fieldLink RX6 75 "NoticeMarketModel" "salePage" "[I" ∈ lw_B := lb_3 177 (by decide +kernel) rfl
theorem wm_49 : Cond.fieldLink RX6 57 "NoticeMarketModel" "apart" "[Z" ∈ lw_B := lb_3 170 (by decide +kernel) rfl
theorem wm_50 : Cond.fieldLink RX6 72 "NoticeMarketModel" "saleReader" "[I" ∈ lw_B := lb_3 176 (by decide +kernel) rfl
theorem wm_51 : Cond.fieldLink RX6 47 "NoticeMarketModel" "span" "[I" ∈ lw_B := lb_3 167 (by decide +kernel) rfl
theorem wm_52 : Cond.constantLong RX6 188 (10000) ∈ lw_B := lb_4 171 (by decide +kernel) rfl
theorem wm_53 : Cond.methodLink RX6 193 yX6_isBehind ∈ lw_B := lb_4 180 (by decide +kernel) rfl
theorem wm_54 : Cond.instanceMethod yX6_isBehind ∈ lw_B := lb_4 182 (by decide +kernel) rfl
theorem wm_55 : Cond.selects RX6 yX6_isBehind yX6_isBehind ∈ lw_B := lb_0 43 (by decide +kernel) rfl
theorem wm_56 : Cond.code yX6_isBehind cX6_isBehind 4 (some .boolean) ∈ lw_B := lb_4 183 (by decide +kernel) rfl
theorem wm_57 : Cond.constantLong RX6 196 (1000000000) ∈ lw_B := lb_4 184 (by decide +kernel) rfl
theorem wm_58 : Cond.methodLink RX6 190 yX6_presses ∈ lw_B := lb_4 172 (by decide +kernel) rfl
theorem wm_59 : Cond.instanceMethod yX6_presses ∈ lw_B := lb_4 174 (by decide +kernel) rfl
theorem wm_60 : Cond.selects RX6 yX6_presses yX6_presses ∈ lw_B := lb_0 41 (by decide +kernel) rfl
theorem wm_61 : Cond.code yX6_presses cX6_presses 5 (some .int) ∈ lw_B := lb_4 175 (by decide +kernel) rfl
theorem wm_62 : Cond.fieldLink RX6 106 "NoticeMarketModel" "at" "[I" ∈ lw_B := lb_3 189 (by decide +kernel) rfl
theorem wm_63 : Cond.fieldLink RX6 198 "NoticeMarketModel" "may" "I" ∈ lw_B := lb_3 184 (by decide +kernel) rfl
theorem wm_64 : Cond.fieldLink RX6 96 "NoticeMarketModel" "mayBe" "[I" ∈ lw_B := lb_3 185 (by decide +kernel) rfl
theorem wm_65 : Cond.methodLink RX5 65 yX5_isWithin ∈ lw_B := lb_1 123 (by decide +kernel) rfl
theorem wm_66 : Cond.static yX5_isWithin ∈ lw_B := lb_1 124 (by decide +kernel) rfl
theorem wm_67 : Cond.initialized RX5 ∈ lw_B := lb_1 1 (by decide +kernel) rfl
theorem wm_68 : Cond.code yX5_isWithin cX5_isWithin 3 (some .boolean) ∈ lw_B := lb_1 125 (by decide +kernel) rfl
theorem wm_69 : Cond.methodLink RX6 136 yX6_in ∈ lw_B := lb_4 68 (by decide +kernel) rfl
theorem wm_70 : Cond.static yX6_in ∈ lw_B := lb_4 69 (by decide +kernel) rfl
theorem wm_71 : Cond.code yX6_in cX6_in 3 (some .boolean) ∈ lw_B := lb_4 70 (by decide +kernel) rfl
theorem wm_72 : Cond.fieldLink RX5 55 "NoticeMarket" "pageCount" "I" ∈ lw_B := lb_1 71 (by decide +kernel) rfl
theorem wm_73 : Cond.fieldLink RX5 79 "NoticeMarket" "campaignCount" "I" ∈ lw_B := lb_1 72 (by decide +kernel) rfl
theorem wm_74 : Cond.fieldLink RX5 138 "NoticeMarket" "saleCount" "I" ∈ lw_B := lb_1 73 (by decide +kernel) rfl
theorem wm_75 : Cond.fieldLink RX6 133 "NoticeMarketModel" "pages" "I" ∈ lw_B := lb_3 154 (by decide +kernel) rfl
theorem wm_76 : Cond.fieldLink RX6 140 "NoticeMarketModel" "campaigns" "I" ∈ lw_B := lb_3 158 (by decide +kernel) rfl
theorem wm_77 : Cond.methodLink RX5 85 yX5_isCampaign ∈ lw_B := lb_2 36 (by decide +kernel) rfl
theorem wm_78 : Cond.instanceMethod yX5_isCampaign ∈ lw_B := lb_2 38 (by decide +kernel) rfl
theorem wm_79 : Cond.selects RX5 yX5_isCampaign yX5_isCampaign ∈ lw_B := lb_0 0 (by decide +kernel) rfl
theorem wm_80 : Cond.code yX5_isCampaign cX5_isCampaign 2 (some .boolean) ∈ lw_B := lb_2 39 (by decide +kernel) rfl
theorem wm_81 : Cond.methodLink RX6 148 yX6_isCampaign ∈ lw_B := lb_4 87 (by decide +kernel) rfl
theorem wm_82 : Cond.instanceMethod yX6_isCampaign ∈ lw_B := lb_4 89 (by decide +kernel) rfl
theorem wm_83 : Cond.selects RX6 yX6_isCampaign yX6_isCampaign ∈ lw_B := lb_0 29 (by decide +kernel) rfl
theorem wm_84 : Cond.code yX6_isCampaign cX6_isCampaign 2 (some .boolean) ∈ lw_B := lb_4 90 (by decide +kernel) rfl
theorem wm_85 : Cond.methodLink RX5 61 yX5_isReader ∈ lw_B := lb_1 153 (by decide +kernel) rfl
theorem wm_86 : Cond.static yX5_isReader ∈ lw_B := lb_1 154 (by decide +kernel) rfl
theorem wm_87 : Cond.code yX5_isReader cX5_isReader 1 (some .boolean) ∈ lw_B := lb_1 155 (by decide +kernel) rfl
theorem wm_88 : Cond.methodLink RX5 135 yX5_isPage ∈ lw_B := lb_2 129 (by decide +kernel) rfl
theorem wm_89 : Cond.instanceMethod yX5_isPage ∈ lw_B := lb_2 131 (by decide +kernel) rfl
theorem wm_90 : Cond.selects RX5 yX5_isPage yX5_isPage ∈ lw_B := lb_0 8 (by decide +kernel) rfl
theorem wm_91 : Cond.code yX5_isPage cX5_isPage 2 (some .boolean) ∈ lw_B := lb_2 132 (by decide +kernel) rfl
theorem wm_92 : Cond.methodLink RX6 143 yX6_isReader ∈ lw_B := lb_4 75 (by decide +kernel) rfl
theorem wm_93 : Cond.static yX6_isReader ∈ lw_B := lb_4 76 (by decide +kernel) rfl
theorem wm_94 : Cond.code yX6_isReader cX6_isReader 1 (some .boolean) ∈ lw_B := lb_4 77 (by decide +kernel) rfl
theorem wm_95 : Cond.methodLink RX6 243 yX6_isPage ∈ lw_B := lb_4 137 (by decide +kernel) rfl
theorem wm_96 : Cond.instanceMethod yX6_isPage ∈ lw_B := lb_4 139 (by decide +kernel) rfl
theorem wm_97 : Cond.selects RX6 yX6_isPage yX6_isPage ∈ lw_B := lb_0 33 (by decide +kernel) rfl
theorem wm_98 : Cond.code yX6_isPage cX6_isPage 2 (some .boolean) ∈ lw_B := lb_4 140 (by decide +kernel) rfl
theorem wm_99 : Cond.constantLong RX5 159 (-1) ∈ lw_B := lb_3 89 (by decide +kernel) rfl
theorem wm_100 : Cond.constantLong RX6 263 (-1) ∈ lw_B := lb_4 218 (by decide +kernel) rfl
theorem wm_101 : Cond.methodLink RX5 164 yX5_isSale ∈ lw_B := lb_3 98 (by decide +kernel) rfl
theorem wm_102 : Cond.instanceMethod yX5_isSale ∈ lw_B := lb_3 100 (by decide +kernel) rfl
theorem wm_103 : Cond.selects RX5 yX5_isSale yX5_isSale ∈ lw_B := lb_0 25 (by decide +kernel) rfl
theorem wm_104 : Cond.code yX5_isSale cX5_isSale 2 (some .boolean) ∈ lw_B := lb_3 101 (by decide +kernel) rfl
theorem wm_105 : Cond.methodLink RX6 265 yX6_isSale ∈ lw_B := lb_4 227 (by decide +kernel) rfl
theorem wm_106 : Cond.instanceMethod yX6_isSale ∈ lw_B := lb_4 229 (by decide +kernel) rfl
theorem wm_107 : Cond.selects RX6 yX6_isSale yX6_isSale ∈ lw_B := lb_0 50 (by decide +kernel) rfl
theorem wm_108 : Cond.code yX6_isSale cX6_isSale 2 (some .boolean) ∈ lw_B := lb_4 230 (by decide +kernel) rfl
theorem wm_109 : Cond.constant RX5 229 (-2000000) ∈ lw_B := lb_3 126 (by decide +kernel) rfl
theorem wm_110 : Cond.constant RX6 268 (-2000000) ∈ lw_B := lb_5 3 (by decide +kernel) rfl
theorem wm_111 : Cond.constant RX6 151 (1000000) ∈ lw_B := lb_4 91 (by decide +kernel) rfl
theorem wm_112 : Cond.fieldLink RX6 155 "NoticeMarketModel" "rule" "I" ∈ lw_B := lb_3 151 (by decide +kernel) rfl
theorem wm_113 : Cond.fieldLink RX6 158 "NoticeMarketModel" "pace" "I" ∈ lw_B := lb_3 152 (by decide +kernel) rfl
theorem wm_114 : Cond.fieldLink RX6 7 "NoticeMarketModel" "wait" "I" ∈ lw_B := lb_3 153 (by decide +kernel) rfl
theorem wm_115 : Cond.constant RX6 147 (16777215) ∈ lw_B := lb_4 82 (by decide +kernel) rfl
theorem wm_116 : Cond.fieldLink RX6 78 "NoticeMarketModel" "salePlace" "[I" ∈ lw_B := lb_3 178 (by decide +kernel) rfl
theorem wm_117 : Cond.constantLong RX6 261 (1000000) ∈ lw_B := lb_4 205 (by decide +kernel) rfl
theorem wm_118 : Cond.methodLink RX6 204 yX6_hinders ∈ lw_B := lb_4 149 (by decide +kernel) rfl
theorem wm_119 : Cond.instanceMethod yX6_hinders ∈ lw_B := lb_4 151 (by decide +kernel) rfl
theorem wm_120 : Cond.selects RX6 yX6_hinders yX6_hinders ∈ lw_B := lb_0 36 (by decide +kernel) rfl
theorem wm_121 : Cond.code yX6_hinders cX6_hinders 8 (some .int) ∈ lw_B := lb_4 152 (by decide +kernel) rfl
theorem wm_122 : Cond.fieldLink RX6 90 "NoticeMarketModel" "saleWait" "[I" ∈ lw_B := lb_3 182 (by decide +kernel) rfl
theorem wm_123 : Cond.constantLong RX6 241 (100) ∈ lw_B := lb_4 132 (by decide +kernel) rfl
theorem wm_124 : Cond.fieldLink RX6 124 "NoticeMarketModel" "toSell" "[I" ∈ lw_B := lb_3 198 (by decide +kernel) rfl
theorem wm_125 : Cond.fieldLink RX6 127 "NoticeMarketModel" "toPay" "[I" ∈ lw_B := lb_3 199 (by decide +kernel) rfl
theorem dX6_coins_0 : decode cX6_coins 0 = .ok (.aload_n 0, 1) := by decide +kernel
theorem dX6_coins_1 : decode cX6_coins 1 = .ok (.getfield 87, 3) := by decide +kernel
theorem dX6_coins_4 : decode cX6_coins 4 = .ok (.iload_n 1, 1) := by decide +kernel
theorem dX6_coins_5 : decode cX6_coins 5 = .ok (.iaload, 1) := by decide +kernel
theorem dX6_coins_6 : decode cX6_coins 6 = .ok (.iconst 3, 1) := by decide +kernel
theorem dX6_coins_7 : decode cX6_coins 7 = .ok (.if_icmp .ne 5, 3) := by decide +kernel
theorem dX6_coins_10 : decode cX6_coins 10 = .ok (.iconst 0, 1) := by decide +kernel
theorem dX6_coins_11 : decode cX6_coins 11 = .ok (.ireturn, 1) := by decide +kernel
theorem dX6_coins_12 : decode cX6_coins 12 = .ok (.aload_n 0, 1) := by decide +kernel
theorem dX6_coins_13 : decode cX6_coins 13 = .ok (.getfield 26, 3) := by decide +kernel
theorem dX6_coins_16 : decode cX6_coins 16 = .ok (.aload_n 0, 1) := by decide +kernel
theorem dX6_coins_17 : decode cX6_coins 17 = .ok (.getfield 81, 3) := by decide +kernel
theorem dX6_coins_20 : decode cX6_coins 20 = .ok (.iload_n 1, 1) := by decide +kernel
theorem dX6_coins_21 : decode cX6_coins 21 = .ok (.iaload, 1) := by decide +kernel
theorem dX6_coins_22 : decode cX6_coins 22 = .ok (.iaload, 1) := by decide +kernel
theorem dX6_coins_23 : decode cX6_coins 23 = .ok (.iconst 1, 1) := by decide +kernel
theorem dX6_coins_24 : decode cX6_coins 24 = .ok (.if_icmp .ne 7, 3) := by decide +kernel
theorem dX6_coins_27 : decode cX6_coins 27 = .ok (.iconst 1, 1) := by decide +kernel
theorem dX6_coins_28 : decode cX6_coins 28 = .ok (.goto 4, 3) := by decide +kernel
theorem dX6_coins_31 : decode cX6_coins 31 = .ok (.iconst 0, 1) := by decide +kernel
theorem dX6_coins_32 : decode cX6_coins 32 = .ok (.istore_n 3, 1) := by decide +kernel
theorem dX6_coins_33 : decode cX6_coins 33 = .ok (.iload_n 2, 1) := by decide +kernel
theorem dX6_coins_34 : decode cX6_coins 34 = .ok (.ifCond .eq 28, 3) := by decide +kernel
theorem dX6_coins_37 : decode cX6_coins 37 = .ok (.iload_n 3, 1) := by decide +kernel
theorem dX6_coins_38 : decode cX6_coins 38 = .ok (.ifCond .eq 22, 3) := by decide +kernel
theorem dX6_coins_41 : decode cX6_coins 41 = .ok (.aload_n 0, 1) := by decide +kernel
theorem dX6_coins_42 : decode cX6_coins 42 = .ok (.getfield 87, 3) := by decide +kernel
theorem dX6_coins_45 : decode cX6_coins 45 = .ok (.iload_n 1, 1) := by decide +kernel
theorem dX6_coins_46 : decode cX6_coins 46 = .ok (.iaload, 1) := by decide +kernel
theorem dX6_coins_47 : decode cX6_coins 47 = .ok (.iconst 1, 1) := by decide +kernel
theorem dX6_coins_48 : decode cX6_coins 48 = .ok (.if_icmp .ne 12, 3) := by decide +kernel
theorem dX6_coins_51 : decode cX6_coins 51 = .ok (.aload_n 0, 1) := by decide +kernel
theorem dX6_coins_52 : decode cX6_coins 52 = .ok (.getfield 84, 3) := by decide +kernel
theorem dX6_coins_55 : decode cX6_coins 55 = .ok (.iload_n 1, 1) := by decide +kernel
theorem dX6_coins_56 : decode cX6_coins 56 = .ok (.iaload, 1) := by decide +kernel
theorem dX6_coins_57 : decode cX6_coins 57 = .ok (.goto 4, 3) := by decide +kernel
theorem dX6_coins_60 : decode cX6_coins 60 = .ok (.iconst 0, 1) := by decide +kernel
theorem dX6_coins_61 : decode cX6_coins 61 = .ok (.ireturn, 1) := by decide +kernel
theorem dX6_coins_62 : decode cX6_coins 62 = .ok (.iload_n 3, 1) := by decide +kernel
theorem dX6_coins_63 : decode cX6_coins 63 = .ok (.ifCond .eq 13, 3) := by decide +kernel
theorem dX6_coins_66 : decode cX6_coins 66 = .ok (.aload_n 0, 1) := by decide +kernel
theorem dX6_coins_67 : decode cX6_coins 67 = .ok (.getfield 87, 3) := by decide +kernel
theorem dX6_coins_70 : decode cX6_coins 70 = .ok (.iload_n 1, 1) := by decide +kernel
theorem dX6_coins_71 : decode cX6_coins 71 = .ok (.iaload, 1) := by decide +kernel
theorem dX6_coins_72 : decode cX6_coins 72 = .ok (.iconst 2, 1) := by decide +kernel
theorem dX6_coins_73 : decode cX6_coins 73 = .ok (.if_icmp .ne 12, 3) := by decide +kernel
theorem dX6_coins_76 : decode cX6_coins 76 = .ok (.aload_n 0, 1) := by decide +kernel
theorem dX6_coins_77 : decode cX6_coins 77 = .ok (.getfield 84, 3) := by decide +kernel
theorem dX6_coins_80 : decode cX6_coins 80 = .ok (.iload_n 1, 1) := by decide +kernel
theorem dX6_coins_81 : decode cX6_coins 81 = .ok (.iaload, 1) := by decide +kernel
theorem dX6_coins_82 : decode cX6_coins 82 = .ok (.goto 4, 3) := by decide +kernel
theorem dX6_coins_85 : decode cX6_coins 85 = .ok (.iconst 0, 1) := by decide +kernel
theorem dX6_coins_86 : decode cX6_coins 86 = .ok (.ireturn, 1) := by decide +kernel
theorem dX6_sum_0 : decode cX6_sum 0 = .ok (.iconst 0, 1) := by decide +kernel
theorem dX6_sum_1 : decode cX6_sum 1 = .ok (.istore 5, 2) := by decide +kernel
theorem dX6_sum_3 : decode cX6_sum 3 = .ok (.iconst 0, 1) := by decide +kernel
theorem dX6_sum_4 : decode cX6_sum 4 = .ok (.istore 6, 2) := by decide +kernel
theorem dX6_sum_6 : decode cX6_sum 6 = .ok (.iload 6, 2) := by decide +kernel
theorem dX6_sum_8 : decode cX6_sum 8 = .ok (.aload_n 0, 1) := by decide +kernel
theorem dX6_sum_9 : decode cX6_sum 9 = .ok (.getfield 161, 3) := by decide +kernel
theorem dX6_sum_12 : decode cX6_sum 12 = .ok (.if_icmp .ge 78, 3) := by decide +kernel
theorem dX6_sum_15 : decode cX6_sum 15 = .ok (.aload_n 0, 1) := by decide +kernel
theorem dX6_sum_16 : decode cX6_sum 16 = .ok (.getfield 81, 3) := by decide +kernel
theorem dX6_sum_19 : decode cX6_sum 19 = .ok (.iload 6, 2) := by decide +kernel
theorem dX6_sum_21 : decode cX6_sum 21 = .ok (.iaload, 1) := by decide +kernel
theorem dX6_sum_22 : decode cX6_sum 22 = .ok (.iload_n 1, 1) := by decide +kernel
theorem dX6_sum_23 : decode cX6_sum 23 = .ok (.if_icmp .ne 61, 3) := by decide +kernel
theorem dX6_sum_26 : decode cX6_sum 26 = .ok (.iload_n 2, 1) := by decide +kernel
theorem dX6_sum_27 : decode cX6_sum 27 = .ok (.ifCond .lt 20, 3) := by decide +kernel
theorem dX6_sum_30 : decode cX6_sum 30 = .ok (.aload_n 0, 1) := by decide +kernel
theorem dX6_sum_31 : decode cX6_sum 31 = .ok (.getfield 69, 3) := by decide +kernel
theorem dX6_sum_34 : decode cX6_sum 34 = .ok (.iload 6, 2) := by decide +kernel
theorem dX6_sum_36 : decode cX6_sum 36 = .ok (.iaload, 1) := by decide +kernel
theorem dX6_sum_37 : decode cX6_sum 37 = .ok (.bipush 100, 2) := by decide +kernel
theorem dX6_sum_39 : decode cX6_sum 39 = .ok (.idiv, 1) := by decide +kernel
theorem dX6_sum_40 : decode cX6_sum 40 = .ok (.iload_n 2, 1) := by decide +kernel
theorem dX6_sum_41 : decode cX6_sum 41 = .ok (.if_icmp .eq 6, 3) := by decide +kernel
theorem dX6_sum_44 : decode cX6_sum 44 = .ok (.goto 40, 3) := by decide +kernel
theorem dX6_sum_47 : decode cX6_sum 47 = .ok (.iload 5, 2) := by decide +kernel
theorem dX6_sum_49 : decode cX6_sum 49 = .ok (.iload_n 3, 1) := by decide +kernel
theorem dX6_sum_50 : decode cX6_sum 50 = .ok (.ifCond .eq 13, 3) := by decide +kernel
theorem dX6_sum_53 : decode cX6_sum 53 = .ok (.aload_n 0, 1) := by decide +kernel
theorem dX6_sum_54 : decode cX6_sum 54 = .ok (.iload 6, 2) := by decide +kernel
theorem dX6_sum_56 : decode cX6_sum 56 = .ok (.iconst 0, 1) := by decide +kernel
theorem dX6_sum_57 : decode cX6_sum 57 = .ok (.invokevirtual 164, 3) := by decide +kernel
theorem dX6_sum_60 : decode cX6_sum 60 = .ok (.goto 4, 3) := by decide +kernel
theorem dX6_sum_63 : decode cX6_sum 63 = .ok (.iconst 0, 1) := by decide +kernel
theorem dX6_sum_64 : decode cX6_sum 64 = .ok (.iload 4, 2) := by decide +kernel
theorem dX6_sum_66 : decode cX6_sum 66 = .ok (.ifCond .eq 13, 3) := by decide +kernel
theorem dX6_sum_69 : decode cX6_sum 69 = .ok (.aload_n 0, 1) := by decide +kernel
theorem dX6_sum_70 : decode cX6_sum 70 = .ok (.iload 6, 2) := by decide +kernel
theorem dX6_sum_72 : decode cX6_sum 72 = .ok (.iconst 1, 1) := by decide +kernel
theorem dX6_sum_73 : decode cX6_sum 73 = .ok (.invokevirtual 164, 3) := by decide +kernel
theorem dX6_sum_76 : decode cX6_sum 76 = .ok (.goto 4, 3) := by decide +kernel
theorem dX6_sum_79 : decode cX6_sum 79 = .ok (.iconst 0, 1) := by decide +kernel
theorem dX6_sum_80 : decode cX6_sum 80 = .ok (.iadd, 1) := by decide +kernel
theorem dX6_sum_81 : decode cX6_sum 81 = .ok (.iadd, 1) := by decide +kernel
theorem dX6_sum_82 : decode cX6_sum 82 = .ok (.istore 5, 2) := by decide +kernel
theorem dX6_sum_84 : decode cX6_sum 84 = .ok (.iinc 6 1, 3) := by decide +kernel
theorem dX6_sum_87 : decode cX6_sum 87 = .ok (.goto (-81), 3) := by decide +kernel
theorem dX6_sum_90 : decode cX6_sum 90 = .ok (.iload 5, 2) := by decide +kernel
theorem dX6_sum_92 : decode cX6_sum 92 = .ok (.ireturn, 1) := by decide +kernel
theorem dX6_showings_0 : decode cX6_showings 0 = .ok (.iconst 0, 1) := by decide +kernel
theorem dX6_showings_1 : decode cX6_showings 1 = .ok (.istore_n 3, 1) := by decide +kernel
theorem dX6_showings_2 : decode cX6_showings 2 = .ok (.iconst 0, 1) := by decide +kernel
theorem dX6_showings_3 : decode cX6_showings 3 = .ok (.istore 4, 2) := by decide +kernel
theorem dX6_showings_5 : decode cX6_showings 5 = .ok (.iload 4, 2) := by decide +kernel
theorem dX6_showings_7 : decode cX6_showings 7 = .ok (.aload_n 0, 1) := by decide +kernel
theorem dX6_showings_8 : decode cX6_showings 8 = .ok (.getfield 161, 3) := by decide +kernel
theorem dX6_showings_11 : decode cX6_showings 11 = .ok (.if_icmp .ge 50, 3) := by decide +kernel
theorem dX6_showings_14 : decode cX6_showings 14 = .ok (.iload_n 3, 1) := by decide +kernel
theorem dX6_showings_15 : decode cX6_showings 15 = .ok (.aload_n 0, 1) := by decide +kernel
theorem dX6_showings_16 : decode cX6_showings 16 = .ok (.getfield 81, 3) := by decide +kernel
theorem dX6_showings_19 : decode cX6_showings 19 = .ok (.iload 4, 2) := by decide +kernel
theorem dX6_showings_21 : decode cX6_showings 21 = .ok (.iaload, 1) := by decide +kernel
theorem dX6_showings_22 : decode cX6_showings 22 = .ok (.iload_n 1, 1) := by decide +kernel
theorem dX6_showings_23 : decode cX6_showings 23 = .ok (.if_icmp .ne 29, 3) := by decide +kernel
theorem dX6_showings_26 : decode cX6_showings 26 = .ok (.aload_n 0, 1) := by decide +kernel
theorem dX6_showings_27 : decode cX6_showings 27 = .ok (.getfield 87, 3) := by decide +kernel
theorem dX6_showings_30 : decode cX6_showings 30 = .ok (.iload 4, 2) := by decide +kernel
theorem dX6_showings_32 : decode cX6_showings 32 = .ok (.iaload, 1) := by decide +kernel
theorem dX6_showings_33 : decode cX6_showings 33 = .ok (.iconst 3, 1) := by decide +kernel
theorem dX6_showings_34 : decode cX6_showings 34 = .ok (.if_icmp .eq 18, 3) := by decide +kernel
theorem dX6_showings_37 : decode cX6_showings 37 = .ok (.aload_n 0, 1) := by decide +kernel
theorem dX6_showings_38 : decode cX6_showings 38 = .ok (.getfield 69, 3) := by decide +kernel
theorem dX6_showings_41 : decode cX6_showings 41 = .ok (.iload 4, 2) := by decide +kernel
theorem dX6_showings_43 : decode cX6_showings 43 = .ok (.iaload, 1) := by decide +kernel
theorem dX6_showings_44 : decode cX6_showings 44 = .ok (.iload_n 2, 1) := by decide +kernel
theorem dX6_showings_45 : decode cX6_showings 45 = .ok (.if_icmp .ge 7, 3) := by decide +kernel
theorem dX6_showings_48 : decode cX6_showings 48 = .ok (.iconst 1, 1) := by decide +kernel
theorem dX6_showings_49 : decode cX6_showings 49 = .ok (.goto 4, 3) := by decide +kernel
theorem dX6_showings_52 : decode cX6_showings 52 = .ok (.iconst 0, 1) := by decide +kernel
theorem dX6_showings_53 : decode cX6_showings 53 = .ok (.iadd, 1) := by decide +kernel
theorem dX6_showings_54 : decode cX6_showings 54 = .ok (.istore_n 3, 1) := by decide +kernel
theorem dX6_showings_55 : decode cX6_showings 55 = .ok (.iinc 4 1, 3) := by decide +kernel
theorem dX6_showings_58 : decode cX6_showings 58 = .ok (.goto (-53), 3) := by decide +kernel
theorem dX6_showings_61 : decode cX6_showings 61 = .ok (.iload_n 3, 1) := by decide +kernel
theorem dX6_showings_62 : decode cX6_showings 62 = .ok (.ireturn, 1) := by decide +kernel
theorem dX6_presses_0 : decode cX6_presses 0 = .ok (.iconst 0, 1) := by decide +kernel
theorem dX6_presses_1 : decode cX6_presses 1 = .ok (.istore_n 3, 1) := by decide +kernel
theorem dX6_presses_2 : decode cX6_presses 2 = .ok (.iconst 0, 1) := by decide +kernel
theorem dX6_presses_3 : decode cX6_presses 3 = .ok (.istore 4, 2) := by decide +kernel
theorem dX6_presses_5 : decode cX6_presses 5 = .ok (.iload 4, 2) := by decide +kernel
theorem dX6_presses_7 : decode cX6_presses 7 = .ok (.aload_n 0, 1) := by decide +kernel
theorem dX6_presses_8 : decode cX6_presses 8 = .ok (.getfield 161, 3) := by decide +kernel
theorem dX6_presses_11 : decode cX6_presses 11 = .ok (.if_icmp .ge 50, 3) := by decide +kernel
theorem dX6_presses_14 : decode cX6_presses 14 = .ok (.iload_n 3, 1) := by decide +kernel
theorem dX6_presses_15 : decode cX6_presses 15 = .ok (.aload_n 0, 1) := by decide +kernel
theorem dX6_presses_16 : decode cX6_presses 16 = .ok (.getfield 81, 3) := by decide +kernel
theorem dX6_presses_19 : decode cX6_presses 19 = .ok (.iload 4, 2) := by decide +kernel
theorem dX6_presses_21 : decode cX6_presses 21 = .ok (.iaload, 1) := by decide +kernel
theorem dX6_presses_22 : decode cX6_presses 22 = .ok (.iload_n 1, 1) := by decide +kernel
theorem dX6_presses_23 : decode cX6_presses 23 = .ok (.if_icmp .ne 29, 3) := by decide +kernel
theorem dX6_presses_26 : decode cX6_presses 26 = .ok (.aload_n 0, 1) := by decide +kernel
theorem dX6_presses_27 : decode cX6_presses 27 = .ok (.getfield 87, 3) := by decide +kernel
theorem dX6_presses_30 : decode cX6_presses 30 = .ok (.iload 4, 2) := by decide +kernel
theorem dX6_presses_32 : decode cX6_presses 32 = .ok (.iaload, 1) := by decide +kernel
theorem dX6_presses_33 : decode cX6_presses 33 = .ok (.iconst 2, 1) := by decide +kernel
theorem dX6_presses_34 : decode cX6_presses 34 = .ok (.if_icmp .ne 18, 3) := by decide +kernel
theorem dX6_presses_37 : decode cX6_presses 37 = .ok (.aload_n 0, 1) := by decide +kernel
theorem dX6_presses_38 : decode cX6_presses 38 = .ok (.getfield 93, 3) := by decide +kernel
theorem dX6_presses_41 : decode cX6_presses 41 = .ok (.iload 4, 2) := by decide +kernel
theorem dX6_presses_43 : decode cX6_presses 43 = .ok (.iaload, 1) := by decide +kernel
theorem dX6_presses_44 : decode cX6_presses 44 = .ok (.iload_n 2, 1) := by decide +kernel
theorem dX6_presses_45 : decode cX6_presses 45 = .ok (.if_icmp .ge 7, 3) := by decide +kernel
theorem dX6_presses_48 : decode cX6_presses 48 = .ok (.iconst 1, 1) := by decide +kernel
theorem dX6_presses_49 : decode cX6_presses 49 = .ok (.goto 4, 3) := by decide +kernel
theorem dX6_presses_52 : decode cX6_presses 52 = .ok (.iconst 0, 1) := by decide +kernel
theorem dX6_presses_53 : decode cX6_presses 53 = .ok (.iadd, 1) := by decide +kernel
theorem dX6_presses_54 : decode cX6_presses 54 = .ok (.istore_n 3, 1) := by decide +kernel
theorem dX6_presses_55 : decode cX6_presses 55 = .ok (.iinc 4 1, 3) := by decide +kernel
theorem dX6_presses_58 : decode cX6_presses 58 = .ok (.goto (-53), 3) := by decide +kernel
theorem dX6_presses_61 : decode cX6_presses 61 = .ok (.iload_n 3, 1) := by decide +kernel
theorem dX6_presses_62 : decode cX6_presses 62 = .ok (.ireturn, 1) := by decide +kernel
theorem dX6_leftOfDay_0 : decode cX6_leftOfDay 0 = .ok (.aload_n 0, 1) := by decide +kernel
theorem dX6_leftOfDay_1 : decode cX6_leftOfDay 1 = .ok (.getfield 38, 3) := by decide +kernel
theorem dX6_leftOfDay_4 : decode cX6_leftOfDay 4 = .ok (.iload_n 1, 1) := by decide +kernel
theorem dX6_leftOfDay_5 : decode cX6_leftOfDay 5 = .ok (.iaload, 1) := by decide +kernel
theorem dX6_leftOfDay_6 : decode cX6_leftOfDay 6 = .ok (.aload_n 0, 1) := by decide +kernel
theorem dX6_leftOfDay_7 : decode cX6_leftOfDay 7 = .ok (.iload_n 1, 1) := by decide +kernel
theorem dX6_leftOfDay_8 : decode cX6_leftOfDay 8 = .ok (.aload_n 0, 1) := by decide +kernel
theorem dX6_leftOfDay_9 : decode cX6_leftOfDay 9 = .ok (.getfield 152, 3) := by decide +kernel
theorem dX6_leftOfDay_12 : decode cX6_leftOfDay 12 = .ok (.bipush 100, 2) := by decide +kernel
theorem dX6_leftOfDay_14 : decode cX6_leftOfDay 14 = .ok (.idiv, 1) := by decide +kernel
theorem dX6_leftOfDay_15 : decode cX6_leftOfDay 15 = .ok (.iconst 1, 1) := by decide +kernel
theorem dX6_leftOfDay_16 : decode cX6_leftOfDay 16 = .ok (.iconst 1, 1) := by decide +kernel
theorem dX6_leftOfDay_17 : decode cX6_leftOfDay 17 = .ok (.invokevirtual 168, 3) := by decide +kernel
theorem dX6_leftOfDay_20 : decode cX6_leftOfDay 20 = .ok (.isub, 1) := by decide +kernel
theorem dX6_leftOfDay_21 : decode cX6_leftOfDay 21 = .ok (.ireturn, 1) := by decide +kernel
theorem dX6_leftInAll_0 : decode cX6_leftInAll 0 = .ok (.aload_n 0, 1) := by decide +kernel
theorem dX6_leftInAll_1 : decode cX6_leftInAll 1 = .ok (.getfield 41, 3) := by decide +kernel
theorem dX6_leftInAll_4 : decode cX6_leftInAll 4 = .ok (.iload_n 1, 1) := by decide +kernel
theorem dX6_leftInAll_5 : decode cX6_leftInAll 5 = .ok (.iaload, 1) := by decide +kernel
theorem dX6_leftInAll_6 : decode cX6_leftInAll 6 = .ok (.aload_n 0, 1) := by decide +kernel
theorem dX6_leftInAll_7 : decode cX6_leftInAll 7 = .ok (.iload_n 1, 1) := by decide +kernel
theorem dX6_leftInAll_8 : decode cX6_leftInAll 8 = .ok (.iconst (-1), 1) := by decide +kernel
theorem dX6_leftInAll_9 : decode cX6_leftInAll 9 = .ok (.iconst 1, 1) := by decide +kernel
theorem dX6_leftInAll_10 : decode cX6_leftInAll 10 = .ok (.iconst 1, 1) := by decide +kernel
theorem dX6_leftInAll_11 : decode cX6_leftInAll 11 = .ok (.invokevirtual 168, 3) := by decide +kernel
theorem dX6_leftInAll_14 : decode cX6_leftInAll 14 = .ok (.isub, 1) := by decide +kernel
theorem dX6_leftInAll_15 : decode cX6_leftInAll 15 = .ok (.ireturn, 1) := by decide +kernel
theorem dX6_drawOf_0 : decode cX6_drawOf 0 = .ok (.aload_n 0, 1) := by decide +kernel
theorem dX6_drawOf_1 : decode cX6_drawOf 1 = .ok (.getfield 152, 3) := by decide +kernel
theorem dX6_drawOf_4 : decode cX6_drawOf 4 = .ok (.ldc 176, 2) := by decide +kernel
theorem dX6_drawOf_6 : decode cX6_drawOf 6 = .ok (.imul, 1) := by decide +kernel
theorem dX6_drawOf_7 : decode cX6_drawOf 7 = .ok (.iload_n 2, 1) := by decide +kernel
theorem dX6_drawOf_8 : decode cX6_drawOf 8 = .ok (.sipush 9973, 3) := by decide +kernel
theorem dX6_drawOf_11 : decode cX6_drawOf 11 = .ok (.imul, 1) := by decide +kernel
theorem dX6_drawOf_12 : decode cX6_drawOf 12 = .ok (.iadd, 1) := by decide +kernel
theorem dX6_drawOf_13 : decode cX6_drawOf 13 = .ok (.iload_n 1, 1) := by decide +kernel
theorem dX6_drawOf_14 : decode cX6_drawOf 14 = .ok (.sipush 7919, 3) := by decide +kernel
theorem dX6_drawOf_17 : decode cX6_drawOf 17 = .ok (.imul, 1) := by decide +kernel
theorem dX6_drawOf_18 : decode cX6_drawOf 18 = .ok (.iadd, 1) := by decide +kernel
theorem dX6_drawOf_19 : decode cX6_drawOf 19 = .ok (.istore_n 3, 1) := by decide +kernel
theorem dX6_drawOf_20 : decode cX6_drawOf 20 = .ok (.iload_n 3, 1) := by decide +kernel
theorem dX6_drawOf_21 : decode cX6_drawOf 21 = .ok (.iload_n 3, 1) := by decide +kernel
theorem dX6_drawOf_22 : decode cX6_drawOf 22 = .ok (.bipush 7, 2) := by decide +kernel
theorem dX6_drawOf_24 : decode cX6_drawOf 24 = .ok (.iushr, 1) := by decide +kernel
theorem dX6_drawOf_25 : decode cX6_drawOf 25 = .ok (.ixor, 1) := by decide +kernel
theorem dX6_drawOf_26 : decode cX6_drawOf 26 = .ok (.ldc 177, 2) := by decide +kernel
theorem dX6_drawOf_28 : decode cX6_drawOf 28 = .ok (.imul, 1) := by decide +kernel
theorem dX6_drawOf_29 : decode cX6_drawOf 29 = .ok (.istore_n 3, 1) := by decide +kernel
theorem dX6_drawOf_30 : decode cX6_drawOf 30 = .ok (.iload_n 3, 1) := by decide +kernel
theorem dX6_drawOf_31 : decode cX6_drawOf 31 = .ok (.bipush 16, 2) := by decide +kernel
theorem dX6_drawOf_33 : decode cX6_drawOf 33 = .ok (.iushr, 1) := by decide +kernel
theorem dX6_drawOf_34 : decode cX6_drawOf 34 = .ok (.sipush 1000, 3) := by decide +kernel
theorem dX6_drawOf_37 : decode cX6_drawOf 37 = .ok (.irem, 1) := by decide +kernel
theorem dX6_drawOf_38 : decode cX6_drawOf 38 = .ok (.ireturn, 1) := by decide +kernel
theorem dX6_isBehind_0 : decode cX6_isBehind 0 = .ok (.aload_n 0, 1) := by decide +kernel
theorem dX6_isBehind_1 : decode cX6_isBehind 1 = .ok (.getfield 23, 3) := by decide +kernel
theorem dX6_isBehind_4 : decode cX6_isBehind 4 = .ok (.iload_n 1, 1) := by decide +kernel
theorem dX6_isBehind_5 : decode cX6_isBehind 5 = .ok (.iaload, 1) := by decide +kernel
theorem dX6_isBehind_6 : decode cX6_isBehind 6 = .ok (.iconst 1, 1) := by decide +kernel
theorem dX6_isBehind_7 : decode cX6_isBehind 7 = .ok (.if_icmp .ne 12, 3) := by decide +kernel
theorem dX6_isBehind_10 : decode cX6_isBehind 10 = .ok (.aload_n 0, 1) := by decide +kernel
theorem dX6_isBehind_11 : decode cX6_isBehind 11 = .ok (.getfield 60, 3) := by decide +kernel
theorem dX6_isBehind_14 : decode cX6_isBehind 14 = .ok (.iload_n 1, 1) := by decide +kernel
theorem dX6_isBehind_15 : decode cX6_isBehind 15 = .ok (.iaload, 1) := by decide +kernel
theorem dX6_isBehind_16 : decode cX6_isBehind 16 = .ok (.ifCond .ne 5, 3) := by decide +kernel
theorem dX6_isBehind_19 : decode cX6_isBehind 19 = .ok (.iconst 0, 1) := by decide +kernel
theorem dX6_isBehind_20 : decode cX6_isBehind 20 = .ok (.ireturn, 1) := by decide +kernel
theorem dX6_isBehind_21 : decode cX6_isBehind 21 = .ok (.aload_n 0, 1) := by decide +kernel
theorem dX6_isBehind_22 : decode cX6_isBehind 22 = .ok (.iload_n 1, 1) := by decide +kernel
theorem dX6_isBehind_23 : decode cX6_isBehind 23 = .ok (.sipush 10001, 3) := by decide +kernel
theorem dX6_isBehind_26 : decode cX6_isBehind 26 = .ok (.invokevirtual 172, 3) := by decide +kernel
theorem dX6_isBehind_29 : decode cX6_isBehind 29 = .ok (.istore_n 2, 1) := by decide +kernel
theorem dX6_isBehind_30 : decode cX6_isBehind 30 = .ok (.bipush 100, 2) := by decide +kernel
theorem dX6_isBehind_32 : decode cX6_isBehind 32 = .ok (.aload_n 0, 1) := by decide +kernel
theorem dX6_isBehind_33 : decode cX6_isBehind 33 = .ok (.getfield 63, 3) := by decide +kernel
theorem dX6_isBehind_36 : decode cX6_isBehind 36 = .ok (.iload_n 1, 1) := by decide +kernel
theorem dX6_isBehind_37 : decode cX6_isBehind 37 = .ok (.iaload, 1) := by decide +kernel
theorem dX6_isBehind_38 : decode cX6_isBehind 38 = .ok (.imul, 1) := by decide +kernel
theorem dX6_isBehind_39 : decode cX6_isBehind 39 = .ok (.bipush 100, 2) := by decide +kernel
theorem dX6_isBehind_41 : decode cX6_isBehind 41 = .ok (.iadd, 1) := by decide +kernel
theorem dX6_isBehind_42 : decode cX6_isBehind 42 = .ok (.istore_n 3, 1) := by decide +kernel
theorem dX6_isBehind_43 : decode cX6_isBehind 43 = .ok (.aload_n 0, 1) := by decide +kernel
theorem dX6_isBehind_44 : decode cX6_isBehind 44 = .ok (.getfield 152, 3) := by decide +kernel
theorem dX6_isBehind_47 : decode cX6_isBehind 47 = .ok (.iload_n 3, 1) := by decide +kernel
theorem dX6_isBehind_48 : decode cX6_isBehind 48 = .ok (.if_icmp .lt 19, 3) := by decide +kernel
theorem dX6_isBehind_51 : decode cX6_isBehind 51 = .ok (.iload_n 2, 1) := by decide +kernel
theorem dX6_isBehind_52 : decode cX6_isBehind 52 = .ok (.aload_n 0, 1) := by decide +kernel
theorem dX6_isBehind_53 : decode cX6_isBehind 53 = .ok (.getfield 60, 3) := by decide +kernel
theorem dX6_isBehind_56 : decode cX6_isBehind 56 = .ok (.iload_n 1, 1) := by decide +kernel
theorem dX6_isBehind_57 : decode cX6_isBehind 57 = .ok (.iaload, 1) := by decide +kernel
theorem dX6_isBehind_58 : decode cX6_isBehind 58 = .ok (.if_icmp .ge 7, 3) := by decide +kernel
theorem dX6_isBehind_61 : decode cX6_isBehind 61 = .ok (.iconst 1, 1) := by decide +kernel
theorem dX6_isBehind_62 : decode cX6_isBehind 62 = .ok (.goto 4, 3) := by decide +kernel
theorem dX6_isBehind_65 : decode cX6_isBehind 65 = .ok (.iconst 0, 1) := by decide +kernel
theorem dX6_isBehind_66 : decode cX6_isBehind 66 = .ok (.ireturn, 1) := by decide +kernel
theorem dX6_isBehind_67 : decode cX6_isBehind 67 = .ok (.iload_n 2, 1) := by decide +kernel
theorem dX6_isBehind_68 : decode cX6_isBehind 68 = .ok (.aload_n 0, 1) := by decide +kernel
theorem dX6_isBehind_69 : decode cX6_isBehind 69 = .ok (.getfield 60, 3) := by decide +kernel
theorem dX6_isBehind_72 : decode cX6_isBehind 72 = .ok (.iload_n 1, 1) := by decide +kernel
theorem dX6_isBehind_73 : decode cX6_isBehind 73 = .ok (.iaload, 1) := by decide +kernel
theorem dX6_isBehind_74 : decode cX6_isBehind 74 = .ok (.aload_n 0, 1) := by decide +kernel
theorem dX6_isBehind_75 : decode cX6_isBehind 75 = .ok (.getfield 152, 3) := by decide +kernel
theorem dX6_isBehind_78 : decode cX6_isBehind 78 = .ok (.aload_n 0, 1) := by decide +kernel
theorem dX6_isBehind_79 : decode cX6_isBehind 79 = .ok (.getfield 66, 3) := by decide +kernel
theorem dX6_isBehind_82 : decode cX6_isBehind 82 = .ok (.iload_n 1, 1) := by decide +kernel
theorem dX6_isBehind_83 : decode cX6_isBehind 83 = .ok (.iaload, 1) := by decide +kernel
theorem dX6_isBehind_84 : decode cX6_isBehind 84 = .ok (.isub, 1) := by decide +kernel
theorem dX6_isBehind_85 : decode cX6_isBehind 85 = .ok (.imul, 1) := by decide +kernel
theorem dX6_isBehind_86 : decode cX6_isBehind 86 = .ok (.iload_n 3, 1) := by decide +kernel
theorem dX6_isBehind_87 : decode cX6_isBehind 87 = .ok (.aload_n 0, 1) := by decide +kernel
theorem dX6_isBehind_88 : decode cX6_isBehind 88 = .ok (.getfield 66, 3) := by decide +kernel
theorem dX6_isBehind_91 : decode cX6_isBehind 91 = .ok (.iload_n 1, 1) := by decide +kernel
theorem dX6_isBehind_92 : decode cX6_isBehind 92 = .ok (.iaload, 1) := by decide +kernel
theorem dX6_isBehind_93 : decode cX6_isBehind 93 = .ok (.isub, 1) := by decide +kernel
theorem dX6_isBehind_94 : decode cX6_isBehind 94 = .ok (.idiv, 1) := by decide +kernel
theorem dX6_isBehind_95 : decode cX6_isBehind 95 = .ok (.if_icmp .ge 7, 3) := by decide +kernel
theorem dX6_isBehind_98 : decode cX6_isBehind 98 = .ok (.iconst 1, 1) := by decide +kernel
theorem dX6_isBehind_99 : decode cX6_isBehind 99 = .ok (.goto 4, 3) := by decide +kernel
theorem dX6_isBehind_102 : decode cX6_isBehind 102 = .ok (.iconst 0, 1) := by decide +kernel
theorem dX6_isBehind_103 : decode cX6_isBehind 103 = .ok (.ireturn, 1) := by decide +kernel
theorem dX6_hinders_0 : decode cX6_hinders 0 = .ok (.aload_n 0, 1) := by decide +kernel
theorem dX6_hinders_1 : decode cX6_hinders 1 = .ok (.getfield 53, 3) := by decide +kernel
theorem dX6_hinders_4 : decode cX6_hinders 4 = .ok (.iload_n 1, 1) := by decide +kernel
theorem dX6_hinders_5 : decode cX6_hinders 5 = .ok (.baload, 1) := by decide +kernel
theorem dX6_hinders_6 : decode cX6_hinders 6 = .ok (.ifCond .eq 5, 3) := by decide +kernel
theorem dX6_hinders_9 : decode cX6_hinders 9 = .ok (.iconst 1, 1) := by decide +kernel
theorem dX6_hinders_10 : decode cX6_hinders 10 = .ok (.ireturn, 1) := by decide +kernel
theorem dX6_hinders_11 : decode cX6_hinders 11 = .ok (.aload_n 0, 1) := by decide +kernel
theorem dX6_hinders_12 : decode cX6_hinders 12 = .ok (.getfield 20, 3) := by decide +kernel
theorem dX6_hinders_15 : decode cX6_hinders 15 = .ok (.iload_n 2, 1) := by decide +kernel
theorem dX6_hinders_16 : decode cX6_hinders 16 = .ok (.iaload, 1) := by decide +kernel
theorem dX6_hinders_17 : decode cX6_hinders 17 = .ok (.aload_n 0, 1) := by decide +kernel
theorem dX6_hinders_18 : decode cX6_hinders 18 = .ok (.getfield 29, 3) := by decide +kernel
theorem dX6_hinders_21 : decode cX6_hinders 21 = .ok (.iload_n 1, 1) := by decide +kernel
theorem dX6_hinders_22 : decode cX6_hinders 22 = .ok (.iaload, 1) := by decide +kernel
theorem dX6_hinders_23 : decode cX6_hinders 23 = .ok (.iand, 1) := by decide +kernel
theorem dX6_hinders_24 : decode cX6_hinders 24 = .ok (.aload_n 0, 1) := by decide +kernel
theorem dX6_hinders_25 : decode cX6_hinders 25 = .ok (.getfield 29, 3) := by decide +kernel
theorem dX6_hinders_28 : decode cX6_hinders 28 = .ok (.iload_n 1, 1) := by decide +kernel
theorem dX6_hinders_29 : decode cX6_hinders 29 = .ok (.iaload, 1) := by decide +kernel
theorem dX6_hinders_30 : decode cX6_hinders 30 = .ok (.if_icmp .ne 19, 3) := by decide +kernel
theorem dX6_hinders_33 : decode cX6_hinders 33 = .ok (.aload_n 0, 1) := by decide +kernel
theorem dX6_hinders_34 : decode cX6_hinders 34 = .ok (.getfield 20, 3) := by decide +kernel
theorem dX6_hinders_37 : decode cX6_hinders 37 = .ok (.iload_n 2, 1) := by decide +kernel
theorem dX6_hinders_38 : decode cX6_hinders 38 = .ok (.iaload, 1) := by decide +kernel
theorem dX6_hinders_39 : decode cX6_hinders 39 = .ok (.aload_n 0, 1) := by decide +kernel
theorem dX6_hinders_40 : decode cX6_hinders 40 = .ok (.getfield 32, 3) := by decide +kernel
theorem dX6_hinders_43 : decode cX6_hinders 43 = .ok (.iload_n 1, 1) := by decide +kernel
theorem dX6_hinders_44 : decode cX6_hinders 44 = .ok (.iaload, 1) := by decide +kernel
theorem dX6_hinders_45 : decode cX6_hinders 45 = .ok (.iand, 1) := by decide +kernel
theorem dX6_hinders_46 : decode cX6_hinders 46 = .ok (.ifCond .eq 5, 3) := by decide +kernel
theorem dX6_hinders_49 : decode cX6_hinders 49 = .ok (.iconst 2, 1) := by decide +kernel
theorem dX6_hinders_50 : decode cX6_hinders 50 = .ok (.ireturn, 1) := by decide +kernel
theorem dX6_hinders_51 : decode cX6_hinders 51 = .ok (.iconst 0, 1) := by decide +kernel
theorem dX6_hinders_52 : decode cX6_hinders 52 = .ok (.istore 4, 2) := by decide +kernel
theorem dX6_hinders_54 : decode cX6_hinders 54 = .ok (.iconst 0, 1) := by decide +kernel
theorem dX6_hinders_55 : decode cX6_hinders 55 = .ok (.istore 5, 2) := by decide +kernel
theorem dX6_hinders_57 : decode cX6_hinders 57 = .ok (.iconst 0, 1) := by decide +kernel
theorem dX6_hinders_58 : decode cX6_hinders 58 = .ok (.istore 6, 2) := by decide +kernel
theorem dX6_hinders_60 : decode cX6_hinders 60 = .ok (.iconst 0, 1) := by decide +kernel
theorem dX6_hinders_61 : decode cX6_hinders 61 = .ok (.istore 7, 2) := by decide +kernel
theorem dX6_hinders_63 : decode cX6_hinders 63 = .ok (.iload 7, 2) := by decide +kernel
theorem dX6_hinders_65 : decode cX6_hinders 65 = .ok (.aload_n 0, 1) := by decide +kernel
theorem dX6_hinders_66 : decode cX6_hinders 66 = .ok (.getfield 161, 3) := by decide +kernel
theorem dX6_hinders_69 : decode cX6_hinders 69 = .ok (.if_icmp .ge 159, 3) := by decide +kernel
theorem dX6_hinders_72 : decode cX6_hinders 72 = .ok (.aload_n 0, 1) := by decide +kernel
theorem dX6_hinders_73 : decode cX6_hinders 73 = .ok (.getfield 87, 3) := by decide +kernel
theorem dX6_hinders_76 : decode cX6_hinders 76 = .ok (.iload 7, 2) := by decide +kernel
theorem dX6_hinders_78 : decode cX6_hinders 78 = .ok (.iaload, 1) := by decide +kernel
theorem dX6_hinders_79 : decode cX6_hinders 79 = .ok (.iconst 3, 1) := by decide +kernel
theorem dX6_hinders_80 : decode cX6_hinders 80 = .ok (.if_icmp .ne 6, 3) := by decide +kernel
theorem dX6_hinders_83 : decode cX6_hinders 83 = .ok (.goto 139, 3) := by decide +kernel
theorem dX6_hinders_86 : decode cX6_hinders 86 = .ok (.iload 4, 2) := by decide +kernel
theorem dX6_hinders_88 : decode cX6_hinders 88 = .ok (.aload_n 0, 1) := by decide +kernel
theorem dX6_hinders_89 : decode cX6_hinders 89 = .ok (.getfield 81, 3) := by decide +kernel
theorem dX6_hinders_92 : decode cX6_hinders 92 = .ok (.iload 7, 2) := by decide +kernel
theorem dX6_hinders_94 : decode cX6_hinders 94 = .ok (.iaload, 1) := by decide +kernel
theorem dX6_hinders_95 : decode cX6_hinders 95 = .ok (.iload_n 1, 1) := by decide +kernel
theorem dX6_hinders_96 : decode cX6_hinders 96 = .ok (.if_icmp .ne 39, 3) := by decide +kernel
theorem dX6_hinders_99 : decode cX6_hinders 99 = .ok (.aload_n 0, 1) := by decide +kernel
theorem dX6_hinders_100 : decode cX6_hinders 100 = .ok (.getfield 72, 3) := by decide +kernel
theorem dX6_hinders_103 : decode cX6_hinders 103 = .ok (.iload 7, 2) := by decide +kernel
theorem dX6_hinders_105 : decode cX6_hinders 105 = .ok (.iaload, 1) := by decide +kernel
theorem dX6_hinders_106 : decode cX6_hinders 106 = .ok (.iload_n 2, 1) := by decide +kernel
theorem dX6_hinders_107 : decode cX6_hinders 107 = .ok (.if_icmp .ne 28, 3) := by decide +kernel
theorem dX6_hinders_110 : decode cX6_hinders 110 = .ok (.aload_n 0, 1) := by decide +kernel
theorem dX6_hinders_111 : decode cX6_hinders 111 = .ok (.getfield 69, 3) := by decide +kernel
theorem dX6_hinders_114 : decode cX6_hinders 114 = .ok (.iload 7, 2) := by decide +kernel
theorem dX6_hinders_116 : decode cX6_hinders 116 = .ok (.iaload, 1) := by decide +kernel
theorem dX6_hinders_117 : decode cX6_hinders 117 = .ok (.aload_n 0, 1) := by decide +kernel
theorem dX6_hinders_118 : decode cX6_hinders 118 = .ok (.getfield 152, 3) := by decide +kernel
theorem dX6_hinders_121 : decode cX6_hinders 121 = .ok (.aload_n 0, 1) := by decide +kernel
theorem dX6_hinders_122 : decode cX6_hinders 122 = .ok (.getfield 47, 3) := by decide +kernel
theorem dX6_hinders_125 : decode cX6_hinders 125 = .ok (.iload_n 1, 1) := by decide +kernel
theorem dX6_hinders_126 : decode cX6_hinders 126 = .ok (.iaload, 1) := by decide +kernel
theorem dX6_hinders_127 : decode cX6_hinders 127 = .ok (.isub, 1) := by decide +kernel
theorem dX6_hinders_128 : decode cX6_hinders 128 = .ok (.if_icmp .le 7, 3) := by decide +kernel
theorem dX6_hinders_131 : decode cX6_hinders 131 = .ok (.iconst 1, 1) := by decide +kernel
theorem dX6_hinders_132 : decode cX6_hinders 132 = .ok (.goto 4, 3) := by decide +kernel
theorem dX6_hinders_135 : decode cX6_hinders 135 = .ok (.iconst 0, 1) := by decide +kernel
theorem dX6_hinders_136 : decode cX6_hinders 136 = .ok (.iadd, 1) := by decide +kernel
theorem dX6_hinders_137 : decode cX6_hinders 137 = .ok (.istore 4, 2) := by decide +kernel
theorem dX6_hinders_139 : decode cX6_hinders 139 = .ok (.aload_n 0, 1) := by decide +kernel
theorem dX6_hinders_140 : decode cX6_hinders 140 = .ok (.getfield 69, 3) := by decide +kernel
theorem dX6_hinders_143 : decode cX6_hinders 143 = .ok (.iload 7, 2) := by decide +kernel
theorem dX6_hinders_145 : decode cX6_hinders 145 = .ok (.iaload, 1) := by decide +kernel
theorem dX6_hinders_146 : decode cX6_hinders 146 = .ok (.aload_n 0, 1) := by decide +kernel
theorem dX6_hinders_147 : decode cX6_hinders 147 = .ok (.getfield 152, 3) := by decide +kernel
theorem dX6_hinders_150 : decode cX6_hinders 150 = .ok (.if_icmp .ne 72, 3) := by decide +kernel
theorem dX6_hinders_153 : decode cX6_hinders 153 = .ok (.aload_n 0, 1) := by decide +kernel
theorem dX6_hinders_154 : decode cX6_hinders 154 = .ok (.getfield 75, 3) := by decide +kernel
theorem dX6_hinders_157 : decode cX6_hinders 157 = .ok (.iload 7, 2) := by decide +kernel
theorem dX6_hinders_159 : decode cX6_hinders 159 = .ok (.iaload, 1) := by decide +kernel
theorem dX6_hinders_160 : decode cX6_hinders 160 = .ok (.iload_n 3, 1) := by decide +kernel
theorem dX6_hinders_161 : decode cX6_hinders 161 = .ok (.if_icmp .eq 6, 3) := by decide +kernel
theorem dX6_hinders_164 : decode cX6_hinders 164 = .ok (.goto 58, 3) := by decide +kernel
theorem dX6_hinders_167 : decode cX6_hinders 167 = .ok (.iload 5, 2) := by decide +kernel
theorem dX6_hinders_169 : decode cX6_hinders 169 = .ok (.ifCond .ne 23, 3) := by decide +kernel
theorem dX6_hinders_172 : decode cX6_hinders 172 = .ok (.aload_n 0, 1) := by decide +kernel
theorem dX6_hinders_173 : decode cX6_hinders 173 = .ok (.getfield 57, 3) := by decide +kernel
theorem dX6_hinders_176 : decode cX6_hinders 176 = .ok (.bipush 40, 2) := by decide +kernel
theorem dX6_hinders_178 : decode cX6_hinders 178 = .ok (.iload_n 1, 1) := by decide +kernel
theorem dX6_hinders_179 : decode cX6_hinders 179 = .ok (.imul, 1) := by decide +kernel
theorem dX6_hinders_180 : decode cX6_hinders 180 = .ok (.aload_n 0, 1) := by decide +kernel
theorem dX6_hinders_181 : decode cX6_hinders 181 = .ok (.getfield 81, 3) := by decide +kernel
theorem dX6_hinders_184 : decode cX6_hinders 184 = .ok (.iload 7, 2) := by decide +kernel
theorem dX6_hinders_186 : decode cX6_hinders 186 = .ok (.iaload, 1) := by decide +kernel
theorem dX6_hinders_187 : decode cX6_hinders 187 = .ok (.iadd, 1) := by decide +kernel
theorem dX6_hinders_188 : decode cX6_hinders 188 = .ok (.baload, 1) := by decide +kernel
theorem dX6_hinders_189 : decode cX6_hinders 189 = .ok (.ifCond .eq 7, 3) := by decide +kernel
theorem dX6_hinders_192 : decode cX6_hinders 192 = .ok (.iconst 1, 1) := by decide +kernel
theorem dX6_hinders_193 : decode cX6_hinders 193 = .ok (.goto 4, 3) := by decide +kernel
theorem dX6_hinders_196 : decode cX6_hinders 196 = .ok (.iconst 0, 1) := by decide +kernel
theorem dX6_hinders_197 : decode cX6_hinders 197 = .ok (.istore 5, 2) := by decide +kernel
theorem dX6_hinders_199 : decode cX6_hinders 199 = .ok (.iload 6, 2) := by decide +kernel
theorem dX6_hinders_201 : decode cX6_hinders 201 = .ok (.ifCond .ne 14, 3) := by decide +kernel
theorem dX6_hinders_204 : decode cX6_hinders 204 = .ok (.aload_n 0, 1) := by decide +kernel
theorem dX6_hinders_205 : decode cX6_hinders 205 = .ok (.getfield 81, 3) := by decide +kernel
theorem dX6_hinders_208 : decode cX6_hinders 208 = .ok (.iload 7, 2) := by decide +kernel
theorem dX6_hinders_210 : decode cX6_hinders 210 = .ok (.iaload, 1) := by decide +kernel
theorem dX6_hinders_211 : decode cX6_hinders 211 = .ok (.iload_n 1, 1) := by decide +kernel
theorem dX6_hinders_212 : decode cX6_hinders 212 = .ok (.if_icmp .ne 7, 3) := by decide +kernel
theorem dX6_hinders_215 : decode cX6_hinders 215 = .ok (.iconst 1, 1) := by decide +kernel
theorem dX6_hinders_216 : decode cX6_hinders 216 = .ok (.goto 4, 3) := by decide +kernel
theorem dX6_hinders_219 : decode cX6_hinders 219 = .ok (.iconst 0, 1) := by decide +kernel
theorem dX6_hinders_220 : decode cX6_hinders 220 = .ok (.istore 6, 2) := by decide +kernel
theorem dX6_hinders_222 : decode cX6_hinders 222 = .ok (.iinc 7 1, 3) := by decide +kernel
theorem dX6_hinders_225 : decode cX6_hinders 225 = .ok (.goto (-162), 3) := by decide +kernel
theorem dX6_hinders_228 : decode cX6_hinders 228 = .ok (.iload 4, 2) := by decide +kernel
theorem dX6_hinders_230 : decode cX6_hinders 230 = .ok (.aload_n 0, 1) := by decide +kernel
theorem dX6_hinders_231 : decode cX6_hinders 231 = .ok (.getfield 44, 3) := by decide +kernel
theorem dX6_hinders_234 : decode cX6_hinders 234 = .ok (.iload_n 1, 1) := by decide +kernel
theorem dX6_hinders_235 : decode cX6_hinders 235 = .ok (.iaload, 1) := by decide +kernel
theorem dX6_hinders_236 : decode cX6_hinders 236 = .ok (.if_icmp .lt 5, 3) := by decide +kernel
theorem dX6_hinders_239 : decode cX6_hinders 239 = .ok (.iconst 3, 1) := by decide +kernel
theorem dX6_hinders_240 : decode cX6_hinders 240 = .ok (.ireturn, 1) := by decide +kernel
theorem dX6_hinders_241 : decode cX6_hinders 241 = .ok (.aload_n 0, 1) := by decide +kernel
theorem dX6_hinders_242 : decode cX6_hinders 242 = .ok (.getfield 23, 3) := by decide +kernel
theorem dX6_hinders_245 : decode cX6_hinders 245 = .ok (.iload_n 1, 1) := by decide +kernel
theorem dX6_hinders_246 : decode cX6_hinders 246 = .ok (.iaload, 1) := by decide +kernel
theorem dX6_hinders_247 : decode cX6_hinders 247 = .ok (.ifCond .ne 33, 3) := by decide +kernel
theorem dX6_hinders_250 : decode cX6_hinders 250 = .ok (.aload_n 0, 1) := by decide +kernel
theorem dX6_hinders_251 : decode cX6_hinders 251 = .ok (.iload_n 1, 1) := by decide +kernel
theorem dX6_hinders_252 : decode cX6_hinders 252 = .ok (.invokevirtual 178, 3) := by decide +kernel
theorem dX6_hinders_255 : decode cX6_hinders 255 = .ok (.aload_n 0, 1) := by decide +kernel
theorem dX6_hinders_256 : decode cX6_hinders 256 = .ok (.getfield 35, 3) := by decide +kernel
theorem dX6_hinders_259 : decode cX6_hinders 259 = .ok (.iload_n 1, 1) := by decide +kernel
theorem dX6_hinders_260 : decode cX6_hinders 260 = .ok (.iaload, 1) := by decide +kernel
theorem dX6_hinders_261 : decode cX6_hinders 261 = .ok (.if_icmp .lt 17, 3) := by decide +kernel
theorem dX6_hinders_264 : decode cX6_hinders 264 = .ok (.aload_n 0, 1) := by decide +kernel
theorem dX6_hinders_265 : decode cX6_hinders 265 = .ok (.iload_n 1, 1) := by decide +kernel
theorem dX6_hinders_266 : decode cX6_hinders 266 = .ok (.invokevirtual 182, 3) := by decide +kernel
theorem dX6_hinders_269 : decode cX6_hinders 269 = .ok (.aload_n 0, 1) := by decide +kernel
theorem dX6_hinders_270 : decode cX6_hinders 270 = .ok (.getfield 35, 3) := by decide +kernel
theorem dX6_hinders_273 : decode cX6_hinders 273 = .ok (.iload_n 1, 1) := by decide +kernel
theorem dX6_hinders_274 : decode cX6_hinders 274 = .ok (.iaload, 1) := by decide +kernel
theorem dX6_hinders_275 : decode cX6_hinders 275 = .ok (.if_icmp .ge 5, 3) := by decide +kernel
theorem dX6_hinders_278 : decode cX6_hinders 278 = .ok (.iconst 4, 1) := by decide +kernel
theorem dX6_hinders_279 : decode cX6_hinders 279 = .ok (.ireturn, 1) := by decide +kernel
theorem dX6_hinders_280 : decode cX6_hinders 280 = .ok (.aload_n 0, 1) := by decide +kernel
theorem dX6_hinders_281 : decode cX6_hinders 281 = .ok (.iload_n 1, 1) := by decide +kernel
theorem dX6_hinders_282 : decode cX6_hinders 282 = .ok (.iload_n 2, 1) := by decide +kernel
theorem dX6_hinders_283 : decode cX6_hinders 283 = .ok (.invokevirtual 185, 3) := by decide +kernel
theorem dX6_hinders_286 : decode cX6_hinders 286 = .ok (.aload_n 0, 1) := by decide +kernel
theorem dX6_hinders_287 : decode cX6_hinders 287 = .ok (.getfield 50, 3) := by decide +kernel
theorem dX6_hinders_290 : decode cX6_hinders 290 = .ok (.iload_n 1, 1) := by decide +kernel
theorem dX6_hinders_291 : decode cX6_hinders 291 = .ok (.iaload, 1) := by decide +kernel
theorem dX6_hinders_292 : decode cX6_hinders 292 = .ok (.if_icmp .lt 5, 3) := by decide +kernel
theorem dX6_hinders_295 : decode cX6_hinders 295 = .ok (.iconst 5, 1) := by decide +kernel
theorem dX6_hinders_296 : decode cX6_hinders 296 = .ok (.ireturn, 1) := by decide +kernel
theorem dX6_hinders_297 : decode cX6_hinders 297 = .ok (.iload 5, 2) := by decide +kernel
theorem dX6_hinders_299 : decode cX6_hinders 299 = .ok (.ifCond .eq 8, 3) := by decide +kernel
theorem dX6_hinders_302 : decode cX6_hinders 302 = .ok (.bipush 6, 2) := by decide +kernel
theorem dX6_hinders_304 : decode cX6_hinders 304 = .ok (.goto 14, 3) := by decide +kernel
theorem dX6_hinders_307 : decode cX6_hinders 307 = .ok (.iload 6, 2) := by decide +kernel
theorem dX6_hinders_309 : decode cX6_hinders 309 = .ok (.ifCond .eq 8, 3) := by decide +kernel
theorem dX6_hinders_312 : decode cX6_hinders 312 = .ok (.bipush 7, 2) := by decide +kernel
theorem dX6_hinders_314 : decode cX6_hinders 314 = .ok (.goto 4, 3) := by decide +kernel
theorem dX6_hinders_317 : decode cX6_hinders 317 = .ok (.iconst 0, 1) := by decide +kernel
theorem dX6_hinders_318 : decode cX6_hinders 318 = .ok (.ireturn, 1) := by decide +kernel
theorem dX6_worthOf_0 : decode cX6_worthOf 0 = .ok (.aload_n 0, 1) := by decide +kernel
theorem dX6_worthOf_1 : decode cX6_worthOf 1 = .ok (.getfield 23, 3) := by decide +kernel
theorem dX6_worthOf_4 : decode cX6_worthOf 4 = .ok (.iload_n 1, 1) := by decide +kernel
theorem dX6_worthOf_5 : decode cX6_worthOf 5 = .ok (.iaload, 1) := by decide +kernel
theorem dX6_worthOf_6 : decode cX6_worthOf 6 = .ok (.iconst 2, 1) := by decide +kernel
theorem dX6_worthOf_7 : decode cX6_worthOf 7 = .ok (.if_icmp .ne 5, 3) := by decide +kernel
theorem dX6_worthOf_10 : decode cX6_worthOf 10 = .ok (.lconst 0, 1) := by decide +kernel
theorem dX6_worthOf_11 : decode cX6_worthOf 11 = .ok (.lreturn, 1) := by decide +kernel
theorem dX6_worthOf_12 : decode cX6_worthOf 12 = .ok (.ldc2_w 188, 3) := by decide +kernel
theorem dX6_worthOf_15 : decode cX6_worthOf 15 = .ok (.aload_n 0, 1) := by decide +kernel
theorem dX6_worthOf_16 : decode cX6_worthOf 16 = .ok (.getfield 35, 3) := by decide +kernel
theorem dX6_worthOf_19 : decode cX6_worthOf 19 = .ok (.iload_n 1, 1) := by decide +kernel
theorem dX6_worthOf_20 : decode cX6_worthOf 20 = .ok (.iaload, 1) := by decide +kernel
theorem dX6_worthOf_21 : decode cX6_worthOf 21 = .ok (.i2l, 1) := by decide +kernel
theorem dX6_worthOf_22 : decode cX6_worthOf 22 = .ok (.lmul, 1) := by decide +kernel
theorem dX6_worthOf_23 : decode cX6_worthOf 23 = .ok (.iload_n 2, 1) := by decide +kernel
theorem dX6_worthOf_24 : decode cX6_worthOf 24 = .ok (.i2l, 1) := by decide +kernel
theorem dX6_worthOf_25 : decode cX6_worthOf 25 = .ok (.lmul, 1) := by decide +kernel
theorem dX6_worthOf_26 : decode cX6_worthOf 26 = .ok (.lstore_n 3, 1) := by decide +kernel
theorem dX6_worthOf_27 : decode cX6_worthOf 27 = .ok (.aload_n 0, 1) := by decide +kernel
theorem dX6_worthOf_28 : decode cX6_worthOf 28 = .ok (.getfield 26, 3) := by decide +kernel
theorem dX6_worthOf_31 : decode cX6_worthOf 31 = .ok (.iload_n 1, 1) := by decide +kernel
theorem dX6_worthOf_32 : decode cX6_worthOf 32 = .ok (.iaload, 1) := by decide +kernel
theorem dX6_worthOf_33 : decode cX6_worthOf 33 = .ok (.iconst 1, 1) := by decide +kernel
theorem dX6_worthOf_34 : decode cX6_worthOf 34 = .ok (.if_icmp .ne 32, 3) := by decide +kernel
theorem dX6_worthOf_37 : decode cX6_worthOf 37 = .ok (.lload_n 3, 1) := by decide +kernel
theorem dX6_worthOf_38 : decode cX6_worthOf 38 = .ok (.aload_n 0, 1) := by decide +kernel
theorem dX6_worthOf_39 : decode cX6_worthOf 39 = .ok (.iload_n 1, 1) := by decide +kernel
theorem dX6_worthOf_40 : decode cX6_worthOf 40 = .ok (.aload_n 0, 1) := by decide +kernel
theorem dX6_worthOf_41 : decode cX6_worthOf 41 = .ok (.getfield 152, 3) := by decide +kernel
theorem dX6_worthOf_44 : decode cX6_worthOf 44 = .ok (.invokevirtual 190, 3) := by decide +kernel
theorem dX6_worthOf_47 : decode cX6_worthOf 47 = .ok (.iconst 1, 1) := by decide +kernel
theorem dX6_worthOf_48 : decode cX6_worthOf 48 = .ok (.iadd, 1) := by decide +kernel
theorem dX6_worthOf_49 : decode cX6_worthOf 49 = .ok (.i2l, 1) := by decide +kernel
theorem dX6_worthOf_50 : decode cX6_worthOf 50 = .ok (.lmul, 1) := by decide +kernel
theorem dX6_worthOf_51 : decode cX6_worthOf 51 = .ok (.aload_n 0, 1) := by decide +kernel
theorem dX6_worthOf_52 : decode cX6_worthOf 52 = .ok (.iload_n 1, 1) := by decide +kernel
theorem dX6_worthOf_53 : decode cX6_worthOf 53 = .ok (.aload_n 0, 1) := by decide +kernel
theorem dX6_worthOf_54 : decode cX6_worthOf 54 = .ok (.getfield 152, 3) := by decide +kernel
theorem dX6_worthOf_57 : decode cX6_worthOf 57 = .ok (.invokevirtual 172, 3) := by decide +kernel
theorem dX6_worthOf_60 : decode cX6_worthOf 60 = .ok (.bipush 20, 2) := by decide +kernel
theorem dX6_worthOf_62 : decode cX6_worthOf 62 = .ok (.iadd, 1) := by decide +kernel
theorem dX6_worthOf_63 : decode cX6_worthOf 63 = .ok (.i2l, 1) := by decide +kernel
theorem dX6_worthOf_64 : decode cX6_worthOf 64 = .ok (.ldiv, 1) := by decide +kernel
theorem dX6_worthOf_65 : decode cX6_worthOf 65 = .ok (.lstore_n 3, 1) := by decide +kernel
theorem dX6_worthOf_66 : decode cX6_worthOf 66 = .ok (.aload_n 0, 1) := by decide +kernel
theorem dX6_worthOf_67 : decode cX6_worthOf 67 = .ok (.iload_n 1, 1) := by decide +kernel
theorem dX6_worthOf_68 : decode cX6_worthOf 68 = .ok (.invokevirtual 193, 3) := by decide +kernel
theorem dX6_worthOf_71 : decode cX6_worthOf 71 = .ok (.ifCond .eq 11, 3) := by decide +kernel
theorem dX6_worthOf_74 : decode cX6_worthOf 74 = .ok (.lload_n 3, 1) := by decide +kernel
theorem dX6_worthOf_75 : decode cX6_worthOf 75 = .ok (.ldc2_w 196, 3) := by decide +kernel
theorem dX6_worthOf_78 : decode cX6_worthOf 78 = .ok (.ladd, 1) := by decide +kernel
theorem dX6_worthOf_79 : decode cX6_worthOf 79 = .ok (.goto 4, 3) := by decide +kernel
theorem dX6_worthOf_82 : decode cX6_worthOf 82 = .ok (.lload_n 3, 1) := by decide +kernel
theorem dX6_worthOf_83 : decode cX6_worthOf 83 = .ok (.lreturn, 1) := by decide +kernel
theorem dX6_fits_0 : decode cX6_fits 0 = .ok (.iload_n 1, 1) := by decide +kernel
theorem dX6_fits_1 : decode cX6_fits 1 = .ok (.iload_n 3, 1) := by decide +kernel
theorem dX6_fits_2 : decode cX6_fits 2 = .ok (.if_icmp .ne 5, 3) := by decide +kernel
theorem dX6_fits_5 : decode cX6_fits 5 = .ok (.iconst 0, 1) := by decide +kernel
theorem dX6_fits_6 : decode cX6_fits 6 = .ok (.ireturn, 1) := by decide +kernel
theorem dX6_fits_7 : decode cX6_fits 7 = .ok (.iconst 0, 1) := by decide +kernel
theorem dX6_fits_8 : decode cX6_fits 8 = .ok (.istore 4, 2) := by decide +kernel
theorem dX6_fits_10 : decode cX6_fits 10 = .ok (.iload 4, 2) := by decide +kernel
theorem dX6_fits_12 : decode cX6_fits 12 = .ok (.iload_n 2, 1) := by decide +kernel
theorem dX6_fits_13 : decode cX6_fits 13 = .ok (.if_icmp .ge 60, 3) := by decide +kernel
theorem dX6_fits_16 : decode cX6_fits 16 = .ok (.aload_n 0, 1) := by decide +kernel
theorem dX6_fits_17 : decode cX6_fits 17 = .ok (.getfield 106, 3) := by decide +kernel
theorem dX6_fits_20 : decode cX6_fits 20 = .ok (.iload 4, 2) := by decide +kernel
theorem dX6_fits_22 : decode cX6_fits 22 = .ok (.iaload, 1) := by decide +kernel
theorem dX6_fits_23 : decode cX6_fits 23 = .ok (.istore 5, 2) := by decide +kernel
theorem dX6_fits_25 : decode cX6_fits 25 = .ok (.iload 5, 2) := by decide +kernel
theorem dX6_fits_27 : decode cX6_fits 27 = .ok (.iload_n 1, 1) := by decide +kernel
theorem dX6_fits_28 : decode cX6_fits 28 = .ok (.if_icmp .eq 37, 3) := by decide +kernel
theorem dX6_fits_31 : decode cX6_fits 31 = .ok (.iload 5, 2) := by decide +kernel
theorem dX6_fits_33 : decode cX6_fits 33 = .ok (.aload_n 0, 1) := by decide +kernel
theorem dX6_fits_34 : decode cX6_fits 34 = .ok (.getfield 198, 3) := by decide +kernel
theorem dX6_fits_37 : decode cX6_fits 37 = .ok (.if_icmp .ge 30, 3) := by decide +kernel
theorem dX6_fits_40 : decode cX6_fits 40 = .ok (.aload_n 0, 1) := by decide +kernel
theorem dX6_fits_41 : decode cX6_fits 41 = .ok (.getfield 57, 3) := by decide +kernel
theorem dX6_fits_44 : decode cX6_fits 44 = .ok (.bipush 40, 2) := by decide +kernel
theorem dX6_fits_46 : decode cX6_fits 46 = .ok (.aload_n 0, 1) := by decide +kernel
theorem dX6_fits_47 : decode cX6_fits 47 = .ok (.getfield 96, 3) := by decide +kernel
theorem dX6_fits_50 : decode cX6_fits 50 = .ok (.iload_n 1, 1) := by decide +kernel
theorem dX6_fits_51 : decode cX6_fits 51 = .ok (.iaload, 1) := by decide +kernel
theorem dX6_fits_52 : decode cX6_fits 52 = .ok (.imul, 1) := by decide +kernel
theorem dX6_fits_53 : decode cX6_fits 53 = .ok (.aload_n 0, 1) := by decide +kernel
theorem dX6_fits_54 : decode cX6_fits 54 = .ok (.getfield 96, 3) := by decide +kernel
theorem dX6_fits_57 : decode cX6_fits 57 = .ok (.iload 5, 2) := by decide +kernel
theorem dX6_fits_59 : decode cX6_fits 59 = .ok (.iaload, 1) := by decide +kernel
theorem dX6_fits_60 : decode cX6_fits 60 = .ok (.iadd, 1) := by decide +kernel
theorem dX6_fits_61 : decode cX6_fits 61 = .ok (.baload, 1) := by decide +kernel
theorem dX6_fits_62 : decode cX6_fits 62 = .ok (.ifCond .eq 5, 3) := by decide +kernel
theorem dX6_fits_65 : decode cX6_fits 65 = .ok (.iconst 0, 1) := by decide +kernel
theorem dX6_fits_66 : decode cX6_fits 66 = .ok (.ireturn, 1) := by decide +kernel
theorem dX6_fits_67 : decode cX6_fits 67 = .ok (.iinc 4 1, 3) := by decide +kernel
theorem dX6_fits_70 : decode cX6_fits 70 = .ok (.goto (-60), 3) := by decide +kernel
theorem dX6_fits_73 : decode cX6_fits 73 = .ok (.iconst 1, 1) := by decide +kernel
theorem dX6_fits_74 : decode cX6_fits 74 = .ok (.ireturn, 1) := by decide +kernel
theorem dX5_isWithin_0 : decode cX5_isWithin 0 = .ok (.iload_n 0, 1) := by decide +kernel
theorem dX5_isWithin_1 : decode cX5_isWithin 1 = .ok (.iload_n 1, 1) := by decide +kernel
theorem dX5_isWithin_2 : decode cX5_isWithin 2 = .ok (.if_icmp .lt 12, 3) := by decide +kernel
theorem dX5_isWithin_5 : decode cX5_isWithin 5 = .ok (.iload_n 0, 1) := by decide +kernel
theorem dX5_isWithin_6 : decode cX5_isWithin 6 = .ok (.iload_n 2, 1) := by decide +kernel
theorem dX5_isWithin_7 : decode cX5_isWithin 7 = .ok (.if_icmp .gt 7, 3) := by decide +kernel
theorem dX5_isWithin_10 : decode cX5_isWithin 10 = .ok (.iconst 1, 1) := by decide +kernel
theorem dX5_isWithin_11 : decode cX5_isWithin 11 = .ok (.goto 4, 3) := by decide +kernel
theorem dX5_isWithin_14 : decode cX5_isWithin 14 = .ok (.iconst 0, 1) := by decide +kernel
theorem dX5_isWithin_15 : decode cX5_isWithin 15 = .ok (.ireturn, 1) := by decide +kernel
theorem dX6_in_0 : decode cX6_in 0 = .ok (.iload_n 0, 1) := by decide +kernel
theorem dX6_in_1 : decode cX6_in 1 = .ok (.iload_n 1, 1) := by decide +kernel
theorem dX6_in_2 : decode cX6_in 2 = .ok (.if_icmp .lt 12, 3) := by decide +kernel
theorem dX6_in_5 : decode cX6_in 5 = .ok (.iload_n 0, 1) := by decide +kernel
theorem dX6_in_6 : decode cX6_in 6 = .ok (.iload_n 2, 1) := by decide +kernel
theorem dX6_in_7 : decode cX6_in 7 = .ok (.if_icmp .gt 7, 3) := by decide +kernel
theorem dX6_in_10 : decode cX6_in 10 = .ok (.iconst 1, 1) := by decide +kernel
theorem dX6_in_11 : decode cX6_in 11 = .ok (.goto 4, 3) := by decide +kernel
theorem dX6_in_14 : decode cX6_in 14 = .ok (.iconst 0, 1) := by decide +kernel
theorem dX6_in_15 : decode cX6_in 15 = .ok (.ireturn, 1) := by decide +kernel
theorem dX5_isReader_0 : decode cX5_isReader 0 = .ok (.iload_n 0, 1) := by decide +kernel
theorem dX5_isReader_1 : decode cX5_isReader 1 = .ok (.ifCond .lt 13, 3) := by decide +kernel
theorem dX5_isReader_4 : decode cX5_isReader 4 = .ok (.iload_n 0, 1) := by decide +kernel
theorem dX5_isReader_5 : decode cX5_isReader 5 = .ok (.bipush 100, 2) := by decide +kernel
theorem dX5_isReader_7 : decode cX5_isReader 7 = .ok (.if_icmp .ge 7, 3) := by decide +kernel
theorem dX5_isReader_10 : decode cX5_isReader 10 = .ok (.iconst 1, 1) := by decide +kernel
theorem dX5_isReader_11 : decode cX5_isReader 11 = .ok (.goto 4, 3) := by decide +kernel
theorem dX5_isReader_14 : decode cX5_isReader 14 = .ok (.iconst 0, 1) := by decide +kernel
theorem dX5_isReader_15 : decode cX5_isReader 15 = .ok (.ireturn, 1) := by decide +kernel
theorem dX5_isSort_0 : decode cX5_isSort 0 = .ok (.iload_n 0, 1) := by decide +kernel
theorem dX5_isSort_1 : decode cX5_isSort 1 = .ok (.ifCond .eq 20, 3) := by decide +kernel
theorem dX5_isSort_4 : decode cX5_isSort 4 = .ok (.iload_n 0, 1) := by decide +kernel
theorem dX5_isSort_5 : decode cX5_isSort 5 = .ok (.iconst 1, 1) := by decide +kernel
theorem dX5_isSort_6 : decode cX5_isSort 6 = .ok (.if_icmp .eq 15, 3) := by decide +kernel
theorem dX5_isSort_9 : decode cX5_isSort 9 = .ok (.iload_n 0, 1) := by decide +kernel
theorem dX5_isSort_10 : decode cX5_isSort 10 = .ok (.bipush 10, 2) := by decide +kernel
theorem dX5_isSort_12 : decode cX5_isSort 12 = .ok (.if_icmp .eq 9, 3) := by decide +kernel
theorem dX5_isSort_15 : decode cX5_isSort 15 = .ok (.iload_n 0, 1) := by decide +kernel
theorem dX5_isSort_16 : decode cX5_isSort 16 = .ok (.bipush 20, 2) := by decide +kernel
theorem dX5_isSort_18 : decode cX5_isSort 18 = .ok (.if_icmp .ne 7, 3) := by decide +kernel
theorem dX5_isSort_21 : decode cX5_isSort 21 = .ok (.iconst 1, 1) := by decide +kernel
theorem dX5_isSort_22 : decode cX5_isSort 22 = .ok (.goto 4, 3) := by decide +kernel
theorem dX5_isSort_25 : decode cX5_isSort 25 = .ok (.iconst 0, 1) := by decide +kernel
theorem dX5_isSort_26 : decode cX5_isSort 26 = .ok (.ireturn, 1) := by decide +kernel
theorem dX5_isWish_0 : decode cX5_isWish 0 = .ok (.iload_n 0, 1) := by decide +kernel
theorem dX5_isWish_1 : decode cX5_isWish 1 = .ok (.ifCond .lt 14, 3) := by decide +kernel
theorem dX5_isWish_4 : decode cX5_isWish 4 = .ok (.iload_n 0, 1) := by decide +kernel
theorem dX5_isWish_5 : decode cX5_isWish 5 = .ok (.sipush 4096, 3) := by decide +kernel
theorem dX5_isWish_8 : decode cX5_isWish 8 = .ok (.idiv, 1) := by decide +kernel
theorem dX5_isWish_9 : decode cX5_isWish 9 = .ok (.sipush 4095, 3) := by decide +kernel
theorem dX5_isWish_12 : decode cX5_isWish 12 = .ok (.if_icmp .le 5, 3) := by decide +kernel
theorem dX5_isWish_15 : decode cX5_isWish 15 = .ok (.iconst 0, 1) := by decide +kernel
theorem dX5_isWish_16 : decode cX5_isWish 16 = .ok (.ireturn, 1) := by decide +kernel
theorem dX5_isWish_17 : decode cX5_isWish 17 = .ok (.iload_n 0, 1) := by decide +kernel
theorem dX5_isWish_18 : decode cX5_isWish 18 = .ok (.sipush 4096, 3) := by decide +kernel
theorem dX5_isWish_21 : decode cX5_isWish 21 = .ok (.idiv, 1) := by decide +kernel
theorem dX5_isWish_22 : decode cX5_isWish 22 = .ok (.iload_n 0, 1) := by decide +kernel
theorem dX5_isWish_23 : decode cX5_isWish 23 = .ok (.sipush 4096, 3) := by decide +kernel
theorem dX5_isWish_26 : decode cX5_isWish 26 = .ok (.irem, 1) := by decide +kernel
theorem dX5_isWish_27 : decode cX5_isWish 27 = .ok (.iand, 1) := by decide +kernel
theorem dX5_isWish_28 : decode cX5_isWish 28 = .ok (.ifCond .ne 7, 3) := by decide +kernel
theorem dX5_isWish_31 : decode cX5_isWish 31 = .ok (.iconst 1, 1) := by decide +kernel
theorem dX5_isWish_32 : decode cX5_isWish 32 = .ok (.goto 4, 3) := by decide +kernel
theorem dX5_isWish_35 : decode cX5_isWish 35 = .ok (.iconst 0, 1) := by decide +kernel
theorem dX5_isWish_36 : decode cX5_isWish 36 = .ok (.ireturn, 1) := by decide +kernel
theorem dX5_isBid_0 : decode cX5_isBid 0 = .ok (.iload_n 0, 1) := by decide +kernel
theorem dX5_isBid_1 : decode cX5_isBid 1 = .ok (.iconst 2, 1) := by decide +kernel
theorem dX5_isBid_2 : decode cX5_isBid 2 = .ok (.if_icmp .ne 15, 3) := by decide +kernel
theorem dX5_isBid_5 : decode cX5_isBid 5 = .ok (.iload_n 1, 1) := by decide +kernel
theorem dX5_isBid_6 : decode cX5_isBid 6 = .ok (.ifCond .ne 7, 3) := by decide +kernel
theorem dX5_isBid_9 : decode cX5_isBid 9 = .ok (.iconst 1, 1) := by decide +kernel
theorem dX5_isBid_10 : decode cX5_isBid 10 = .ok (.goto 15, 3) := by decide +kernel
theorem dX5_isBid_13 : decode cX5_isBid 13 = .ok (.iconst 0, 1) := by decide +kernel
theorem dX5_isBid_14 : decode cX5_isBid 14 = .ok (.goto 11, 3) := by decide +kernel
theorem dX5_isBid_17 : decode cX5_isBid 17 = .ok (.iload_n 1, 1) := by decide +kernel
theorem dX5_isBid_18 : decode cX5_isBid 18 = .ok (.iconst 1, 1) := by decide +kernel
theorem dX5_isBid_19 : decode cX5_isBid 19 = .ok (.sipush 1000, 3) := by decide +kernel
theorem dX5_isBid_22 : decode cX5_isBid 22 = .ok (.invokestatic 65, 3) := by decide +kernel
theorem dX5_isBid_25 : decode cX5_isBid 25 = .ok (.ireturn, 1) := by decide +kernel
theorem dX6_isReader_0 : decode cX6_isReader 0 = .ok (.iload_n 0, 1) := by decide +kernel
theorem dX6_isReader_1 : decode cX6_isReader 1 = .ok (.iconst 0, 1) := by decide +kernel
theorem dX6_isReader_2 : decode cX6_isReader 2 = .ok (.bipush 99, 2) := by decide +kernel
theorem dX6_isReader_4 : decode cX6_isReader 4 = .ok (.invokestatic 136, 3) := by decide +kernel
theorem dX6_isReader_7 : decode cX6_isReader 7 = .ok (.ireturn, 1) := by decide +kernel
theorem dX5_isPage_0 : decode cX5_isPage 0 = .ok (.iload_n 1, 1) := by decide +kernel
theorem dX5_isPage_1 : decode cX5_isPage 1 = .ok (.ifCond .lt 15, 3) := by decide +kernel
theorem dX5_isPage_4 : decode cX5_isPage 4 = .ok (.iload_n 1, 1) := by decide +kernel
theorem dX5_isPage_5 : decode cX5_isPage 5 = .ok (.aload_n 0, 1) := by decide +kernel
theorem dX5_isPage_6 : decode cX5_isPage 6 = .ok (.getfield 55, 3) := by decide +kernel
theorem dX5_isPage_9 : decode cX5_isPage 9 = .ok (.if_icmp .ge 7, 3) := by decide +kernel
theorem dX5_isPage_12 : decode cX5_isPage 12 = .ok (.iconst 1, 1) := by decide +kernel
theorem dX5_isPage_13 : decode cX5_isPage 13 = .ok (.goto 4, 3) := by decide +kernel
theorem dX5_isPage_16 : decode cX5_isPage 16 = .ok (.iconst 0, 1) := by decide +kernel
theorem dX5_isPage_17 : decode cX5_isPage 17 = .ok (.ireturn, 1) := by decide +kernel
theorem dX5_isCampaign_0 : decode cX5_isCampaign 0 = .ok (.iload_n 1, 1) := by decide +kernel
theorem dX5_isCampaign_1 : decode cX5_isCampaign 1 = .ok (.ifCond .lt 15, 3) := by decide +kernel
theorem dX5_isCampaign_4 : decode cX5_isCampaign 4 = .ok (.iload_n 1, 1) := by decide +kernel
theorem dX5_isCampaign_5 : decode cX5_isCampaign 5 = .ok (.aload_n 0, 1) := by decide +kernel
theorem dX5_isCampaign_6 : decode cX5_isCampaign 6 = .ok (.getfield 79, 3) := by decide +kernel
theorem dX5_isCampaign_9 : decode cX5_isCampaign 9 = .ok (.if_icmp .ge 7, 3) := by decide +kernel
theorem dX5_isCampaign_12 : decode cX5_isCampaign 12 = .ok (.iconst 1, 1) := by decide +kernel
theorem dX5_isCampaign_13 : decode cX5_isCampaign 13 = .ok (.goto 4, 3) := by decide +kernel
theorem dX5_isCampaign_16 : decode cX5_isCampaign 16 = .ok (.iconst 0, 1) := by decide +kernel
theorem dX5_isCampaign_17 : decode cX5_isCampaign 17 = .ok (.ireturn, 1) := by decide +kernel
theorem dX5_isSale_0 : decode cX5_isSale 0 = .ok (.iload_n 1, 1) := by decide +kernel
theorem dX5_isSale_1 : decode cX5_isSale 1 = .ok (.ifCond .lt 15, 3) := by decide +kernel
theorem dX5_isSale_4 : decode cX5_isSale 4 = .ok (.iload_n 1, 1) := by decide +kernel
theorem dX5_isSale_5 : decode cX5_isSale 5 = .ok (.aload_n 0, 1) := by decide +kernel
theorem dX5_isSale_6 : decode cX5_isSale 6 = .ok (.getfield 138, 3) := by decide +kernel
theorem dX5_isSale_9 : decode cX5_isSale 9 = .ok (.if_icmp .ge 7, 3) := by decide +kernel
theorem dX5_isSale_12 : decode cX5_isSale 12 = .ok (.iconst 1, 1) := by decide +kernel
theorem dX5_isSale_13 : decode cX5_isSale 13 = .ok (.goto 4, 3) := by decide +kernel
theorem dX5_isSale_16 : decode cX5_isSale 16 = .ok (.iconst 0, 1) := by decide +kernel
theorem dX5_isSale_17 : decode cX5_isSale 17 = .ok (.ireturn, 1) := by decide +kernel
theorem dX6_isPage_0 : decode cX6_isPage 0 = .ok (.iload_n 1, 1) := by decide +kernel
theorem dX6_isPage_1 : decode cX6_isPage 1 = .ok (.iconst 0, 1) := by decide +kernel
theorem dX6_isPage_2 : decode cX6_isPage 2 = .ok (.aload_n 0, 1) := by decide +kernel
theorem dX6_isPage_3 : decode cX6_isPage 3 = .ok (.getfield 133, 3) := by decide +kernel
theorem dX6_isPage_6 : decode cX6_isPage 6 = .ok (.iconst 1, 1) := by decide +kernel
theorem dX6_isPage_7 : decode cX6_isPage 7 = .ok (.isub, 1) := by decide +kernel
theorem dX6_isPage_8 : decode cX6_isPage 8 = .ok (.invokestatic 136, 3) := by decide +kernel
theorem dX6_isPage_11 : decode cX6_isPage 11 = .ok (.ireturn, 1) := by decide +kernel
theorem dX6_isCampaign_0 : decode cX6_isCampaign 0 = .ok (.iload_n 1, 1) := by decide +kernel
theorem dX6_isCampaign_1 : decode cX6_isCampaign 1 = .ok (.iconst 0, 1) := by decide +kernel
theorem dX6_isCampaign_2 : decode cX6_isCampaign 2 = .ok (.aload_n 0, 1) := by decide +kernel
theorem dX6_isCampaign_3 : decode cX6_isCampaign 3 = .ok (.getfield 140, 3) := by decide +kernel
theorem dX6_isCampaign_6 : decode cX6_isCampaign 6 = .ok (.iconst 1, 1) := by decide +kernel
theorem dX6_isCampaign_7 : decode cX6_isCampaign 7 = .ok (.isub, 1) := by decide +kernel
theorem dX6_isCampaign_8 : decode cX6_isCampaign 8 = .ok (.invokestatic 136, 3) := by decide +kernel
theorem dX6_isCampaign_11 : decode cX6_isCampaign 11 = .ok (.ireturn, 1) := by decide +kernel
theorem dX6_isSale_0 : decode cX6_isSale 0 = .ok (.iload_n 1, 1) := by decide +kernel
theorem dX6_isSale_1 : decode cX6_isSale 1 = .ok (.iconst 0, 1) := by decide +kernel
theorem dX6_isSale_2 : decode cX6_isSale 2 = .ok (.aload_n 0, 1) := by decide +kernel
theorem dX6_isSale_3 : decode cX6_isSale 3 = .ok (.getfield 161, 3) := by decide +kernel
theorem dX6_isSale_6 : decode cX6_isSale 6 = .ok (.iconst 1, 1) := by decide +kernel
theorem dX6_isSale_7 : decode cX6_isSale 7 = .ok (.isub, 1) := by decide +kernel
theorem dX6_isSale_8 : decode cX6_isSale 8 = .ok (.invokestatic 136, 3) := by decide +kernel
theorem dX6_isSale_11 : decode cX6_isSale 11 = .ok (.ireturn, 1) := by decide +kernel
theorem dX5_budget_0 : decode cX5_budget 0 = .ok (.aload_n 0, 1) := by decide +kernel
theorem dX5_budget_1 : decode cX5_budget 1 = .ok (.iload_n 1, 1) := by decide +kernel
theorem dX5_budget_2 : decode cX5_budget 2 = .ok (.invokevirtual 85, 3) := by decide +kernel
theorem dX5_budget_5 : decode cX5_budget 5 = .ok (.ifCond .eq 23, 3) := by decide +kernel
theorem dX5_budget_28 : decode cX5_budget 28 = .ok (.iconst (-1), 1) := by decide +kernel
theorem dX5_budget_29 : decode cX5_budget 29 = .ok (.ireturn, 1) := by decide +kernel
theorem dX6_budget_0 : decode cX6_budget 0 = .ok (.aload_n 0, 1) := by decide +kernel
theorem dX6_budget_1 : decode cX6_budget 1 = .ok (.iload_n 1, 1) := by decide +kernel
theorem dX6_budget_2 : decode cX6_budget 2 = .ok (.invokevirtual 148, 3) := by decide +kernel
theorem dX6_budget_5 : decode cX6_budget 5 = .ok (.ifCond .eq 23, 3) := by decide +kernel
theorem dX6_budget_8 : decode cX6_budget 8 = .ok (.iload_n 2, 1) := by decide +kernel
theorem dX6_budget_9 : decode cX6_budget 9 = .ok (.iconst 0, 1) := by decide +kernel
theorem dX6_budget_10 : decode cX6_budget 10 = .ok (.ldc 151, 2) := by decide +kernel
theorem dX6_budget_12 : decode cX6_budget 12 = .ok (.invokestatic 136, 3) := by decide +kernel
theorem dX6_budget_15 : decode cX6_budget 15 = .ok (.ifCond .eq 13, 3) := by decide +kernel
theorem dX6_budget_18 : decode cX6_budget 18 = .ok (.iload_n 3, 1) := by decide +kernel
theorem dX6_budget_19 : decode cX6_budget 19 = .ok (.iconst 0, 1) := by decide +kernel
theorem dX6_budget_20 : decode cX6_budget 20 = .ok (.ldc 151, 2) := by decide +kernel
theorem dX6_budget_22 : decode cX6_budget 22 = .ok (.invokestatic 136, 3) := by decide +kernel
theorem dX6_budget_25 : decode cX6_budget 25 = .ok (.ifCond .ne 5, 3) := by decide +kernel
theorem dX6_budget_28 : decode cX6_budget 28 = .ok (.iconst (-1), 1) := by decide +kernel
theorem dX6_budget_29 : decode cX6_budget 29 = .ok (.ireturn, 1) := by decide +kernel
theorem dX6_budget_30 : decode cX6_budget 30 = .ok (.aload_n 0, 1) := by decide +kernel
theorem dX6_budget_31 : decode cX6_budget 31 = .ok (.getfield 38, 3) := by decide +kernel
theorem dX6_budget_34 : decode cX6_budget 34 = .ok (.iload_n 1, 1) := by decide +kernel
theorem dX6_budget_35 : decode cX6_budget 35 = .ok (.iload_n 2, 1) := by decide +kernel
theorem dX6_budget_36 : decode cX6_budget 36 = .ok (.iastore, 1) := by decide +kernel
theorem dX6_budget_37 : decode cX6_budget 37 = .ok (.aload_n 0, 1) := by decide +kernel
theorem dX6_budget_38 : decode cX6_budget 38 = .ok (.getfield 41, 3) := by decide +kernel
theorem dX6_budget_41 : decode cX6_budget 41 = .ok (.iload_n 1, 1) := by decide +kernel
theorem dX6_budget_42 : decode cX6_budget 42 = .ok (.iload_n 3, 1) := by decide +kernel
theorem dX6_budget_43 : decode cX6_budget 43 = .ok (.iastore, 1) := by decide +kernel
theorem dX6_budget_44 : decode cX6_budget 44 = .ok (.iconst 1, 1) := by decide +kernel
theorem dX6_budget_45 : decode cX6_budget 45 = .ok (.ireturn, 1) := by decide +kernel
theorem dX5_cap_0 : decode cX5_cap 0 = .ok (.aload_n 0, 1) := by decide +kernel
theorem dX5_cap_1 : decode cX5_cap 1 = .ok (.iload_n 1, 1) := by decide +kernel
theorem dX5_cap_2 : decode cX5_cap 2 = .ok (.invokevirtual 85, 3) := by decide +kernel
theorem dX5_cap_5 : decode cX5_cap 5 = .ok (.ifCond .eq 24, 3) := by decide +kernel
theorem dX5_cap_29 : decode cX5_cap 29 = .ok (.iconst (-1), 1) := by decide +kernel
theorem dX5_cap_30 : decode cX5_cap 30 = .ok (.ireturn, 1) := by decide +kernel
theorem dX6_cap_0 : decode cX6_cap 0 = .ok (.aload_n 0, 1) := by decide +kernel
theorem dX6_cap_1 : decode cX6_cap 1 = .ok (.iload_n 1, 1) := by decide +kernel
theorem dX6_cap_2 : decode cX6_cap 2 = .ok (.invokevirtual 148, 3) := by decide +kernel
theorem dX6_cap_5 : decode cX6_cap 5 = .ok (.ifCond .eq 24, 3) := by decide +kernel
theorem dX6_cap_8 : decode cX6_cap 8 = .ok (.iload_n 2, 1) := by decide +kernel
theorem dX6_cap_9 : decode cX6_cap 9 = .ok (.iconst 1, 1) := by decide +kernel
theorem dX6_cap_10 : decode cX6_cap 10 = .ok (.bipush 9, 2) := by decide +kernel
theorem dX6_cap_12 : decode cX6_cap 12 = .ok (.invokestatic 136, 3) := by decide +kernel
theorem dX6_cap_15 : decode cX6_cap 15 = .ok (.ifCond .eq 14, 3) := by decide +kernel
theorem dX6_cap_18 : decode cX6_cap 18 = .ok (.iload_n 3, 1) := by decide +kernel
theorem dX6_cap_19 : decode cX6_cap 19 = .ok (.iconst 1, 1) := by decide +kernel
theorem dX6_cap_20 : decode cX6_cap 20 = .ok (.sipush 1000, 3) := by decide +kernel
theorem dX6_cap_23 : decode cX6_cap 23 = .ok (.invokestatic 136, 3) := by decide +kernel
theorem dX6_cap_26 : decode cX6_cap 26 = .ok (.ifCond .ne 5, 3) := by decide +kernel
theorem dX6_cap_29 : decode cX6_cap 29 = .ok (.iconst (-1), 1) := by decide +kernel
theorem dX6_cap_30 : decode cX6_cap 30 = .ok (.ireturn, 1) := by decide +kernel
theorem dX6_cap_31 : decode cX6_cap 31 = .ok (.aload_n 0, 1) := by decide +kernel
theorem dX6_cap_32 : decode cX6_cap 32 = .ok (.getfield 44, 3) := by decide +kernel
theorem dX6_cap_35 : decode cX6_cap 35 = .ok (.iload_n 1, 1) := by decide +kernel
theorem dX6_cap_36 : decode cX6_cap 36 = .ok (.iload_n 2, 1) := by decide +kernel
theorem dX6_cap_37 : decode cX6_cap 37 = .ok (.iastore, 1) := by decide +kernel
theorem dX6_cap_38 : decode cX6_cap 38 = .ok (.aload_n 0, 1) := by decide +kernel
theorem dX6_cap_39 : decode cX6_cap 39 = .ok (.getfield 47, 3) := by decide +kernel
theorem dX6_cap_42 : decode cX6_cap 42 = .ok (.iload_n 1, 1) := by decide +kernel
theorem dX6_cap_43 : decode cX6_cap 43 = .ok (.iload_n 3, 1) := by decide +kernel
theorem dX6_cap_44 : decode cX6_cap 44 = .ok (.iastore, 1) := by decide +kernel
theorem dX6_cap_45 : decode cX6_cap 45 = .ok (.iconst 1, 1) := by decide +kernel
theorem dX6_cap_46 : decode cX6_cap 46 = .ok (.ireturn, 1) := by decide +kernel
theorem dX5_apart_0 : decode cX5_apart 0 = .ok (.aload_n 0, 1) := by decide +kernel
theorem dX5_apart_1 : decode cX5_apart 1 = .ok (.iload_n 1, 1) := by decide +kernel
theorem dX5_apart_2 : decode cX5_apart 2 = .ok (.invokevirtual 85, 3) := by decide +kernel
theorem dX5_apart_5 : decode cX5_apart 5 = .ok (.ifCond .eq 25, 3) := by decide +kernel
theorem dX5_apart_30 : decode cX5_apart 30 = .ok (.iconst (-1), 1) := by decide +kernel
theorem dX5_apart_31 : decode cX5_apart 31 = .ok (.ireturn, 1) := by decide +kernel
theorem dX6_apart_0 : decode cX6_apart 0 = .ok (.aload_n 0, 1) := by decide +kernel
theorem dX6_apart_1 : decode cX6_apart 1 = .ok (.iload_n 1, 1) := by decide +kernel
theorem dX6_apart_2 : decode cX6_apart 2 = .ok (.invokevirtual 148, 3) := by decide +kernel
theorem dX6_apart_5 : decode cX6_apart 5 = .ok (.ifCond .eq 25, 3) := by decide +kernel
theorem dX6_apart_8 : decode cX6_apart 8 = .ok (.aload_n 0, 1) := by decide +kernel
theorem dX6_apart_9 : decode cX6_apart 9 = .ok (.iload_n 2, 1) := by decide +kernel
theorem dX6_apart_10 : decode cX6_apart 10 = .ok (.invokevirtual 148, 3) := by decide +kernel
theorem dX6_apart_13 : decode cX6_apart 13 = .ok (.ifCond .eq 17, 3) := by decide +kernel
theorem dX6_apart_16 : decode cX6_apart 16 = .ok (.iload_n 1, 1) := by decide +kernel
theorem dX6_apart_17 : decode cX6_apart 17 = .ok (.iload_n 2, 1) := by decide +kernel
theorem dX6_apart_18 : decode cX6_apart 18 = .ok (.if_icmp .eq 12, 3) := by decide +kernel
theorem dX6_apart_21 : decode cX6_apart 21 = .ok (.iload_n 3, 1) := by decide +kernel
theorem dX6_apart_22 : decode cX6_apart 22 = .ok (.iconst 0, 1) := by decide +kernel
theorem dX6_apart_23 : decode cX6_apart 23 = .ok (.iconst 1, 1) := by decide +kernel
theorem dX6_apart_24 : decode cX6_apart 24 = .ok (.invokestatic 136, 3) := by decide +kernel
theorem dX6_apart_27 : decode cX6_apart 27 = .ok (.ifCond .ne 5, 3) := by decide +kernel
theorem dX6_apart_30 : decode cX6_apart 30 = .ok (.iconst (-1), 1) := by decide +kernel
theorem dX6_apart_31 : decode cX6_apart 31 = .ok (.ireturn, 1) := by decide +kernel
theorem dX6_apart_32 : decode cX6_apart 32 = .ok (.aload_n 0, 1) := by decide +kernel
theorem dX6_apart_33 : decode cX6_apart 33 = .ok (.getfield 57, 3) := by decide +kernel
theorem dX6_apart_36 : decode cX6_apart 36 = .ok (.bipush 40, 2) := by decide +kernel
theorem dX6_apart_38 : decode cX6_apart 38 = .ok (.iload_n 1, 1) := by decide +kernel
theorem dX6_apart_39 : decode cX6_apart 39 = .ok (.imul, 1) := by decide +kernel
theorem dX6_apart_40 : decode cX6_apart 40 = .ok (.iload_n 2, 1) := by decide +kernel
theorem dX6_apart_41 : decode cX6_apart 41 = .ok (.iadd, 1) := by decide +kernel
theorem dX6_apart_42 : decode cX6_apart 42 = .ok (.baload, 1) := by decide +kernel
theorem dX6_apart_43 : decode cX6_apart 43 = .ok (.ifCond .eq 7, 3) := by decide +kernel
theorem dX6_apart_46 : decode cX6_apart 46 = .ok (.iconst 1, 1) := by decide +kernel
theorem dX6_apart_47 : decode cX6_apart 47 = .ok (.goto 4, 3) := by decide +kernel
theorem dX6_apart_50 : decode cX6_apart 50 = .ok (.iconst 0, 1) := by decide +kernel
theorem dX6_apart_51 : decode cX6_apart 51 = .ok (.istore 4, 2) := by decide +kernel
theorem dX6_apart_53 : decode cX6_apart 53 = .ok (.aload_n 0, 1) := by decide +kernel
theorem dX6_apart_54 : decode cX6_apart 54 = .ok (.getfield 57, 3) := by decide +kernel
theorem dX6_apart_57 : decode cX6_apart 57 = .ok (.bipush 40, 2) := by decide +kernel
theorem dX6_apart_59 : decode cX6_apart 59 = .ok (.iload_n 1, 1) := by decide +kernel
theorem dX6_apart_60 : decode cX6_apart 60 = .ok (.imul, 1) := by decide +kernel
theorem dX6_apart_61 : decode cX6_apart 61 = .ok (.iload_n 2, 1) := by decide +kernel
theorem dX6_apart_62 : decode cX6_apart 62 = .ok (.iadd, 1) := by decide +kernel
theorem dX6_apart_63 : decode cX6_apart 63 = .ok (.iload_n 3, 1) := by decide +kernel
theorem dX6_apart_64 : decode cX6_apart 64 = .ok (.iconst 1, 1) := by decide +kernel
theorem dX6_apart_65 : decode cX6_apart 65 = .ok (.if_icmp .ne 7, 3) := by decide +kernel
theorem dX6_apart_68 : decode cX6_apart 68 = .ok (.iconst 1, 1) := by decide +kernel
theorem dX6_apart_69 : decode cX6_apart 69 = .ok (.goto 4, 3) := by decide +kernel
theorem dX6_apart_72 : decode cX6_apart 72 = .ok (.iconst 0, 1) := by decide +kernel
theorem dX6_apart_73 : decode cX6_apart 73 = .ok (.bastore, 1) := by decide +kernel
theorem dX6_apart_74 : decode cX6_apart 74 = .ok (.aload_n 0, 1) := by decide +kernel
theorem dX6_apart_75 : decode cX6_apart 75 = .ok (.getfield 57, 3) := by decide +kernel
theorem dX6_apart_78 : decode cX6_apart 78 = .ok (.bipush 40, 2) := by decide +kernel
theorem dX6_apart_80 : decode cX6_apart 80 = .ok (.iload_n 2, 1) := by decide +kernel
theorem dX6_apart_81 : decode cX6_apart 81 = .ok (.imul, 1) := by decide +kernel
theorem dX6_apart_82 : decode cX6_apart 82 = .ok (.iload_n 1, 1) := by decide +kernel
theorem dX6_apart_83 : decode cX6_apart 83 = .ok (.iadd, 1) := by decide +kernel
theorem dX6_apart_84 : decode cX6_apart 84 = .ok (.iload_n 3, 1) := by decide +kernel
theorem dX6_apart_85 : decode cX6_apart 85 = .ok (.iconst 1, 1) := by decide +kernel
theorem dX6_apart_86 : decode cX6_apart 86 = .ok (.if_icmp .ne 7, 3) := by decide +kernel
theorem dX6_apart_89 : decode cX6_apart 89 = .ok (.iconst 1, 1) := by decide +kernel
theorem dX6_apart_90 : decode cX6_apart 90 = .ok (.goto 4, 3) := by decide +kernel
theorem dX6_apart_93 : decode cX6_apart 93 = .ok (.iconst 0, 1) := by decide +kernel
theorem dX6_apart_94 : decode cX6_apart 94 = .ok (.bastore, 1) := by decide +kernel
theorem dX6_apart_95 : decode cX6_apart 95 = .ok (.iload 4, 2) := by decide +kernel
theorem dX6_apart_97 : decode cX6_apart 97 = .ok (.ireturn, 1) := by decide +kernel
theorem dX5_promise_0 : decode cX5_promise 0 = .ok (.aload_n 0, 1) := by decide +kernel
theorem dX5_promise_1 : decode cX5_promise 1 = .ok (.iload_n 1, 1) := by decide +kernel
theorem dX5_promise_2 : decode cX5_promise 2 = .ok (.invokevirtual 85, 3) := by decide +kernel
theorem dX5_promise_5 : decode cX5_promise 5 = .ok (.ifCond .eq 25, 3) := by decide +kernel
theorem dX5_promise_30 : decode cX5_promise 30 = .ok (.iconst (-1), 1) := by decide +kernel
theorem dX5_promise_31 : decode cX5_promise 31 = .ok (.ireturn, 1) := by decide +kernel
theorem dX6_promise_0 : decode cX6_promise 0 = .ok (.aload_n 0, 1) := by decide +kernel
theorem dX6_promise_1 : decode cX6_promise 1 = .ok (.iload_n 1, 1) := by decide +kernel
theorem dX6_promise_2 : decode cX6_promise 2 = .ok (.invokevirtual 148, 3) := by decide +kernel
theorem dX6_promise_5 : decode cX6_promise 5 = .ok (.ifCond .eq 35, 3) := by decide +kernel
theorem dX6_promise_8 : decode cX6_promise 8 = .ok (.iload_n 2, 1) := by decide +kernel
theorem dX6_promise_9 : decode cX6_promise 9 = .ok (.iconst 1, 1) := by decide +kernel
theorem dX6_promise_10 : decode cX6_promise 10 = .ok (.sipush 1000, 3) := by decide +kernel
theorem dX6_promise_13 : decode cX6_promise 13 = .ok (.invokestatic 136, 3) := by decide +kernel
theorem dX6_promise_16 : decode cX6_promise 16 = .ok (.ifCond .eq 24, 3) := by decide +kernel
theorem dX6_promise_19 : decode cX6_promise 19 = .ok (.iload_n 3, 1) := by decide +kernel
theorem dX6_promise_20 : decode cX6_promise 20 = .ok (.iconst 0, 1) := by decide +kernel
theorem dX6_promise_21 : decode cX6_promise 21 = .ok (.bipush 100, 2) := by decide +kernel
theorem dX6_promise_23 : decode cX6_promise 23 = .ok (.invokestatic 136, 3) := by decide +kernel
theorem dX6_promise_26 : decode cX6_promise 26 = .ok (.ifCond .eq 14, 3) := by decide +kernel
theorem dX6_promise_29 : decode cX6_promise 29 = .ok (.iload_n 3, 1) := by decide +kernel
theorem dX6_promise_30 : decode cX6_promise 30 = .ok (.aload_n 0, 1) := by decide +kernel
theorem dX6_promise_31 : decode cX6_promise 31 = .ok (.getfield 152, 3) := by decide +kernel
theorem dX6_promise_34 : decode cX6_promise 34 = .ok (.bipush 100, 2) := by decide +kernel
theorem dX6_promise_36 : decode cX6_promise 36 = .ok (.idiv, 1) := by decide +kernel
theorem dX6_promise_37 : decode cX6_promise 37 = .ok (.if_icmp .ge 5, 3) := by decide +kernel
theorem dX6_promise_40 : decode cX6_promise 40 = .ok (.iconst (-1), 1) := by decide +kernel
theorem dX6_promise_41 : decode cX6_promise 41 = .ok (.ireturn, 1) := by decide +kernel
theorem dX6_promise_42 : decode cX6_promise 42 = .ok (.aload_n 0, 1) := by decide +kernel
theorem dX6_promise_43 : decode cX6_promise 43 = .ok (.getfield 23, 3) := by decide +kernel
theorem dX6_promise_46 : decode cX6_promise 46 = .ok (.iload_n 1, 1) := by decide +kernel
theorem dX6_promise_47 : decode cX6_promise 47 = .ok (.iaload, 1) := by decide +kernel
theorem dX6_promise_48 : decode cX6_promise 48 = .ok (.iconst 1, 1) := by decide +kernel
theorem dX6_promise_49 : decode cX6_promise 49 = .ok (.if_icmp .eq 6, 3) := by decide +kernel
theorem dX6_promise_52 : decode cX6_promise 52 = .ok (.bipush (-2), 2) := by decide +kernel
theorem dX6_promise_54 : decode cX6_promise 54 = .ok (.ireturn, 1) := by decide +kernel
theorem dX6_promise_55 : decode cX6_promise 55 = .ok (.aload_n 0, 1) := by decide +kernel
theorem dX6_promise_56 : decode cX6_promise 56 = .ok (.getfield 60, 3) := by decide +kernel
theorem dX6_promise_59 : decode cX6_promise 59 = .ok (.iload_n 1, 1) := by decide +kernel
theorem dX6_promise_60 : decode cX6_promise 60 = .ok (.iload_n 2, 1) := by decide +kernel
theorem dX6_promise_61 : decode cX6_promise 61 = .ok (.iastore, 1) := by decide +kernel
theorem dX6_promise_62 : decode cX6_promise 62 = .ok (.aload_n 0, 1) := by decide +kernel
theorem dX6_promise_63 : decode cX6_promise 63 = .ok (.getfield 63, 3) := by decide +kernel
theorem dX6_promise_66 : decode cX6_promise 66 = .ok (.iload_n 1, 1) := by decide +kernel
theorem dX6_promise_67 : decode cX6_promise 67 = .ok (.iload_n 3, 1) := by decide +kernel
theorem dX6_promise_68 : decode cX6_promise 68 = .ok (.iastore, 1) := by decide +kernel
theorem dX6_promise_69 : decode cX6_promise 69 = .ok (.aload_n 0, 1) := by decide +kernel
theorem dX6_promise_70 : decode cX6_promise 70 = .ok (.getfield 66, 3) := by decide +kernel
theorem dX6_promise_73 : decode cX6_promise 73 = .ok (.iload_n 1, 1) := by decide +kernel
theorem dX6_promise_74 : decode cX6_promise 74 = .ok (.aload_n 0, 1) := by decide +kernel
theorem dX6_promise_75 : decode cX6_promise 75 = .ok (.getfield 152, 3) := by decide +kernel
theorem dX6_promise_78 : decode cX6_promise 78 = .ok (.iastore, 1) := by decide +kernel
theorem dX6_promise_79 : decode cX6_promise 79 = .ok (.iconst 1, 1) := by decide +kernel
theorem dX6_promise_80 : decode cX6_promise 80 = .ok (.ireturn, 1) := by decide +kernel
theorem dX5_stop_0 : decode cX5_stop 0 = .ok (.aload_n 0, 1) := by decide +kernel
theorem dX5_stop_1 : decode cX5_stop 1 = .ok (.iload_n 1, 1) := by decide +kernel
theorem dX5_stop_2 : decode cX5_stop 2 = .ok (.invokevirtual 85, 3) := by decide +kernel
theorem dX5_stop_5 : decode cX5_stop 5 = .ok (.ifCond .eq 12, 3) := by decide +kernel
theorem dX5_stop_17 : decode cX5_stop 17 = .ok (.iconst (-1), 1) := by decide +kernel
theorem dX5_stop_18 : decode cX5_stop 18 = .ok (.ireturn, 1) := by decide +kernel
theorem dX6_stop_0 : decode cX6_stop 0 = .ok (.aload_n 0, 1) := by decide +kernel
theorem dX6_stop_1 : decode cX6_stop 1 = .ok (.iload_n 1, 1) := by decide +kernel
theorem dX6_stop_2 : decode cX6_stop 2 = .ok (.invokevirtual 148, 3) := by decide +kernel
theorem dX6_stop_5 : decode cX6_stop 5 = .ok (.ifCond .eq 12, 3) := by decide +kernel
theorem dX6_stop_8 : decode cX6_stop 8 = .ok (.iload_n 2, 1) := by decide +kernel
theorem dX6_stop_9 : decode cX6_stop 9 = .ok (.iconst 0, 1) := by decide +kernel
theorem dX6_stop_10 : decode cX6_stop 10 = .ok (.iconst 1, 1) := by decide +kernel
theorem dX6_stop_11 : decode cX6_stop 11 = .ok (.invokestatic 136, 3) := by decide +kernel
theorem dX6_stop_14 : decode cX6_stop 14 = .ok (.ifCond .ne 5, 3) := by decide +kernel
theorem dX6_stop_17 : decode cX6_stop 17 = .ok (.iconst (-1), 1) := by decide +kernel
theorem dX6_stop_18 : decode cX6_stop 18 = .ok (.ireturn, 1) := by decide +kernel
theorem dX6_stop_19 : decode cX6_stop 19 = .ok (.aload_n 0, 1) := by decide +kernel
theorem dX6_stop_20 : decode cX6_stop 20 = .ok (.getfield 53, 3) := by decide +kernel
theorem dX6_stop_23 : decode cX6_stop 23 = .ok (.iload_n 1, 1) := by decide +kernel
theorem dX6_stop_24 : decode cX6_stop 24 = .ok (.baload, 1) := by decide +kernel
theorem dX6_stop_25 : decode cX6_stop 25 = .ok (.ifCond .eq 7, 3) := by decide +kernel
theorem dX6_stop_28 : decode cX6_stop 28 = .ok (.iconst 1, 1) := by decide +kernel
theorem dX6_stop_29 : decode cX6_stop 29 = .ok (.goto 4, 3) := by decide +kernel
theorem dX6_stop_32 : decode cX6_stop 32 = .ok (.iconst 0, 1) := by decide +kernel
theorem dX6_stop_33 : decode cX6_stop 33 = .ok (.istore_n 3, 1) := by decide +kernel
theorem dX6_stop_34 : decode cX6_stop 34 = .ok (.aload_n 0, 1) := by decide +kernel
theorem dX6_stop_35 : decode cX6_stop 35 = .ok (.getfield 53, 3) := by decide +kernel
theorem dX6_stop_38 : decode cX6_stop 38 = .ok (.iload_n 1, 1) := by decide +kernel
theorem dX6_stop_39 : decode cX6_stop 39 = .ok (.iload_n 2, 1) := by decide +kernel
theorem dX6_stop_40 : decode cX6_stop 40 = .ok (.iconst 1, 1) := by decide +kernel
theorem dX6_stop_41 : decode cX6_stop 41 = .ok (.if_icmp .ne 7, 3) := by decide +kernel
theorem dX6_stop_44 : decode cX6_stop 44 = .ok (.iconst 1, 1) := by decide +kernel
theorem dX6_stop_45 : decode cX6_stop 45 = .ok (.goto 4, 3) := by decide +kernel
theorem dX6_stop_48 : decode cX6_stop 48 = .ok (.iconst 0, 1) := by decide +kernel
theorem dX6_stop_49 : decode cX6_stop 49 = .ok (.bastore, 1) := by decide +kernel
theorem dX6_stop_50 : decode cX6_stop 50 = .ok (.iload_n 3, 1) := by decide +kernel
theorem dX6_stop_51 : decode cX6_stop 51 = .ok (.ireturn, 1) := by decide +kernel
theorem dX5_come_0 : decode cX5_come 0 = .ok (.iload_n 1, 1) := by decide +kernel
theorem dX5_come_1 : decode cX5_come 1 = .ok (.invokestatic 61, 3) := by decide +kernel
theorem dX5_come_4 : decode cX5_come 4 = .ok (.ifCond .eq 11, 3) := by decide +kernel
theorem dX5_come_7 : decode cX5_come 7 = .ok (.aload_n 0, 1) := by decide +kernel
theorem dX5_come_8 : decode cX5_come 8 = .ok (.iload_n 2, 1) := by decide +kernel
theorem dX5_come_9 : decode cX5_come 9 = .ok (.invokevirtual 135, 3) := by decide +kernel
theorem dX5_come_12 : decode cX5_come 12 = .ok (.ifCond .ne 5, 3) := by decide +kernel
theorem dX5_come_15 : decode cX5_come 15 = .ok (.iconst (-1), 1) := by decide +kernel
theorem dX5_come_16 : decode cX5_come 16 = .ok (.ireturn, 1) := by decide +kernel
theorem dX6_come_0 : decode cX6_come 0 = .ok (.iload_n 1, 1) := by decide +kernel
theorem dX6_come_1 : decode cX6_come 1 = .ok (.invokestatic 143, 3) := by decide +kernel
theorem dX6_come_4 : decode cX6_come 4 = .ok (.ifCond .eq 11, 3) := by decide +kernel
theorem dX6_come_7 : decode cX6_come 7 = .ok (.aload_n 0, 1) := by decide +kernel
theorem dX6_come_8 : decode cX6_come 8 = .ok (.iload_n 2, 1) := by decide +kernel
theorem dX6_come_9 : decode cX6_come 9 = .ok (.invokevirtual 243, 3) := by decide +kernel
theorem dX6_come_12 : decode cX6_come 12 = .ok (.ifCond .ne 5, 3) := by decide +kernel
theorem dX6_come_15 : decode cX6_come 15 = .ok (.iconst (-1), 1) := by decide +kernel
theorem dX6_come_16 : decode cX6_come 16 = .ok (.ireturn, 1) := by decide +kernel
theorem dX5_why_0 : decode cX5_why 0 = .ok (.aload_n 0, 1) := by decide +kernel
theorem dX5_why_1 : decode cX5_why 1 = .ok (.iload_n 1, 1) := by decide +kernel
theorem dX5_why_2 : decode cX5_why 2 = .ok (.invokevirtual 85, 3) := by decide +kernel
theorem dX5_why_5 : decode cX5_why 5 = .ok (.ifCond .eq 18, 3) := by decide +kernel
theorem dX5_why_23 : decode cX5_why 23 = .ok (.iconst (-1), 1) := by decide +kernel
theorem dX5_why_24 : decode cX5_why 24 = .ok (.ireturn, 1) := by decide +kernel
theorem dX6_why_0 : decode cX6_why 0 = .ok (.aload_n 0, 1) := by decide +kernel
theorem dX6_why_1 : decode cX6_why 1 = .ok (.iload_n 1, 1) := by decide +kernel
theorem dX6_why_2 : decode cX6_why 2 = .ok (.invokevirtual 148, 3) := by decide +kernel
theorem dX6_why_5 : decode cX6_why 5 = .ok (.ifCond .eq 28, 3) := by decide +kernel
theorem dX6_why_8 : decode cX6_why 8 = .ok (.iload_n 2, 1) := by decide +kernel
theorem dX6_why_9 : decode cX6_why 9 = .ok (.invokestatic 143, 3) := by decide +kernel
theorem dX6_why_12 : decode cX6_why 12 = .ok (.ifCond .eq 21, 3) := by decide +kernel
theorem dX6_why_15 : decode cX6_why 15 = .ok (.aload_n 0, 1) := by decide +kernel
theorem dX6_why_16 : decode cX6_why 16 = .ok (.iload_n 3, 1) := by decide +kernel
theorem dX6_why_17 : decode cX6_why 17 = .ok (.invokevirtual 243, 3) := by decide +kernel
theorem dX6_why_20 : decode cX6_why 20 = .ok (.ifCond .eq 13, 3) := by decide +kernel
theorem dX6_why_23 : decode cX6_why 23 = .ok (.aload_n 0, 1) := by decide +kernel
theorem dX6_why_24 : decode cX6_why 24 = .ok (.iload_n 1, 1) := by decide +kernel
theorem dX6_why_25 : decode cX6_why 25 = .ok (.iload_n 2, 1) := by decide +kernel
theorem dX6_why_26 : decode cX6_why 26 = .ok (.iload_n 3, 1) := by decide +kernel
theorem dX6_why_27 : decode cX6_why 27 = .ok (.invokevirtual 204, 3) := by decide +kernel
theorem dX6_why_30 : decode cX6_why 30 = .ok (.goto 4, 3) := by decide +kernel
theorem dX6_why_33 : decode cX6_why 33 = .ok (.iconst (-1), 1) := by decide +kernel
theorem dX6_why_34 : decode cX6_why 34 = .ok (.ireturn, 1) := by decide +kernel
theorem dX5_best_0 : decode cX5_best 0 = .ok (.iload_n 1, 1) := by decide +kernel
theorem dX5_best_1 : decode cX5_best 1 = .ok (.invokestatic 61, 3) := by decide +kernel
theorem dX5_best_4 : decode cX5_best 4 = .ok (.ifCond .eq 11, 3) := by decide +kernel
theorem dX5_best_7 : decode cX5_best 7 = .ok (.aload_n 0, 1) := by decide +kernel
theorem dX5_best_8 : decode cX5_best 8 = .ok (.iload_n 2, 1) := by decide +kernel
theorem dX5_best_9 : decode cX5_best 9 = .ok (.invokevirtual 135, 3) := by decide +kernel
theorem dX5_best_12 : decode cX5_best 12 = .ok (.ifCond .ne 7, 3) := by decide +kernel
theorem dX5_best_15 : decode cX5_best 15 = .ok (.ldc2_w 159, 3) := by decide +kernel
theorem dX5_best_18 : decode cX5_best 18 = .ok (.lreturn, 1) := by decide +kernel
theorem dX6_best_0 : decode cX6_best 0 = .ok (.iload_n 1, 1) := by decide +kernel
theorem dX6_best_1 : decode cX6_best 1 = .ok (.invokestatic 143, 3) := by decide +kernel
theorem dX6_best_4 : decode cX6_best 4 = .ok (.ifCond .eq 20, 3) := by decide +kernel
theorem dX6_best_7 : decode cX6_best 7 = .ok (.aload_n 0, 1) := by decide +kernel
theorem dX6_best_8 : decode cX6_best 8 = .ok (.iload_n 2, 1) := by decide +kernel
theorem dX6_best_9 : decode cX6_best 9 = .ok (.invokevirtual 243, 3) := by decide +kernel
theorem dX6_best_12 : decode cX6_best 12 = .ok (.ifCond .eq 12, 3) := by decide +kernel
theorem dX6_best_24 : decode cX6_best 24 = .ok (.ldc2_w 263, 3) := by decide +kernel
theorem dX6_best_27 : decode cX6_best 27 = .ok (.lreturn, 1) := by decide +kernel
theorem dX5_give_0 : decode cX5_give 0 = .ok (.iload_n 1, 1) := by decide +kernel
theorem dX5_give_1 : decode cX5_give 1 = .ok (.invokestatic 61, 3) := by decide +kernel
theorem dX5_give_4 : decode cX5_give 4 = .ok (.ifCond .eq 30, 3) := by decide +kernel
theorem dX5_give_7 : decode cX5_give 7 = .ok (.aload_n 0, 1) := by decide +kernel
theorem dX5_give_8 : decode cX5_give 8 = .ok (.iload_n 2, 1) := by decide +kernel
theorem dX5_give_9 : decode cX5_give 9 = .ok (.invokevirtual 135, 3) := by decide +kernel
theorem dX5_give_12 : decode cX5_give 12 = .ok (.ifCond .eq 22, 3) := by decide +kernel
theorem dX5_give_34 : decode cX5_give 34 = .ok (.iconst (-1), 1) := by decide +kernel
theorem dX5_give_35 : decode cX5_give 35 = .ok (.ireturn, 1) := by decide +kernel
theorem dX6_give_0 : decode cX6_give 0 = .ok (.iload_n 1, 1) := by decide +kernel
theorem dX6_give_1 : decode cX6_give 1 = .ok (.invokestatic 143, 3) := by decide +kernel
theorem dX6_give_4 : decode cX6_give 4 = .ok (.ifCond .eq 27, 3) := by decide +kernel
theorem dX6_give_7 : decode cX6_give 7 = .ok (.aload_n 0, 1) := by decide +kernel
theorem dX6_give_8 : decode cX6_give 8 = .ok (.iload_n 2, 1) := by decide +kernel
theorem dX6_give_9 : decode cX6_give 9 = .ok (.invokevirtual 243, 3) := by decide +kernel
theorem dX6_give_12 : decode cX6_give 12 = .ok (.ifCond .eq 19, 3) := by decide +kernel
theorem dX6_give_31 : decode cX6_give 31 = .ok (.iconst (-1), 1) := by decide +kernel
theorem dX6_give_32 : decode cX6_give 32 = .ok (.ireturn, 1) := by decide +kernel
theorem dX5_sale_0 : decode cX5_sale 0 = .ok (.aload_n 0, 1) := by decide +kernel
theorem dX5_sale_1 : decode cX5_sale 1 = .ok (.iload_n 1, 1) := by decide +kernel
theorem dX5_sale_2 : decode cX5_sale 2 = .ok (.invokevirtual 164, 3) := by decide +kernel
theorem dX5_sale_5 : decode cX5_sale 5 = .ok (.ifCond .ne 5, 3) := by decide +kernel
theorem dX5_sale_8 : decode cX5_sale 8 = .ok (.iconst (-1), 1) := by decide +kernel
theorem dX5_sale_9 : decode cX5_sale 9 = .ok (.ireturn, 1) := by decide +kernel
theorem dX6_sale_0 : decode cX6_sale 0 = .ok (.aload_n 0, 1) := by decide +kernel
theorem dX6_sale_1 : decode cX6_sale 1 = .ok (.iload_n 1, 1) := by decide +kernel
theorem dX6_sale_2 : decode cX6_sale 2 = .ok (.invokevirtual 265, 3) := by decide +kernel
theorem dX6_sale_5 : decode cX6_sale 5 = .ok (.ifCond .ne 5, 3) := by decide +kernel
theorem dX6_sale_8 : decode cX6_sale 8 = .ok (.iconst (-1), 1) := by decide +kernel
theorem dX6_sale_9 : decode cX6_sale 9 = .ok (.ireturn, 1) := by decide +kernel
theorem dX6_sale_10 : decode cX6_sale 10 = .ok (.iload_n 2, 1) := by decide +kernel
theorem dX6_sale_11 : decode cX6_sale 11 = .ok (.tableswitch 90 0 6 #[41, 48, 55, 62, 69, 76, 83], 41) := by decide +kernel
theorem dX6_sale_52 : decode cX6_sale 52 = .ok (.aload_n 0, 1) := by decide +kernel
theorem dX6_sale_53 : decode cX6_sale 53 = .ok (.getfield 69, 3) := by decide +kernel
theorem dX6_sale_56 : decode cX6_sale 56 = .ok (.iload_n 1, 1) := by decide +kernel
theorem dX6_sale_57 : decode cX6_sale 57 = .ok (.iaload, 1) := by decide +kernel
theorem dX6_sale_58 : decode cX6_sale 58 = .ok (.ireturn, 1) := by decide +kernel
theorem dX6_sale_59 : decode cX6_sale 59 = .ok (.aload_n 0, 1) := by decide +kernel
theorem dX6_sale_60 : decode cX6_sale 60 = .ok (.getfield 72, 3) := by decide +kernel
theorem dX6_sale_63 : decode cX6_sale 63 = .ok (.iload_n 1, 1) := by decide +kernel
theorem dX6_sale_64 : decode cX6_sale 64 = .ok (.iaload, 1) := by decide +kernel
theorem dX6_sale_65 : decode cX6_sale 65 = .ok (.ireturn, 1) := by decide +kernel
theorem dX6_sale_66 : decode cX6_sale 66 = .ok (.aload_n 0, 1) := by decide +kernel
theorem dX6_sale_67 : decode cX6_sale 67 = .ok (.getfield 75, 3) := by decide +kernel
theorem dX6_sale_70 : decode cX6_sale 70 = .ok (.iload_n 1, 1) := by decide +kernel
theorem dX6_sale_71 : decode cX6_sale 71 = .ok (.iaload, 1) := by decide +kernel
theorem dX6_sale_72 : decode cX6_sale 72 = .ok (.ireturn, 1) := by decide +kernel
theorem dX6_sale_73 : decode cX6_sale 73 = .ok (.aload_n 0, 1) := by decide +kernel
theorem dX6_sale_74 : decode cX6_sale 74 = .ok (.getfield 78, 3) := by decide +kernel
theorem dX6_sale_77 : decode cX6_sale 77 = .ok (.iload_n 1, 1) := by decide +kernel
theorem dX6_sale_78 : decode cX6_sale 78 = .ok (.iaload, 1) := by decide +kernel
theorem dX6_sale_79 : decode cX6_sale 79 = .ok (.ireturn, 1) := by decide +kernel
theorem dX6_sale_80 : decode cX6_sale 80 = .ok (.aload_n 0, 1) := by decide +kernel
theorem dX6_sale_81 : decode cX6_sale 81 = .ok (.getfield 81, 3) := by decide +kernel
theorem dX6_sale_84 : decode cX6_sale 84 = .ok (.iload_n 1, 1) := by decide +kernel
theorem dX6_sale_85 : decode cX6_sale 85 = .ok (.iaload, 1) := by decide +kernel
theorem dX6_sale_86 : decode cX6_sale 86 = .ok (.ireturn, 1) := by decide +kernel
theorem dX6_sale_87 : decode cX6_sale 87 = .ok (.aload_n 0, 1) := by decide +kernel
theorem dX6_sale_88 : decode cX6_sale 88 = .ok (.getfield 84, 3) := by decide +kernel
theorem dX6_sale_91 : decode cX6_sale 91 = .ok (.iload_n 1, 1) := by decide +kernel
theorem dX6_sale_92 : decode cX6_sale 92 = .ok (.iaload, 1) := by decide +kernel
theorem dX6_sale_93 : decode cX6_sale 93 = .ok (.ireturn, 1) := by decide +kernel
theorem dX6_sale_94 : decode cX6_sale 94 = .ok (.aload_n 0, 1) := by decide +kernel
theorem dX6_sale_95 : decode cX6_sale 95 = .ok (.getfield 87, 3) := by decide +kernel
theorem dX6_sale_98 : decode cX6_sale 98 = .ok (.iload_n 1, 1) := by decide +kernel
theorem dX6_sale_99 : decode cX6_sale 99 = .ok (.iaload, 1) := by decide +kernel
theorem dX6_sale_100 : decode cX6_sale 100 = .ok (.ireturn, 1) := by decide +kernel
theorem dX6_sale_101 : decode cX6_sale 101 = .ok (.iconst (-1), 1) := by decide +kernel
theorem dX6_sale_102 : decode cX6_sale 102 = .ok (.ireturn, 1) := by decide +kernel
theorem dX5_press_0 : decode cX5_press 0 = .ok (.aload_n 0, 1) := by decide +kernel
theorem dX5_press_1 : decode cX5_press 1 = .ok (.iload_n 1, 1) := by decide +kernel
theorem dX5_press_2 : decode cX5_press 2 = .ok (.invokevirtual 164, 3) := by decide +kernel
theorem dX5_press_5 : decode cX5_press 5 = .ok (.ifCond .ne 5, 3) := by decide +kernel
theorem dX5_press_8 : decode cX5_press 8 = .ok (.iconst (-1), 1) := by decide +kernel
theorem dX5_press_9 : decode cX5_press 9 = .ok (.ireturn, 1) := by decide +kernel
theorem dX6_press_0 : decode cX6_press 0 = .ok (.aload_n 0, 1) := by decide +kernel
theorem dX6_press_1 : decode cX6_press 1 = .ok (.iload_n 1, 1) := by decide +kernel
theorem dX6_press_2 : decode cX6_press 2 = .ok (.invokevirtual 265, 3) := by decide +kernel
theorem dX6_press_5 : decode cX6_press 5 = .ok (.ifCond .ne 5, 3) := by decide +kernel
theorem dX6_press_8 : decode cX6_press 8 = .ok (.iconst (-1), 1) := by decide +kernel
theorem dX6_press_9 : decode cX6_press 9 = .ok (.ireturn, 1) := by decide +kernel
theorem dX6_press_10 : decode cX6_press 10 = .ok (.aload_n 0, 1) := by decide +kernel
theorem dX6_press_11 : decode cX6_press 11 = .ok (.getfield 26, 3) := by decide +kernel
theorem dX6_press_14 : decode cX6_press 14 = .ok (.aload_n 0, 1) := by decide +kernel
theorem dX6_press_15 : decode cX6_press 15 = .ok (.getfield 81, 3) := by decide +kernel
theorem dX6_press_18 : decode cX6_press 18 = .ok (.iload_n 1, 1) := by decide +kernel
theorem dX6_press_19 : decode cX6_press 19 = .ok (.iaload, 1) := by decide +kernel
theorem dX6_press_20 : decode cX6_press 20 = .ok (.iaload, 1) := by decide +kernel
theorem dX6_press_21 : decode cX6_press 21 = .ok (.iconst 1, 1) := by decide +kernel
theorem dX6_press_22 : decode cX6_press 22 = .ok (.if_icmp .ne 21, 3) := by decide +kernel
theorem dX6_press_25 : decode cX6_press 25 = .ok (.aload_n 0, 1) := by decide +kernel
theorem dX6_press_26 : decode cX6_press 26 = .ok (.getfield 87, 3) := by decide +kernel
theorem dX6_press_29 : decode cX6_press 29 = .ok (.iload_n 1, 1) := by decide +kernel
theorem dX6_press_30 : decode cX6_press 30 = .ok (.iaload, 1) := by decide +kernel
theorem dX6_press_31 : decode cX6_press 31 = .ok (.iconst 1, 1) := by decide +kernel
theorem dX6_press_32 : decode cX6_press 32 = .ok (.if_icmp .ne 7, 3) := by decide +kernel
theorem dX6_press_35 : decode cX6_press 35 = .ok (.iconst 1, 1) := by decide +kernel
theorem dX6_press_36 : decode cX6_press 36 = .ok (.goto 41, 3) := by decide +kernel
theorem dX6_press_39 : decode cX6_press 39 = .ok (.iconst 0, 1) := by decide +kernel
theorem dX6_press_40 : decode cX6_press 40 = .ok (.goto 37, 3) := by decide +kernel
theorem dX6_press_43 : decode cX6_press 43 = .ok (.aload_n 0, 1) := by decide +kernel
theorem dX6_press_44 : decode cX6_press 44 = .ok (.getfield 87, 3) := by decide +kernel
theorem dX6_press_47 : decode cX6_press 47 = .ok (.iload_n 1, 1) := by decide +kernel
theorem dX6_press_48 : decode cX6_press 48 = .ok (.iaload, 1) := by decide +kernel
theorem dX6_press_49 : decode cX6_press 49 = .ok (.ifCond .ne 27, 3) := by decide +kernel
theorem dX6_press_52 : decode cX6_press 52 = .ok (.aload_n 0, 1) := by decide +kernel
theorem dX6_press_53 : decode cX6_press 53 = .ok (.getfield 152, 3) := by decide +kernel
theorem dX6_press_56 : decode cX6_press 56 = .ok (.aload_n 0, 1) := by decide +kernel
theorem dX6_press_57 : decode cX6_press 57 = .ok (.getfield 69, 3) := by decide +kernel
theorem dX6_press_60 : decode cX6_press 60 = .ok (.iload_n 1, 1) := by decide +kernel
theorem dX6_press_61 : decode cX6_press 61 = .ok (.iaload, 1) := by decide +kernel
theorem dX6_press_62 : decode cX6_press 62 = .ok (.aload_n 0, 1) := by decide +kernel
theorem dX6_press_63 : decode cX6_press 63 = .ok (.getfield 90, 3) := by decide +kernel
theorem dX6_press_66 : decode cX6_press 66 = .ok (.iload_n 1, 1) := by decide +kernel
theorem dX6_press_67 : decode cX6_press 67 = .ok (.iaload, 1) := by decide +kernel
theorem dX6_press_68 : decode cX6_press 68 = .ok (.iadd, 1) := by decide +kernel
theorem dX6_press_69 : decode cX6_press 69 = .ok (.if_icmp .gt 7, 3) := by decide +kernel
theorem dX6_press_72 : decode cX6_press 72 = .ok (.iconst 1, 1) := by decide +kernel
theorem dX6_press_73 : decode cX6_press 73 = .ok (.goto 4, 3) := by decide +kernel
theorem dX6_press_76 : decode cX6_press 76 = .ok (.iconst 0, 1) := by decide +kernel
theorem dX6_press_77 : decode cX6_press 77 = .ok (.istore_n 2, 1) := by decide +kernel
theorem dX6_press_78 : decode cX6_press 78 = .ok (.iload_n 2, 1) := by decide +kernel
theorem dX6_press_79 : decode cX6_press 79 = .ok (.ifCond .ne 6, 3) := by decide +kernel
theorem dX6_press_82 : decode cX6_press 82 = .ok (.bipush (-2), 2) := by decide +kernel
theorem dX6_press_84 : decode cX6_press 84 = .ok (.ireturn, 1) := by decide +kernel
theorem dX6_press_85 : decode cX6_press 85 = .ok (.aload_n 0, 1) := by decide +kernel
theorem dX6_press_86 : decode cX6_press 86 = .ok (.getfield 87, 3) := by decide +kernel
theorem dX6_press_89 : decode cX6_press 89 = .ok (.iload_n 1, 1) := by decide +kernel
theorem dX6_press_90 : decode cX6_press 90 = .ok (.iconst 2, 1) := by decide +kernel
theorem dX6_press_91 : decode cX6_press 91 = .ok (.iastore, 1) := by decide +kernel
theorem dX6_press_92 : decode cX6_press 92 = .ok (.aload_n 0, 1) := by decide +kernel
theorem dX6_press_93 : decode cX6_press 93 = .ok (.getfield 93, 3) := by decide +kernel
theorem dX6_press_96 : decode cX6_press 96 = .ok (.iload_n 1, 1) := by decide +kernel
theorem dX6_press_97 : decode cX6_press 97 = .ok (.aload_n 0, 1) := by decide +kernel
theorem dX6_press_98 : decode cX6_press 98 = .ok (.getfield 152, 3) := by decide +kernel
theorem dX6_press_101 : decode cX6_press 101 = .ok (.iastore, 1) := by decide +kernel
theorem dX6_press_102 : decode cX6_press 102 = .ok (.iconst 1, 1) := by decide +kernel
theorem dX6_press_103 : decode cX6_press 103 = .ok (.ireturn, 1) := by decide +kernel
theorem dX5_refund_0 : decode cX5_refund 0 = .ok (.aload_n 0, 1) := by decide +kernel
theorem dX5_refund_1 : decode cX5_refund 1 = .ok (.iload_n 1, 1) := by decide +kernel
theorem dX5_refund_2 : decode cX5_refund 2 = .ok (.invokevirtual 164, 3) := by decide +kernel
theorem dX5_refund_5 : decode cX5_refund 5 = .ok (.ifCond .ne 5, 3) := by decide +kernel
theorem dX5_refund_8 : decode cX5_refund 8 = .ok (.iconst (-1), 1) := by decide +kernel
theorem dX5_refund_9 : decode cX5_refund 9 = .ok (.ireturn, 1) := by decide +kernel
theorem dX6_refund_0 : decode cX6_refund 0 = .ok (.aload_n 0, 1) := by decide +kernel
theorem dX6_refund_1 : decode cX6_refund 1 = .ok (.iload_n 1, 1) := by decide +kernel
theorem dX6_refund_2 : decode cX6_refund 2 = .ok (.invokevirtual 265, 3) := by decide +kernel
theorem dX6_refund_5 : decode cX6_refund 5 = .ok (.ifCond .ne 5, 3) := by decide +kernel
theorem dX6_refund_8 : decode cX6_refund 8 = .ok (.iconst (-1), 1) := by decide +kernel
theorem dX6_refund_9 : decode cX6_refund 9 = .ok (.ireturn, 1) := by decide +kernel
theorem dX6_refund_10 : decode cX6_refund 10 = .ok (.aload_n 0, 1) := by decide +kernel
theorem dX6_refund_11 : decode cX6_refund 11 = .ok (.getfield 87, 3) := by decide +kernel
theorem dX6_refund_14 : decode cX6_refund 14 = .ok (.iload_n 1, 1) := by decide +kernel
theorem dX6_refund_15 : decode cX6_refund 15 = .ok (.iaload, 1) := by decide +kernel
theorem dX6_refund_16 : decode cX6_refund 16 = .ok (.iconst 3, 1) := by decide +kernel
theorem dX6_refund_17 : decode cX6_refund 17 = .ok (.if_icmp .ne 6, 3) := by decide +kernel
theorem dX6_refund_20 : decode cX6_refund 20 = .ok (.bipush (-2), 2) := by decide +kernel
theorem dX6_refund_22 : decode cX6_refund 22 = .ok (.ireturn, 1) := by decide +kernel
theorem dX6_refund_23 : decode cX6_refund 23 = .ok (.aload_n 0, 1) := by decide +kernel
theorem dX6_refund_24 : decode cX6_refund 24 = .ok (.iload_n 1, 1) := by decide +kernel
theorem dX6_refund_25 : decode cX6_refund 25 = .ok (.iconst 0, 1) := by decide +kernel
theorem dX6_refund_26 : decode cX6_refund 26 = .ok (.invokevirtual 164, 3) := by decide +kernel
theorem dX6_refund_29 : decode cX6_refund 29 = .ok (.istore_n 2, 1) := by decide +kernel
theorem dX6_refund_30 : decode cX6_refund 30 = .ok (.aload_n 0, 1) := by decide +kernel
theorem dX6_refund_31 : decode cX6_refund 31 = .ok (.getfield 87, 3) := by decide +kernel
theorem dX6_refund_34 : decode cX6_refund 34 = .ok (.iload_n 1, 1) := by decide +kernel
theorem dX6_refund_35 : decode cX6_refund 35 = .ok (.iconst 3, 1) := by decide +kernel
theorem dX6_refund_36 : decode cX6_refund 36 = .ok (.iastore, 1) := by decide +kernel
theorem dX6_refund_37 : decode cX6_refund 37 = .ok (.iload_n 2, 1) := by decide +kernel
theorem dX6_refund_38 : decode cX6_refund 38 = .ok (.ireturn, 1) := by decide +kernel
theorem dX5_told_0 : decode cX5_told 0 = .ok (.aload_n 0, 1) := by decide +kernel
theorem dX5_told_1 : decode cX5_told 1 = .ok (.iload_n 1, 1) := by decide +kernel
theorem dX5_told_2 : decode cX5_told 2 = .ok (.invokevirtual 85, 3) := by decide +kernel
theorem dX5_told_5 : decode cX5_told 5 = .ok (.ifCond .ne 6, 3) := by decide +kernel
theorem dX5_told_8 : decode cX5_told 8 = .ok (.ldc 229, 2) := by decide +kernel
theorem dX5_told_10 : decode cX5_told 10 = .ok (.ireturn, 1) := by decide +kernel
theorem dX6_told_0 : decode cX6_told 0 = .ok (.aload_n 0, 1) := by decide +kernel
theorem dX6_told_1 : decode cX6_told 1 = .ok (.iload_n 1, 1) := by decide +kernel
theorem dX6_told_2 : decode cX6_told 2 = .ok (.invokevirtual 148, 3) := by decide +kernel
theorem dX6_told_5 : decode cX6_told 5 = .ok (.ifCond .ne 7, 3) := by decide +kernel
theorem dX6_told_8 : decode cX6_told 8 = .ok (.ldc_w 268, 3) := by decide +kernel
theorem dX6_told_11 : decode cX6_told 11 = .ok (.ireturn, 1) := by decide +kernel
theorem dX6_told_12 : decode cX6_told 12 = .ok (.iload_n 2, 1) := by decide +kernel
theorem dX6_told_13 : decode cX6_told 13 = .ok (.tableswitch 178 0 9 #[55, 64, 79, 88, 97, 106, 113, 127, 145, 163], 55) := by decide +kernel
theorem dX6_told_68 : decode cX6_told 68 = .ok (.aload_n 0, 1) := by decide +kernel
theorem dX6_told_69 : decode cX6_told 69 = .ok (.iload_n 1, 1) := by decide +kernel
theorem dX6_told_70 : decode cX6_told 70 = .ok (.iconst (-1), 1) := by decide +kernel
theorem dX6_told_71 : decode cX6_told 71 = .ok (.iconst 1, 1) := by decide +kernel
theorem dX6_told_72 : decode cX6_told 72 = .ok (.iconst 0, 1) := by decide +kernel
theorem dX6_told_73 : decode cX6_told 73 = .ok (.invokevirtual 168, 3) := by decide +kernel
theorem dX6_told_76 : decode cX6_told 76 = .ok (.ireturn, 1) := by decide +kernel
theorem dX6_told_77 : decode cX6_told 77 = .ok (.aload_n 0, 1) := by decide +kernel
theorem dX6_told_78 : decode cX6_told 78 = .ok (.iload_n 1, 1) := by decide +kernel
theorem dX6_told_79 : decode cX6_told 79 = .ok (.aload_n 0, 1) := by decide +kernel
theorem dX6_told_80 : decode cX6_told 80 = .ok (.getfield 152, 3) := by decide +kernel
theorem dX6_told_83 : decode cX6_told 83 = .ok (.bipush 100, 2) := by decide +kernel
theorem dX6_told_85 : decode cX6_told 85 = .ok (.idiv, 1) := by decide +kernel
theorem dX6_told_86 : decode cX6_told 86 = .ok (.iconst 1, 1) := by decide +kernel
theorem dX6_told_87 : decode cX6_told 87 = .ok (.iconst 1, 1) := by decide +kernel
theorem dX6_told_88 : decode cX6_told 88 = .ok (.invokevirtual 168, 3) := by decide +kernel
theorem dX6_told_91 : decode cX6_told 91 = .ok (.ireturn, 1) := by decide +kernel
theorem dX6_told_92 : decode cX6_told 92 = .ok (.aload_n 0, 1) := by decide +kernel
theorem dX6_told_93 : decode cX6_told 93 = .ok (.iload_n 1, 1) := by decide +kernel
theorem dX6_told_94 : decode cX6_told 94 = .ok (.iconst (-1), 1) := by decide +kernel
theorem dX6_told_95 : decode cX6_told 95 = .ok (.iconst 0, 1) := by decide +kernel
theorem dX6_told_96 : decode cX6_told 96 = .ok (.iconst 1, 1) := by decide +kernel
theorem dX6_told_97 : decode cX6_told 97 = .ok (.invokevirtual 168, 3) := by decide +kernel
theorem dX6_told_100 : decode cX6_told 100 = .ok (.ireturn, 1) := by decide +kernel
theorem dX6_told_101 : decode cX6_told 101 = .ok (.aload_n 0, 1) := by decide +kernel
theorem dX6_told_102 : decode cX6_told 102 = .ok (.iload_n 1, 1) := by decide +kernel
theorem dX6_told_103 : decode cX6_told 103 = .ok (.sipush 10001, 3) := by decide +kernel
theorem dX6_told_106 : decode cX6_told 106 = .ok (.invokevirtual 172, 3) := by decide +kernel
theorem dX6_told_109 : decode cX6_told 109 = .ok (.ireturn, 1) := by decide +kernel
theorem dX6_told_110 : decode cX6_told 110 = .ok (.aload_n 0, 1) := by decide +kernel
theorem dX6_told_111 : decode cX6_told 111 = .ok (.iload_n 1, 1) := by decide +kernel
theorem dX6_told_112 : decode cX6_told 112 = .ok (.sipush 10001, 3) := by decide +kernel
theorem dX6_told_115 : decode cX6_told 115 = .ok (.invokevirtual 190, 3) := by decide +kernel
theorem dX6_told_118 : decode cX6_told 118 = .ok (.ireturn, 1) := by decide +kernel
theorem dX6_told_119 : decode cX6_told 119 = .ok (.aload_n 0, 1) := by decide +kernel
theorem dX6_told_120 : decode cX6_told 120 = .ok (.getfield 50, 3) := by decide +kernel
theorem dX6_told_123 : decode cX6_told 123 = .ok (.iload_n 1, 1) := by decide +kernel
theorem dX6_told_124 : decode cX6_told 124 = .ok (.iaload, 1) := by decide +kernel
theorem dX6_told_125 : decode cX6_told 125 = .ok (.ireturn, 1) := by decide +kernel
theorem dX6_told_126 : decode cX6_told 126 = .ok (.aload_n 0, 1) := by decide +kernel
theorem dX6_told_127 : decode cX6_told 127 = .ok (.iload_n 1, 1) := by decide +kernel
theorem dX6_told_128 : decode cX6_told 128 = .ok (.invokevirtual 193, 3) := by decide +kernel
theorem dX6_told_131 : decode cX6_told 131 = .ok (.ifCond .eq 7, 3) := by decide +kernel
theorem dX6_told_134 : decode cX6_told 134 = .ok (.iconst 1, 1) := by decide +kernel
theorem dX6_told_135 : decode cX6_told 135 = .ok (.goto 4, 3) := by decide +kernel
theorem dX6_told_138 : decode cX6_told 138 = .ok (.iconst 0, 1) := by decide +kernel
theorem dX6_told_139 : decode cX6_told 139 = .ok (.ireturn, 1) := by decide +kernel
theorem dX6_told_140 : decode cX6_told 140 = .ok (.aload_n 0, 1) := by decide +kernel
theorem dX6_told_141 : decode cX6_told 141 = .ok (.iload_n 1, 1) := by decide +kernel
theorem dX6_told_142 : decode cX6_told 142 = .ok (.invokevirtual 178, 3) := by decide +kernel
theorem dX6_told_145 : decode cX6_told 145 = .ok (.ifCond .ge 7, 3) := by decide +kernel
theorem dX6_told_148 : decode cX6_told 148 = .ok (.iconst 0, 1) := by decide +kernel
theorem dX6_told_149 : decode cX6_told 149 = .ok (.goto 8, 3) := by decide +kernel
theorem dX6_told_152 : decode cX6_told 152 = .ok (.aload_n 0, 1) := by decide +kernel
theorem dX6_told_153 : decode cX6_told 153 = .ok (.iload_n 1, 1) := by decide +kernel
theorem dX6_told_154 : decode cX6_told 154 = .ok (.invokevirtual 178, 3) := by decide +kernel
theorem dX6_told_157 : decode cX6_told 157 = .ok (.ireturn, 1) := by decide +kernel
theorem dX6_told_158 : decode cX6_told 158 = .ok (.aload_n 0, 1) := by decide +kernel
theorem dX6_told_159 : decode cX6_told 159 = .ok (.iload_n 1, 1) := by decide +kernel
theorem dX6_told_160 : decode cX6_told 160 = .ok (.invokevirtual 182, 3) := by decide +kernel
theorem dX6_told_163 : decode cX6_told 163 = .ok (.ifCond .ge 7, 3) := by decide +kernel
theorem dX6_told_166 : decode cX6_told 166 = .ok (.iconst 0, 1) := by decide +kernel
theorem dX6_told_167 : decode cX6_told 167 = .ok (.goto 8, 3) := by decide +kernel
theorem dX6_told_170 : decode cX6_told 170 = .ok (.aload_n 0, 1) := by decide +kernel
theorem dX6_told_171 : decode cX6_told 171 = .ok (.iload_n 1, 1) := by decide +kernel
theorem dX6_told_172 : decode cX6_told 172 = .ok (.invokevirtual 182, 3) := by decide +kernel
theorem dX6_told_175 : decode cX6_told 175 = .ok (.ireturn, 1) := by decide +kernel
theorem dX6_told_176 : decode cX6_told 176 = .ok (.aload_n 0, 1) := by decide +kernel
theorem dX6_told_177 : decode cX6_told 177 = .ok (.getfield 53, 3) := by decide +kernel
theorem dX6_told_180 : decode cX6_told 180 = .ok (.iload_n 1, 1) := by decide +kernel
theorem dX6_told_181 : decode cX6_told 181 = .ok (.baload, 1) := by decide +kernel
theorem dX6_told_182 : decode cX6_told 182 = .ok (.ifCond .eq 7, 3) := by decide +kernel
theorem dX6_told_185 : decode cX6_told 185 = .ok (.iconst 1, 1) := by decide +kernel
theorem dX6_told_186 : decode cX6_told 186 = .ok (.goto 4, 3) := by decide +kernel
theorem dX6_told_189 : decode cX6_told 189 = .ok (.iconst 0, 1) := by decide +kernel
theorem dX6_told_190 : decode cX6_told 190 = .ok (.ireturn, 1) := by decide +kernel
theorem dX6_told_191 : decode cX6_told 191 = .ok (.ldc_w 268, 3) := by decide +kernel
theorem dX6_told_194 : decode cX6_told 194 = .ok (.ireturn, 1) := by decide +kernel
theorem dX5_chance_0 : decode cX5_chance 0 = .ok (.aload_n 0, 1) := by decide +kernel
theorem dX5_chance_1 : decode cX5_chance 1 = .ok (.iload_n 1, 1) := by decide +kernel
theorem dX5_chance_2 : decode cX5_chance 2 = .ok (.invokevirtual 85, 3) := by decide +kernel
theorem dX5_chance_5 : decode cX5_chance 5 = .ok (.ifCond .ne 5, 3) := by decide +kernel
theorem dX5_chance_8 : decode cX5_chance 8 = .ok (.iconst (-1), 1) := by decide +kernel
theorem dX5_chance_9 : decode cX5_chance 9 = .ok (.ireturn, 1) := by decide +kernel
theorem dX6_chance_0 : decode cX6_chance 0 = .ok (.aload_n 0, 1) := by decide +kernel
theorem dX6_chance_1 : decode cX6_chance 1 = .ok (.iload_n 1, 1) := by decide +kernel
theorem dX6_chance_2 : decode cX6_chance 2 = .ok (.invokevirtual 148, 3) := by decide +kernel
theorem dX6_chance_5 : decode cX6_chance 5 = .ok (.ifCond .eq 37, 3) := by decide +kernel
theorem dX6_chance_8 : decode cX6_chance 8 = .ok (.aload_n 0, 1) := by decide +kernel
theorem dX6_chance_9 : decode cX6_chance 9 = .ok (.iload_n 1, 1) := by decide +kernel
theorem dX6_chance_10 : decode cX6_chance 10 = .ok (.aload_n 0, 1) := by decide +kernel
theorem dX6_chance_11 : decode cX6_chance 11 = .ok (.getfield 152, 3) := by decide +kernel
theorem dX6_chance_14 : decode cX6_chance 14 = .ok (.invokevirtual 190, 3) := by decide +kernel
theorem dX6_chance_17 : decode cX6_chance 17 = .ok (.iconst 1, 1) := by decide +kernel
theorem dX6_chance_18 : decode cX6_chance 18 = .ok (.iadd, 1) := by decide +kernel
theorem dX6_chance_19 : decode cX6_chance 19 = .ok (.i2l, 1) := by decide +kernel
theorem dX6_chance_20 : decode cX6_chance 20 = .ok (.ldc2_w 261, 3) := by decide +kernel
theorem dX6_chance_23 : decode cX6_chance 23 = .ok (.lmul, 1) := by decide +kernel
theorem dX6_chance_24 : decode cX6_chance 24 = .ok (.aload_n 0, 1) := by decide +kernel
theorem dX6_chance_25 : decode cX6_chance 25 = .ok (.iload_n 1, 1) := by decide +kernel
theorem dX6_chance_26 : decode cX6_chance 26 = .ok (.aload_n 0, 1) := by decide +kernel
theorem dX6_chance_27 : decode cX6_chance 27 = .ok (.getfield 152, 3) := by decide +kernel
theorem dX6_chance_30 : decode cX6_chance 30 = .ok (.invokevirtual 172, 3) := by decide +kernel
theorem dX6_chance_33 : decode cX6_chance 33 = .ok (.bipush 20, 2) := by decide +kernel
theorem dX6_chance_35 : decode cX6_chance 35 = .ok (.iadd, 1) := by decide +kernel
theorem dX6_chance_36 : decode cX6_chance 36 = .ok (.i2l, 1) := by decide +kernel
theorem dX6_chance_37 : decode cX6_chance 37 = .ok (.ldiv, 1) := by decide +kernel
theorem dX6_chance_38 : decode cX6_chance 38 = .ok (.l2i, 1) := by decide +kernel
theorem dX6_chance_39 : decode cX6_chance 39 = .ok (.goto 4, 3) := by decide +kernel
theorem dX6_chance_42 : decode cX6_chance 42 = .ok (.iconst (-1), 1) := by decide +kernel
theorem dX6_chance_43 : decode cX6_chance 43 = .ok (.ireturn, 1) := by decide +kernel
theorem dX5_draw_0 : decode cX5_draw 0 = .ok (.aload_n 0, 1) := by decide +kernel
theorem dX5_draw_1 : decode cX5_draw 1 = .ok (.iload_n 1, 1) := by decide +kernel
theorem dX5_draw_2 : decode cX5_draw 2 = .ok (.invokevirtual 85, 3) := by decide +kernel
theorem dX5_draw_5 : decode cX5_draw 5 = .ok (.ifCond .eq 10, 3) := by decide +kernel
theorem dX5_draw_15 : decode cX5_draw 15 = .ok (.iconst (-1), 1) := by decide +kernel
theorem dX5_draw_16 : decode cX5_draw 16 = .ok (.ireturn, 1) := by decide +kernel
theorem dX6_draw_0 : decode cX6_draw 0 = .ok (.aload_n 0, 1) := by decide +kernel
theorem dX6_draw_1 : decode cX6_draw 1 = .ok (.iload_n 1, 1) := by decide +kernel
theorem dX6_draw_2 : decode cX6_draw 2 = .ok (.invokevirtual 148, 3) := by decide +kernel
theorem dX6_draw_5 : decode cX6_draw 5 = .ok (.ifCond .eq 19, 3) := by decide +kernel
theorem dX6_draw_8 : decode cX6_draw 8 = .ok (.iload_n 2, 1) := by decide +kernel
theorem dX6_draw_9 : decode cX6_draw 9 = .ok (.invokestatic 143, 3) := by decide +kernel
theorem dX6_draw_12 : decode cX6_draw 12 = .ok (.ifCond .eq 12, 3) := by decide +kernel
theorem dX6_draw_15 : decode cX6_draw 15 = .ok (.aload_n 0, 1) := by decide +kernel
theorem dX6_draw_16 : decode cX6_draw 16 = .ok (.iload_n 1, 1) := by decide +kernel
theorem dX6_draw_17 : decode cX6_draw 17 = .ok (.iload_n 2, 1) := by decide +kernel
theorem dX6_draw_18 : decode cX6_draw 18 = .ok (.invokevirtual 185, 3) := by decide +kernel
theorem dX6_draw_21 : decode cX6_draw 21 = .ok (.goto 4, 3) := by decide +kernel
theorem dX6_draw_24 : decode cX6_draw 24 = .ok (.iconst (-1), 1) := by decide +kernel
theorem dX6_draw_25 : decode cX6_draw 25 = .ok (.ireturn, 1) := by decide +kernel
theorem dX5_income_0 : decode cX5_income 0 = .ok (.aload_n 0, 1) := by decide +kernel
theorem dX5_income_1 : decode cX5_income 1 = .ok (.iload_n 1, 1) := by decide +kernel
theorem dX5_income_2 : decode cX5_income 2 = .ok (.invokevirtual 135, 3) := by decide +kernel
theorem dX5_income_5 : decode cX5_income 5 = .ok (.ifCond .ne 5, 3) := by decide +kernel
theorem dX5_income_8 : decode cX5_income 8 = .ok (.iconst (-1), 1) := by decide +kernel
theorem dX5_income_9 : decode cX5_income 9 = .ok (.ireturn, 1) := by decide +kernel
theorem dX6_income_0 : decode cX6_income 0 = .ok (.aload_n 0, 1) := by decide +kernel
theorem dX6_income_1 : decode cX6_income 1 = .ok (.iload_n 1, 1) := by decide +kernel
theorem dX6_income_2 : decode cX6_income 2 = .ok (.invokevirtual 243, 3) := by decide +kernel
theorem dX6_income_5 : decode cX6_income 5 = .ok (.ifCond .ne 5, 3) := by decide +kernel
theorem dX6_income_8 : decode cX6_income 8 = .ok (.iconst (-1), 1) := by decide +kernel
theorem dX6_income_9 : decode cX6_income 9 = .ok (.ireturn, 1) := by decide +kernel
theorem dX6_income_10 : decode cX6_income 10 = .ok (.iconst 0, 1) := by decide +kernel
theorem dX6_income_11 : decode cX6_income 11 = .ok (.istore_n 2, 1) := by decide +kernel
theorem dX6_income_12 : decode cX6_income 12 = .ok (.iconst 0, 1) := by decide +kernel
theorem dX6_income_13 : decode cX6_income 13 = .ok (.istore_n 3, 1) := by decide +kernel
theorem dX6_income_14 : decode cX6_income 14 = .ok (.iload_n 3, 1) := by decide +kernel
theorem dX6_income_15 : decode cX6_income 15 = .ok (.aload_n 0, 1) := by decide +kernel
theorem dX6_income_16 : decode cX6_income 16 = .ok (.getfield 161, 3) := by decide +kernel
theorem dX6_income_19 : decode cX6_income 19 = .ok (.if_icmp .ge 32, 3) := by decide +kernel
theorem dX6_income_22 : decode cX6_income 22 = .ok (.iload_n 2, 1) := by decide +kernel
theorem dX6_income_23 : decode cX6_income 23 = .ok (.aload_n 0, 1) := by decide +kernel
theorem dX6_income_24 : decode cX6_income 24 = .ok (.getfield 75, 3) := by decide +kernel
theorem dX6_income_27 : decode cX6_income 27 = .ok (.iload_n 3, 1) := by decide +kernel
theorem dX6_income_28 : decode cX6_income 28 = .ok (.iaload, 1) := by decide +kernel
theorem dX6_income_29 : decode cX6_income 29 = .ok (.iload_n 1, 1) := by decide +kernel
theorem dX6_income_30 : decode cX6_income 30 = .ok (.if_icmp .ne 12, 3) := by decide +kernel
theorem dX6_income_33 : decode cX6_income 33 = .ok (.aload_n 0, 1) := by decide +kernel
theorem dX6_income_34 : decode cX6_income 34 = .ok (.iload_n 3, 1) := by decide +kernel
theorem dX6_income_35 : decode cX6_income 35 = .ok (.iconst 0, 1) := by decide +kernel
theorem dX6_income_36 : decode cX6_income 36 = .ok (.invokevirtual 164, 3) := by decide +kernel
theorem dX6_income_39 : decode cX6_income 39 = .ok (.goto 4, 3) := by decide +kernel
theorem dX6_income_42 : decode cX6_income 42 = .ok (.iconst 0, 1) := by decide +kernel
theorem dX6_income_43 : decode cX6_income 43 = .ok (.iadd, 1) := by decide +kernel
theorem dX6_income_44 : decode cX6_income 44 = .ok (.istore_n 2, 1) := by decide +kernel
theorem dX6_income_45 : decode cX6_income 45 = .ok (.iinc 3 1, 3) := by decide +kernel
theorem dX6_income_48 : decode cX6_income 48 = .ok (.goto (-34), 3) := by decide +kernel
theorem dX6_income_51 : decode cX6_income 51 = .ok (.iload_n 2, 1) := by decide +kernel
theorem dX6_income_52 : decode cX6_income 52 = .ok (.ireturn, 1) := by decide +kernel
theorem dX6_marks_0 : decode cX6_marks 0 = .ok (.iload_n 1, 1) := by decide +kernel
theorem dX6_marks_1 : decode cX6_marks 1 = .ok (.invokestatic 143, 3) := by decide +kernel
theorem dX6_marks_4 : decode cX6_marks 4 = .ok (.ifCond .eq 14, 3) := by decide +kernel
theorem dX6_marks_7 : decode cX6_marks 7 = .ok (.iload_n 2, 1) := by decide +kernel
theorem dX6_marks_8 : decode cX6_marks 8 = .ok (.iconst 0, 1) := by decide +kernel
theorem dX6_marks_9 : decode cX6_marks 9 = .ok (.sipush 4095, 3) := by decide +kernel
theorem dX6_marks_12 : decode cX6_marks 12 = .ok (.invokestatic 136, 3) := by decide +kernel
theorem dX6_marks_15 : decode cX6_marks 15 = .ok (.ifCond .ne 5, 3) := by decide +kernel
theorem dX6_marks_18 : decode cX6_marks 18 = .ok (.iconst (-1), 1) := by decide +kernel
theorem dX6_marks_19 : decode cX6_marks 19 = .ok (.ireturn, 1) := by decide +kernel
theorem dX6_marks_20 : decode cX6_marks 20 = .ok (.aload_n 0, 1) := by decide +kernel
theorem dX6_marks_21 : decode cX6_marks 21 = .ok (.getfield 20, 3) := by decide +kernel
theorem dX6_marks_24 : decode cX6_marks 24 = .ok (.iload_n 1, 1) := by decide +kernel
theorem dX6_marks_25 : decode cX6_marks 25 = .ok (.iaload, 1) := by decide +kernel
theorem dX6_marks_26 : decode cX6_marks 26 = .ok (.istore_n 3, 1) := by decide +kernel
theorem dX6_marks_27 : decode cX6_marks 27 = .ok (.aload_n 0, 1) := by decide +kernel
theorem dX6_marks_28 : decode cX6_marks 28 = .ok (.getfield 20, 3) := by decide +kernel
theorem dX6_marks_31 : decode cX6_marks 31 = .ok (.iload_n 1, 1) := by decide +kernel
theorem dX6_marks_32 : decode cX6_marks 32 = .ok (.iload_n 2, 1) := by decide +kernel
theorem dX6_marks_33 : decode cX6_marks 33 = .ok (.iastore, 1) := by decide +kernel
theorem dX6_marks_34 : decode cX6_marks 34 = .ok (.iload_n 3, 1) := by decide +kernel
theorem dX6_marks_35 : decode cX6_marks 35 = .ok (.ireturn, 1) := by decide +kernel
theorem dX6_rule_0 : decode cX6_rule 0 = .ok (.iload_n 1, 1) := by decide +kernel
theorem dX6_rule_1 : decode cX6_rule 1 = .ok (.iconst 0, 1) := by decide +kernel
theorem dX6_rule_2 : decode cX6_rule 2 = .ok (.iconst 1, 1) := by decide +kernel
theorem dX6_rule_3 : decode cX6_rule 3 = .ok (.invokestatic 136, 3) := by decide +kernel
theorem dX6_rule_6 : decode cX6_rule 6 = .ok (.ifCond .ne 5, 3) := by decide +kernel
theorem dX6_rule_9 : decode cX6_rule 9 = .ok (.iconst (-1), 1) := by decide +kernel
theorem dX6_rule_10 : decode cX6_rule 10 = .ok (.ireturn, 1) := by decide +kernel
theorem dX6_rule_11 : decode cX6_rule 11 = .ok (.aload_n 0, 1) := by decide +kernel
theorem dX6_rule_12 : decode cX6_rule 12 = .ok (.getfield 155, 3) := by decide +kernel
theorem dX6_rule_15 : decode cX6_rule 15 = .ok (.istore_n 2, 1) := by decide +kernel
theorem dX6_rule_16 : decode cX6_rule 16 = .ok (.aload_n 0, 1) := by decide +kernel
theorem dX6_rule_17 : decode cX6_rule 17 = .ok (.iload_n 1, 1) := by decide +kernel
theorem dX6_rule_18 : decode cX6_rule 18 = .ok (.putfield 155, 3) := by decide +kernel
theorem dX6_rule_21 : decode cX6_rule 21 = .ok (.iload_n 2, 1) := by decide +kernel
theorem dX6_rule_22 : decode cX6_rule 22 = .ok (.ireturn, 1) := by decide +kernel
theorem dX6_pace_0 : decode cX6_pace 0 = .ok (.iload_n 1, 1) := by decide +kernel
theorem dX6_pace_1 : decode cX6_pace 1 = .ok (.ifCond .eq 14, 3) := by decide +kernel
theorem dX6_pace_4 : decode cX6_pace 4 = .ok (.iload_n 1, 1) := by decide +kernel
theorem dX6_pace_5 : decode cX6_pace 5 = .ok (.bipush 10, 2) := by decide +kernel
theorem dX6_pace_7 : decode cX6_pace 7 = .ok (.bipush 100, 2) := by decide +kernel
theorem dX6_pace_9 : decode cX6_pace 9 = .ok (.invokestatic 136, 3) := by decide +kernel
theorem dX6_pace_12 : decode cX6_pace 12 = .ok (.ifCond .eq 14, 3) := by decide +kernel
theorem dX6_pace_15 : decode cX6_pace 15 = .ok (.iload_n 2, 1) := by decide +kernel
theorem dX6_pace_16 : decode cX6_pace 16 = .ok (.iconst 1, 1) := by decide +kernel
theorem dX6_pace_17 : decode cX6_pace 17 = .ok (.sipush 200, 3) := by decide +kernel
theorem dX6_pace_20 : decode cX6_pace 20 = .ok (.invokestatic 136, 3) := by decide +kernel
theorem dX6_pace_23 : decode cX6_pace 23 = .ok (.ifCond .ne 5, 3) := by decide +kernel
theorem dX6_pace_26 : decode cX6_pace 26 = .ok (.iconst (-1), 1) := by decide +kernel
theorem dX6_pace_27 : decode cX6_pace 27 = .ok (.ireturn, 1) := by decide +kernel
theorem dX6_pace_28 : decode cX6_pace 28 = .ok (.aload_n 0, 1) := by decide +kernel
theorem dX6_pace_29 : decode cX6_pace 29 = .ok (.iload_n 1, 1) := by decide +kernel
theorem dX6_pace_30 : decode cX6_pace 30 = .ok (.putfield 158, 3) := by decide +kernel
theorem dX6_pace_33 : decode cX6_pace 33 = .ok (.aload_n 0, 1) := by decide +kernel
theorem dX6_pace_34 : decode cX6_pace 34 = .ok (.iload_n 2, 1) := by decide +kernel
theorem dX6_pace_35 : decode cX6_pace 35 = .ok (.putfield 7, 3) := by decide +kernel
theorem dX6_pace_38 : decode cX6_pace 38 = .ok (.iconst 1, 1) := by decide +kernel
theorem dX6_pace_39 : decode cX6_pace 39 = .ok (.ireturn, 1) := by decide +kernel
theorem dX6_campaign_0 : decode cX6_campaign 0 = .ok (.iload_n 1, 1) := by decide +kernel
theorem dX6_campaign_1 : decode cX6_campaign 1 = .ok (.bipush 10, 2) := by decide +kernel
theorem dX6_campaign_3 : decode cX6_campaign 3 = .ok (.idiv, 1) := by decide +kernel
theorem dX6_campaign_4 : decode cX6_campaign 4 = .ok (.istore 4, 2) := by decide +kernel
theorem dX6_campaign_6 : decode cX6_campaign 6 = .ok (.iload_n 1, 1) := by decide +kernel
theorem dX6_campaign_7 : decode cX6_campaign 7 = .ok (.ifCond .lt 72, 3) := by decide +kernel
theorem dX6_campaign_10 : decode cX6_campaign 10 = .ok (.iload 4, 2) := by decide +kernel
theorem dX6_campaign_12 : decode cX6_campaign 12 = .ok (.iconst 0, 1) := by decide +kernel
theorem dX6_campaign_13 : decode cX6_campaign 13 = .ok (.iconst 2, 1) := by decide +kernel
theorem dX6_campaign_14 : decode cX6_campaign 14 = .ok (.invokestatic 136, 3) := by decide +kernel
theorem dX6_campaign_17 : decode cX6_campaign 17 = .ok (.ifCond .eq 62, 3) := by decide +kernel
theorem dX6_campaign_20 : decode cX6_campaign 20 = .ok (.iload_n 1, 1) := by decide +kernel
theorem dX6_campaign_21 : decode cX6_campaign 21 = .ok (.bipush 10, 2) := by decide +kernel
theorem dX6_campaign_23 : decode cX6_campaign 23 = .ok (.irem, 1) := by decide +kernel
theorem dX6_campaign_24 : decode cX6_campaign 24 = .ok (.iconst 0, 1) := by decide +kernel
theorem dX6_campaign_25 : decode cX6_campaign 25 = .ok (.iload 4, 2) := by decide +kernel
theorem dX6_campaign_27 : decode cX6_campaign 27 = .ok (.ifCond .ne 7, 3) := by decide +kernel
theorem dX6_campaign_30 : decode cX6_campaign 30 = .ok (.iconst 1, 1) := by decide +kernel
theorem dX6_campaign_31 : decode cX6_campaign 31 = .ok (.goto 4, 3) := by decide +kernel
theorem dX6_campaign_34 : decode cX6_campaign 34 = .ok (.iconst 0, 1) := by decide +kernel
theorem dX6_campaign_35 : decode cX6_campaign 35 = .ok (.invokestatic 136, 3) := by decide +kernel
theorem dX6_campaign_38 : decode cX6_campaign 38 = .ok (.ifCond .eq 41, 3) := by decide +kernel
theorem dX6_campaign_41 : decode cX6_campaign 41 = .ok (.iload_n 2, 1) := by decide +kernel
theorem dX6_campaign_42 : decode cX6_campaign 42 = .ok (.iconst 0, 1) := by decide +kernel
theorem dX6_campaign_43 : decode cX6_campaign 43 = .ok (.ldc 147, 2) := by decide +kernel
theorem dX6_campaign_45 : decode cX6_campaign 45 = .ok (.invokestatic 136, 3) := by decide +kernel
theorem dX6_campaign_48 : decode cX6_campaign 48 = .ok (.ifCond .eq 31, 3) := by decide +kernel
theorem dX6_campaign_51 : decode cX6_campaign 51 = .ok (.iload 4, 2) := by decide +kernel
theorem dX6_campaign_53 : decode cX6_campaign 53 = .ok (.iconst 2, 1) := by decide +kernel
theorem dX6_campaign_54 : decode cX6_campaign 54 = .ok (.if_icmp .ne 10, 3) := by decide +kernel
theorem dX6_campaign_57 : decode cX6_campaign 57 = .ok (.iload_n 3, 1) := by decide +kernel
theorem dX6_campaign_58 : decode cX6_campaign 58 = .ok (.ifCond .ne 21, 3) := by decide +kernel
theorem dX6_campaign_61 : decode cX6_campaign 61 = .ok (.goto 14, 3) := by decide +kernel
theorem dX6_campaign_64 : decode cX6_campaign 64 = .ok (.iload_n 3, 1) := by decide +kernel
theorem dX6_campaign_65 : decode cX6_campaign 65 = .ok (.iconst 1, 1) := by decide +kernel
theorem dX6_campaign_66 : decode cX6_campaign 66 = .ok (.sipush 1000, 3) := by decide +kernel
theorem dX6_campaign_69 : decode cX6_campaign 69 = .ok (.invokestatic 136, 3) := by decide +kernel
theorem dX6_campaign_72 : decode cX6_campaign 72 = .ok (.ifCond .eq 7, 3) := by decide +kernel
theorem dX6_campaign_75 : decode cX6_campaign 75 = .ok (.iconst 1, 1) := by decide +kernel
theorem dX6_campaign_76 : decode cX6_campaign 76 = .ok (.goto 4, 3) := by decide +kernel
theorem dX6_campaign_79 : decode cX6_campaign 79 = .ok (.iconst 0, 1) := by decide +kernel
theorem dX6_campaign_80 : decode cX6_campaign 80 = .ok (.istore 5, 2) := by decide +kernel
theorem dX6_campaign_82 : decode cX6_campaign 82 = .ok (.iload 5, 2) := by decide +kernel
theorem dX6_campaign_84 : decode cX6_campaign 84 = .ok (.ifCond .eq 17, 3) := by decide +kernel
theorem dX6_campaign_87 : decode cX6_campaign 87 = .ok (.iload_n 2, 1) := by decide +kernel
theorem dX6_campaign_88 : decode cX6_campaign 88 = .ok (.sipush 4096, 3) := by decide +kernel
theorem dX6_campaign_91 : decode cX6_campaign 91 = .ok (.idiv, 1) := by decide +kernel
theorem dX6_campaign_92 : decode cX6_campaign 92 = .ok (.iload_n 2, 1) := by decide +kernel
theorem dX6_campaign_93 : decode cX6_campaign 93 = .ok (.sipush 4096, 3) := by decide +kernel
theorem dX6_campaign_96 : decode cX6_campaign 96 = .ok (.irem, 1) := by decide +kernel
theorem dX6_campaign_97 : decode cX6_campaign 97 = .ok (.iand, 1) := by decide +kernel
theorem dX6_campaign_98 : decode cX6_campaign 98 = .ok (.ifCond .eq 5, 3) := by decide +kernel
theorem dX6_campaign_101 : decode cX6_campaign 101 = .ok (.iconst (-1), 1) := by decide +kernel
theorem dX6_campaign_102 : decode cX6_campaign 102 = .ok (.ireturn, 1) := by decide +kernel
theorem dX6_campaign_103 : decode cX6_campaign 103 = .ok (.aload_n 0, 1) := by decide +kernel
theorem dX6_campaign_104 : decode cX6_campaign 104 = .ok (.getfield 140, 3) := by decide +kernel
theorem dX6_campaign_107 : decode cX6_campaign 107 = .ok (.bipush 40, 2) := by decide +kernel
theorem dX6_campaign_109 : decode cX6_campaign 109 = .ok (.if_icmp .ne 6, 3) := by decide +kernel
theorem dX6_campaign_112 : decode cX6_campaign 112 = .ok (.bipush (-3), 2) := by decide +kernel
theorem dX6_campaign_114 : decode cX6_campaign 114 = .ok (.ireturn, 1) := by decide +kernel
theorem dX6_campaign_115 : decode cX6_campaign 115 = .ok (.aload_n 0, 1) := by decide +kernel
theorem dX6_campaign_116 : decode cX6_campaign 116 = .ok (.getfield 140, 3) := by decide +kernel
theorem dX6_campaign_119 : decode cX6_campaign 119 = .ok (.istore 6, 2) := by decide +kernel
theorem dX6_campaign_121 : decode cX6_campaign 121 = .ok (.aload_n 0, 1) := by decide +kernel
theorem dX6_campaign_122 : decode cX6_campaign 122 = .ok (.getfield 23, 3) := by decide +kernel
theorem dX6_campaign_125 : decode cX6_campaign 125 = .ok (.iload 6, 2) := by decide +kernel
theorem dX6_campaign_127 : decode cX6_campaign 127 = .ok (.iload 4, 2) := by decide +kernel
theorem dX6_campaign_129 : decode cX6_campaign 129 = .ok (.iastore, 1) := by decide +kernel
theorem dX6_campaign_130 : decode cX6_campaign 130 = .ok (.aload_n 0, 1) := by decide +kernel
theorem dX6_campaign_131 : decode cX6_campaign 131 = .ok (.getfield 26, 3) := by decide +kernel
theorem dX6_campaign_134 : decode cX6_campaign 134 = .ok (.iload 6, 2) := by decide +kernel
theorem dX6_campaign_136 : decode cX6_campaign 136 = .ok (.iload_n 1, 1) := by decide +kernel
theorem dX6_campaign_137 : decode cX6_campaign 137 = .ok (.bipush 10, 2) := by decide +kernel
theorem dX6_campaign_139 : decode cX6_campaign 139 = .ok (.irem, 1) := by decide +kernel
theorem dX6_campaign_140 : decode cX6_campaign 140 = .ok (.iastore, 1) := by decide +kernel
theorem dX6_campaign_141 : decode cX6_campaign 141 = .ok (.aload_n 0, 1) := by decide +kernel
theorem dX6_campaign_142 : decode cX6_campaign 142 = .ok (.getfield 29, 3) := by decide +kernel
theorem dX6_campaign_145 : decode cX6_campaign 145 = .ok (.iload 6, 2) := by decide +kernel
theorem dX6_campaign_147 : decode cX6_campaign 147 = .ok (.iload_n 2, 1) := by decide +kernel
theorem dX6_campaign_148 : decode cX6_campaign 148 = .ok (.sipush 4096, 3) := by decide +kernel
theorem dX6_campaign_151 : decode cX6_campaign 151 = .ok (.idiv, 1) := by decide +kernel
theorem dX6_campaign_152 : decode cX6_campaign 152 = .ok (.iastore, 1) := by decide +kernel
theorem dX6_campaign_153 : decode cX6_campaign 153 = .ok (.aload_n 0, 1) := by decide +kernel
theorem dX6_campaign_154 : decode cX6_campaign 154 = .ok (.getfield 32, 3) := by decide +kernel
theorem dX6_campaign_157 : decode cX6_campaign 157 = .ok (.iload 6, 2) := by decide +kernel
theorem dX6_campaign_159 : decode cX6_campaign 159 = .ok (.iload_n 2, 1) := by decide +kernel
theorem dX6_campaign_160 : decode cX6_campaign 160 = .ok (.sipush 4096, 3) := by decide +kernel
theorem dX6_campaign_163 : decode cX6_campaign 163 = .ok (.irem, 1) := by decide +kernel
theorem dX6_campaign_164 : decode cX6_campaign 164 = .ok (.iastore, 1) := by decide +kernel
theorem dX6_campaign_165 : decode cX6_campaign 165 = .ok (.aload_n 0, 1) := by decide +kernel
theorem dX6_campaign_166 : decode cX6_campaign 166 = .ok (.getfield 35, 3) := by decide +kernel
theorem dX6_campaign_169 : decode cX6_campaign 169 = .ok (.iload 6, 2) := by decide +kernel
theorem dX6_campaign_171 : decode cX6_campaign 171 = .ok (.iload_n 3, 1) := by decide +kernel
theorem dX6_campaign_172 : decode cX6_campaign 172 = .ok (.iastore, 1) := by decide +kernel
theorem dX6_campaign_173 : decode cX6_campaign 173 = .ok (.aload_n 0, 1) := by decide +kernel
theorem dX6_campaign_174 : decode cX6_campaign 174 = .ok (.getfield 44, 3) := by decide +kernel
theorem dX6_campaign_177 : decode cX6_campaign 177 = .ok (.iload 6, 2) := by decide +kernel
theorem dX6_campaign_179 : decode cX6_campaign 179 = .ok (.bipush 9, 2) := by decide +kernel
theorem dX6_campaign_181 : decode cX6_campaign 181 = .ok (.iastore, 1) := by decide +kernel
theorem dX6_campaign_182 : decode cX6_campaign 182 = .ok (.aload_n 0, 1) := by decide +kernel
theorem dX6_campaign_183 : decode cX6_campaign 183 = .ok (.getfield 47, 3) := by decide +kernel
theorem dX6_campaign_186 : decode cX6_campaign 186 = .ok (.iload 6, 2) := by decide +kernel
theorem dX6_campaign_188 : decode cX6_campaign 188 = .ok (.iconst 1, 1) := by decide +kernel
theorem dX6_campaign_189 : decode cX6_campaign 189 = .ok (.iastore, 1) := by decide +kernel
theorem dX6_campaign_190 : decode cX6_campaign 190 = .ok (.aload_n 0, 1) := by decide +kernel
theorem dX6_campaign_191 : decode cX6_campaign 191 = .ok (.getfield 50, 3) := by decide +kernel
theorem dX6_campaign_194 : decode cX6_campaign 194 = .ok (.iload 6, 2) := by decide +kernel
theorem dX6_campaign_196 : decode cX6_campaign 196 = .ok (.sipush 1000, 3) := by decide +kernel
theorem dX6_campaign_199 : decode cX6_campaign 199 = .ok (.iastore, 1) := by decide +kernel
theorem dX6_campaign_200 : decode cX6_campaign 200 = .ok (.aload_n 0, 1) := by decide +kernel
theorem dX6_campaign_201 : decode cX6_campaign 201 = .ok (.getfield 60, 3) := by decide +kernel
theorem dX6_campaign_204 : decode cX6_campaign 204 = .ok (.iload 6, 2) := by decide +kernel
theorem dX6_campaign_206 : decode cX6_campaign 206 = .ok (.iconst 0, 1) := by decide +kernel
theorem dX6_campaign_207 : decode cX6_campaign 207 = .ok (.iastore, 1) := by decide +kernel
theorem dX6_campaign_208 : decode cX6_campaign 208 = .ok (.aload_n 0, 1) := by decide +kernel
theorem dX6_campaign_209 : decode cX6_campaign 209 = .ok (.dup, 1) := by decide +kernel
theorem dX6_campaign_210 : decode cX6_campaign 210 = .ok (.getfield 140, 3) := by decide +kernel
theorem dX6_campaign_213 : decode cX6_campaign 213 = .ok (.iconst 1, 1) := by decide +kernel
theorem dX6_campaign_214 : decode cX6_campaign 214 = .ok (.iadd, 1) := by decide +kernel
theorem dX6_campaign_215 : decode cX6_campaign 215 = .ok (.putfield 140, 3) := by decide +kernel
theorem dX6_campaign_218 : decode cX6_campaign 218 = .ok (.iload 6, 2) := by decide +kernel
theorem dX6_campaign_220 : decode cX6_campaign 220 = .ok (.ireturn, 1) := by decide +kernel
theorem dX6_count_0 : decode cX6_count 0 = .ok (.iconst 0, 1) := by decide +kernel
theorem dX6_count_1 : decode cX6_count 1 = .ok (.istore_n 2, 1) := by decide +kernel
theorem dX6_count_2 : decode cX6_count 2 = .ok (.iload_n 1, 1) := by decide +kernel
theorem dX6_count_3 : decode cX6_count 3 = .ok (.tableswitch 120 0 5 #[37, 42, 47, 52, 57, 93], 37) := by decide +kernel
theorem dX6_count_40 : decode cX6_count 40 = .ok (.aload_n 0, 1) := by decide +kernel
theorem dX6_count_41 : decode cX6_count 41 = .ok (.getfield 133, 3) := by decide +kernel
theorem dX6_count_44 : decode cX6_count 44 = .ok (.ireturn, 1) := by decide +kernel
theorem dX6_count_45 : decode cX6_count 45 = .ok (.aload_n 0, 1) := by decide +kernel
theorem dX6_count_46 : decode cX6_count 46 = .ok (.getfield 140, 3) := by decide +kernel
theorem dX6_count_49 : decode cX6_count 49 = .ok (.ireturn, 1) := by decide +kernel
theorem dX6_count_50 : decode cX6_count 50 = .ok (.aload_n 0, 1) := by decide +kernel
theorem dX6_count_51 : decode cX6_count 51 = .ok (.getfield 161, 3) := by decide +kernel
theorem dX6_count_54 : decode cX6_count 54 = .ok (.ireturn, 1) := by decide +kernel
theorem dX6_count_55 : decode cX6_count 55 = .ok (.aload_n 0, 1) := by decide +kernel
theorem dX6_count_56 : decode cX6_count 56 = .ok (.getfield 152, 3) := by decide +kernel
theorem dX6_count_59 : decode cX6_count 59 = .ok (.ireturn, 1) := by decide +kernel
theorem dX6_count_60 : decode cX6_count 60 = .ok (.iconst 0, 1) := by decide +kernel
theorem dX6_count_61 : decode cX6_count 61 = .ok (.istore_n 3, 1) := by decide +kernel
theorem dX6_count_62 : decode cX6_count 62 = .ok (.iload_n 3, 1) := by decide +kernel
theorem dX6_count_63 : decode cX6_count 63 = .ok (.aload_n 0, 1) := by decide +kernel
theorem dX6_count_64 : decode cX6_count 64 = .ok (.getfield 161, 3) := by decide +kernel
theorem dX6_count_67 : decode cX6_count 67 = .ok (.if_icmp .ge 27, 3) := by decide +kernel
theorem dX6_count_70 : decode cX6_count 70 = .ok (.iload_n 2, 1) := by decide +kernel
theorem dX6_count_71 : decode cX6_count 71 = .ok (.aload_n 0, 1) := by decide +kernel
theorem dX6_count_72 : decode cX6_count 72 = .ok (.getfield 87, 3) := by decide +kernel
theorem dX6_count_75 : decode cX6_count 75 = .ok (.iload_n 3, 1) := by decide +kernel
theorem dX6_count_76 : decode cX6_count 76 = .ok (.iaload, 1) := by decide +kernel
theorem dX6_count_77 : decode cX6_count 77 = .ok (.iconst 3, 1) := by decide +kernel
theorem dX6_count_78 : decode cX6_count 78 = .ok (.if_icmp .ne 7, 3) := by decide +kernel
theorem dX6_count_81 : decode cX6_count 81 = .ok (.iconst 1, 1) := by decide +kernel
theorem dX6_count_82 : decode cX6_count 82 = .ok (.goto 4, 3) := by decide +kernel
theorem dX6_count_85 : decode cX6_count 85 = .ok (.iconst 0, 1) := by decide +kernel
theorem dX6_count_86 : decode cX6_count 86 = .ok (.iadd, 1) := by decide +kernel
theorem dX6_count_87 : decode cX6_count 87 = .ok (.istore_n 2, 1) := by decide +kernel
theorem dX6_count_88 : decode cX6_count 88 = .ok (.iinc 3 1, 3) := by decide +kernel
theorem dX6_count_91 : decode cX6_count 91 = .ok (.goto (-29), 3) := by decide +kernel
theorem dX6_count_94 : decode cX6_count 94 = .ok (.iload_n 2, 1) := by decide +kernel
theorem dX6_count_95 : decode cX6_count 95 = .ok (.ireturn, 1) := by decide +kernel
theorem dX6_count_96 : decode cX6_count 96 = .ok (.iconst 0, 1) := by decide +kernel
theorem dX6_count_97 : decode cX6_count 97 = .ok (.istore_n 3, 1) := by decide +kernel
theorem dX6_count_98 : decode cX6_count 98 = .ok (.iload_n 3, 1) := by decide +kernel
theorem dX6_count_99 : decode cX6_count 99 = .ok (.aload_n 0, 1) := by decide +kernel
theorem dX6_count_100 : decode cX6_count 100 = .ok (.getfield 161, 3) := by decide +kernel
theorem dX6_count_103 : decode cX6_count 103 = .ok (.if_icmp .ge 18, 3) := by decide +kernel
theorem dX6_count_106 : decode cX6_count 106 = .ok (.iload_n 2, 1) := by decide +kernel
theorem dX6_count_107 : decode cX6_count 107 = .ok (.aload_n 0, 1) := by decide +kernel
theorem dX6_count_108 : decode cX6_count 108 = .ok (.iload_n 3, 1) := by decide +kernel
theorem dX6_count_109 : decode cX6_count 109 = .ok (.iconst 0, 1) := by decide +kernel
theorem dX6_count_110 : decode cX6_count 110 = .ok (.invokevirtual 164, 3) := by decide +kernel
theorem dX6_count_113 : decode cX6_count 113 = .ok (.iadd, 1) := by decide +kernel
theorem dX6_count_114 : decode cX6_count 114 = .ok (.istore_n 2, 1) := by decide +kernel
theorem dX6_count_115 : decode cX6_count 115 = .ok (.iinc 3 1, 3) := by decide +kernel
theorem dX6_count_118 : decode cX6_count 118 = .ok (.goto (-20), 3) := by decide +kernel
theorem dX6_count_121 : decode cX6_count 121 = .ok (.iload_n 2, 1) := by decide +kernel
theorem dX6_count_122 : decode cX6_count 122 = .ok (.ireturn, 1) := by decide +kernel
theorem dX6_count_123 : decode cX6_count 123 = .ok (.iconst (-1), 1) := by decide +kernel
theorem dX6_count_124 : decode cX6_count 124 = .ok (.ireturn, 1) := by decide +kernel
theorem dX6_goesBy_0 : decode cX6_goesBy 0 = .ok (.aload_n 0, 1) := by decide +kernel
theorem dX6_goesBy_1 : decode cX6_goesBy 1 = .ok (.dup, 1) := by decide +kernel
theorem dX6_goesBy_2 : decode cX6_goesBy 2 = .ok (.getfield 152, 3) := by decide +kernel
theorem dX6_goesBy_5 : decode cX6_goesBy 5 = .ok (.iconst 1, 1) := by decide +kernel
theorem dX6_goesBy_6 : decode cX6_goesBy 6 = .ok (.iadd, 1) := by decide +kernel
theorem dX6_goesBy_7 : decode cX6_goesBy 7 = .ok (.putfield 152, 3) := by decide +kernel
theorem dX6_goesBy_10 : decode cX6_goesBy 10 = .ok (.iconst 0, 1) := by decide +kernel
theorem dX6_goesBy_11 : decode cX6_goesBy 11 = .ok (.istore_n 1, 1) := by decide +kernel
theorem dX6_goesBy_12 : decode cX6_goesBy 12 = .ok (.iload_n 1, 1) := by decide +kernel
theorem dX6_goesBy_13 : decode cX6_goesBy 13 = .ok (.aload_n 0, 1) := by decide +kernel
theorem dX6_goesBy_14 : decode cX6_goesBy 14 = .ok (.getfield 161, 3) := by decide +kernel
theorem dX6_goesBy_17 : decode cX6_goesBy 17 = .ok (.if_icmp .ge 46, 3) := by decide +kernel
theorem dX6_goesBy_20 : decode cX6_goesBy 20 = .ok (.aload_n 0, 1) := by decide +kernel
theorem dX6_goesBy_21 : decode cX6_goesBy 21 = .ok (.getfield 87, 3) := by decide +kernel
theorem dX6_goesBy_24 : decode cX6_goesBy 24 = .ok (.iload_n 1, 1) := by decide +kernel
theorem dX6_goesBy_25 : decode cX6_goesBy 25 = .ok (.iaload, 1) := by decide +kernel
theorem dX6_goesBy_26 : decode cX6_goesBy 26 = .ok (.iconst 1, 1) := by decide +kernel
theorem dX6_goesBy_27 : decode cX6_goesBy 27 = .ok (.if_icmp .ne 30, 3) := by decide +kernel
theorem dX6_goesBy_30 : decode cX6_goesBy 30 = .ok (.aload_n 0, 1) := by decide +kernel
theorem dX6_goesBy_31 : decode cX6_goesBy 31 = .ok (.getfield 152, 3) := by decide +kernel
theorem dX6_goesBy_34 : decode cX6_goesBy 34 = .ok (.aload_n 0, 1) := by decide +kernel
theorem dX6_goesBy_35 : decode cX6_goesBy 35 = .ok (.getfield 69, 3) := by decide +kernel
theorem dX6_goesBy_38 : decode cX6_goesBy 38 = .ok (.iload_n 1, 1) := by decide +kernel
theorem dX6_goesBy_39 : decode cX6_goesBy 39 = .ok (.iaload, 1) := by decide +kernel
theorem dX6_goesBy_40 : decode cX6_goesBy 40 = .ok (.aload_n 0, 1) := by decide +kernel
theorem dX6_goesBy_41 : decode cX6_goesBy 41 = .ok (.getfield 90, 3) := by decide +kernel
theorem dX6_goesBy_44 : decode cX6_goesBy 44 = .ok (.iload_n 1, 1) := by decide +kernel
theorem dX6_goesBy_45 : decode cX6_goesBy 45 = .ok (.iaload, 1) := by decide +kernel
theorem dX6_goesBy_46 : decode cX6_goesBy 46 = .ok (.iadd, 1) := by decide +kernel
theorem dX6_goesBy_47 : decode cX6_goesBy 47 = .ok (.if_icmp .le 10, 3) := by decide +kernel
theorem dX6_goesBy_50 : decode cX6_goesBy 50 = .ok (.aload_n 0, 1) := by decide +kernel
theorem dX6_goesBy_51 : decode cX6_goesBy 51 = .ok (.getfield 87, 3) := by decide +kernel
theorem dX6_goesBy_54 : decode cX6_goesBy 54 = .ok (.iload_n 1, 1) := by decide +kernel
theorem dX6_goesBy_55 : decode cX6_goesBy 55 = .ok (.iconst 0, 1) := by decide +kernel
theorem dX6_goesBy_56 : decode cX6_goesBy 56 = .ok (.iastore, 1) := by decide +kernel
theorem dX6_goesBy_57 : decode cX6_goesBy 57 = .ok (.iinc 1 1, 3) := by decide +kernel
theorem dX6_goesBy_60 : decode cX6_goesBy 60 = .ok (.goto (-48), 3) := by decide +kernel
theorem dX6_goesBy_63 : decode cX6_goesBy 63 = .ok (.aload_n 0, 1) := by decide +kernel
theorem dX6_goesBy_64 : decode cX6_goesBy 64 = .ok (.getfield 158, 3) := by decide +kernel
theorem dX6_goesBy_67 : decode cX6_goesBy 67 = .ok (.ifCond .eq 25, 3) := by decide +kernel
theorem dX6_goesBy_70 : decode cX6_goesBy 70 = .ok (.aload_n 0, 1) := by decide +kernel
theorem dX6_goesBy_71 : decode cX6_goesBy 71 = .ok (.getfield 152, 3) := by decide +kernel
theorem dX6_goesBy_74 : decode cX6_goesBy 74 = .ok (.aload_n 0, 1) := by decide +kernel
theorem dX6_goesBy_75 : decode cX6_goesBy 75 = .ok (.getfield 158, 3) := by decide +kernel
theorem dX6_goesBy_78 : decode cX6_goesBy 78 = .ok (.irem, 1) := by decide +kernel
theorem dX6_goesBy_79 : decode cX6_goesBy 79 = .ok (.ifCond .ne 13, 3) := by decide +kernel
theorem dX6_goesBy_82 : decode cX6_goesBy 82 = .ok (.aload_n 0, 1) := by decide +kernel
theorem dX6_goesBy_83 : decode cX6_goesBy 83 = .ok (.getfield 152, 3) := by decide +kernel
theorem dX6_goesBy_86 : decode cX6_goesBy 86 = .ok (.bipush 100, 2) := by decide +kernel
theorem dX6_goesBy_88 : decode cX6_goesBy 88 = .ok (.irem, 1) := by decide +kernel
theorem dX6_goesBy_89 : decode cX6_goesBy 89 = .ok (.ifCond .ne 4, 3) := by decide +kernel
theorem dX6_goesBy_92 : decode cX6_goesBy 92 = .ok (.return_, 1) := by decide +kernel
theorem dX6_goesBy_93 : decode cX6_goesBy 93 = .ok (.iconst 0, 1) := by decide +kernel
theorem dX6_goesBy_94 : decode cX6_goesBy 94 = .ok (.istore_n 1, 1) := by decide +kernel
theorem dX6_goesBy_95 : decode cX6_goesBy 95 = .ok (.iload_n 1, 1) := by decide +kernel
theorem dX6_goesBy_96 : decode cX6_goesBy 96 = .ok (.aload_n 0, 1) := by decide +kernel
theorem dX6_goesBy_97 : decode cX6_goesBy 97 = .ok (.getfield 140, 3) := by decide +kernel
theorem dX6_goesBy_100 : decode cX6_goesBy 100 = .ok (.if_icmp .ge 157, 3) := by decide +kernel
theorem dX6_goesBy_103 : decode cX6_goesBy 103 = .ok (.aload_n 0, 1) := by decide +kernel
theorem dX6_goesBy_104 : decode cX6_goesBy 104 = .ok (.getfield 23, 3) := by decide +kernel
theorem dX6_goesBy_107 : decode cX6_goesBy 107 = .ok (.iload_n 1, 1) := by decide +kernel
theorem dX6_goesBy_108 : decode cX6_goesBy 108 = .ok (.iaload, 1) := by decide +kernel
theorem dX6_goesBy_109 : decode cX6_goesBy 109 = .ok (.ifCond .eq 6, 3) := by decide +kernel
theorem dX6_goesBy_112 : decode cX6_goesBy 112 = .ok (.goto 139, 3) := by decide +kernel
theorem dX6_goesBy_115 : decode cX6_goesBy 115 = .ok (.aload_n 0, 1) := by decide +kernel
theorem dX6_goesBy_116 : decode cX6_goesBy 116 = .ok (.iload_n 1, 1) := by decide +kernel
theorem dX6_goesBy_117 : decode cX6_goesBy 117 = .ok (.aload_n 0, 1) := by decide +kernel
theorem dX6_goesBy_118 : decode cX6_goesBy 118 = .ok (.getfield 152, 3) := by decide +kernel
theorem dX6_goesBy_121 : decode cX6_goesBy 121 = .ok (.bipush 100, 2) := by decide +kernel
theorem dX6_goesBy_123 : decode cX6_goesBy 123 = .ok (.idiv, 1) := by decide +kernel
theorem dX6_goesBy_124 : decode cX6_goesBy 124 = .ok (.iconst 1, 1) := by decide +kernel
theorem dX6_goesBy_125 : decode cX6_goesBy 125 = .ok (.iconst 1, 1) := by decide +kernel
theorem dX6_goesBy_126 : decode cX6_goesBy 126 = .ok (.invokevirtual 168, 3) := by decide +kernel
theorem dX6_goesBy_129 : decode cX6_goesBy 129 = .ok (.i2l, 1) := by decide +kernel
theorem dX6_goesBy_130 : decode cX6_goesBy 130 = .ok (.ldc2_w 241, 3) := by decide +kernel
theorem dX6_goesBy_133 : decode cX6_goesBy 133 = .ok (.lmul, 1) := by decide +kernel
theorem dX6_goesBy_134 : decode cX6_goesBy 134 = .ok (.lstore_n 2, 1) := by decide +kernel
theorem dX6_goesBy_135 : decode cX6_goesBy 135 = .ok (.aload_n 0, 1) := by decide +kernel
theorem dX6_goesBy_136 : decode cX6_goesBy 136 = .ok (.getfield 38, 3) := by decide +kernel
theorem dX6_goesBy_139 : decode cX6_goesBy 139 = .ok (.iload_n 1, 1) := by decide +kernel
theorem dX6_goesBy_140 : decode cX6_goesBy 140 = .ok (.iaload, 1) := by decide +kernel
theorem dX6_goesBy_141 : decode cX6_goesBy 141 = .ok (.i2l, 1) := by decide +kernel
theorem dX6_goesBy_142 : decode cX6_goesBy 142 = .ok (.aload_n 0, 1) := by decide +kernel
theorem dX6_goesBy_143 : decode cX6_goesBy 143 = .ok (.getfield 152, 3) := by decide +kernel
theorem dX6_goesBy_146 : decode cX6_goesBy 146 = .ok (.bipush 100, 2) := by decide +kernel
theorem dX6_goesBy_148 : decode cX6_goesBy 148 = .ok (.irem, 1) := by decide +kernel
theorem dX6_goesBy_149 : decode cX6_goesBy 149 = .ok (.i2l, 1) := by decide +kernel
theorem dX6_goesBy_150 : decode cX6_goesBy 150 = .ok (.lmul, 1) := by decide +kernel
theorem dX6_goesBy_151 : decode cX6_goesBy 151 = .ok (.lstore 4, 2) := by decide +kernel
theorem dX6_goesBy_153 : decode cX6_goesBy 153 = .ok (.lload_n 2, 1) := by decide +kernel
theorem dX6_goesBy_154 : decode cX6_goesBy 154 = .ok (.lload 4, 2) := by decide +kernel
theorem dX6_goesBy_156 : decode cX6_goesBy 156 = .ok (.lcmp, 1) := by decide +kernel
theorem dX6_goesBy_157 : decode cX6_goesBy 157 = .ok (.ifCond .le 41, 3) := by decide +kernel
theorem dX6_goesBy_160 : decode cX6_goesBy 160 = .ok (.aload_n 0, 1) := by decide +kernel
theorem dX6_goesBy_161 : decode cX6_goesBy 161 = .ok (.getfield 50, 3) := by decide +kernel
theorem dX6_goesBy_164 : decode cX6_goesBy 164 = .ok (.iload_n 1, 1) := by decide +kernel
theorem dX6_goesBy_165 : decode cX6_goesBy 165 = .ok (.aload_n 0, 1) := by decide +kernel
theorem dX6_goesBy_166 : decode cX6_goesBy 166 = .ok (.getfield 50, 3) := by decide +kernel
theorem dX6_goesBy_169 : decode cX6_goesBy 169 = .ok (.iload_n 1, 1) := by decide +kernel
theorem dX6_goesBy_170 : decode cX6_goesBy 170 = .ok (.iaload, 1) := by decide +kernel
theorem dX6_goesBy_171 : decode cX6_goesBy 171 = .ok (.bipush 9, 2) := by decide +kernel
theorem dX6_goesBy_173 : decode cX6_goesBy 173 = .ok (.imul, 1) := by decide +kernel
theorem dX6_goesBy_174 : decode cX6_goesBy 174 = .ok (.bipush 10, 2) := by decide +kernel
theorem dX6_goesBy_176 : decode cX6_goesBy 176 = .ok (.idiv, 1) := by decide +kernel
theorem dX6_goesBy_177 : decode cX6_goesBy 177 = .ok (.iconst 1, 1) := by decide +kernel
theorem dX6_goesBy_178 : decode cX6_goesBy 178 = .ok (.if_icmp .ge 7, 3) := by decide +kernel
theorem dX6_goesBy_181 : decode cX6_goesBy 181 = .ok (.iconst 1, 1) := by decide +kernel
theorem dX6_goesBy_182 : decode cX6_goesBy 182 = .ok (.goto 15, 3) := by decide +kernel
theorem dX6_goesBy_185 : decode cX6_goesBy 185 = .ok (.aload_n 0, 1) := by decide +kernel
theorem dX6_goesBy_186 : decode cX6_goesBy 186 = .ok (.getfield 50, 3) := by decide +kernel
theorem dX6_goesBy_189 : decode cX6_goesBy 189 = .ok (.iload_n 1, 1) := by decide +kernel
theorem dX6_goesBy_190 : decode cX6_goesBy 190 = .ok (.iaload, 1) := by decide +kernel
theorem dX6_goesBy_191 : decode cX6_goesBy 191 = .ok (.bipush 9, 2) := by decide +kernel
theorem dX6_goesBy_193 : decode cX6_goesBy 193 = .ok (.imul, 1) := by decide +kernel
theorem dX6_goesBy_194 : decode cX6_goesBy 194 = .ok (.bipush 10, 2) := by decide +kernel
theorem dX6_goesBy_196 : decode cX6_goesBy 196 = .ok (.idiv, 1) := by decide +kernel
theorem dX6_goesBy_197 : decode cX6_goesBy 197 = .ok (.iastore, 1) := by decide +kernel
theorem dX6_goesBy_198 : decode cX6_goesBy 198 = .ok (.lload_n 2, 1) := by decide +kernel
theorem dX6_goesBy_199 : decode cX6_goesBy 199 = .ok (.lload 4, 2) := by decide +kernel
theorem dX6_goesBy_201 : decode cX6_goesBy 201 = .ok (.lcmp, 1) := by decide +kernel
theorem dX6_goesBy_202 : decode cX6_goesBy 202 = .ok (.ifCond .ge 49, 3) := by decide +kernel
theorem dX6_goesBy_205 : decode cX6_goesBy 205 = .ok (.aload_n 0, 1) := by decide +kernel
theorem dX6_goesBy_206 : decode cX6_goesBy 206 = .ok (.getfield 50, 3) := by decide +kernel
theorem dX6_goesBy_209 : decode cX6_goesBy 209 = .ok (.iload_n 1, 1) := by decide +kernel
theorem dX6_goesBy_210 : decode cX6_goesBy 210 = .ok (.aload_n 0, 1) := by decide +kernel
theorem dX6_goesBy_211 : decode cX6_goesBy 211 = .ok (.getfield 50, 3) := by decide +kernel
theorem dX6_goesBy_214 : decode cX6_goesBy 214 = .ok (.iload_n 1, 1) := by decide +kernel
theorem dX6_goesBy_215 : decode cX6_goesBy 215 = .ok (.iaload, 1) := by decide +kernel
theorem dX6_goesBy_216 : decode cX6_goesBy 216 = .ok (.bipush 11, 2) := by decide +kernel
theorem dX6_goesBy_218 : decode cX6_goesBy 218 = .ok (.imul, 1) := by decide +kernel
theorem dX6_goesBy_219 : decode cX6_goesBy 219 = .ok (.bipush 10, 2) := by decide +kernel
theorem dX6_goesBy_221 : decode cX6_goesBy 221 = .ok (.idiv, 1) := by decide +kernel
theorem dX6_goesBy_222 : decode cX6_goesBy 222 = .ok (.iconst 1, 1) := by decide +kernel
theorem dX6_goesBy_223 : decode cX6_goesBy 223 = .ok (.iadd, 1) := by decide +kernel
theorem dX6_goesBy_224 : decode cX6_goesBy 224 = .ok (.sipush 1000, 3) := by decide +kernel
theorem dX6_goesBy_227 : decode cX6_goesBy 227 = .ok (.if_icmp .le 9, 3) := by decide +kernel
theorem dX6_goesBy_230 : decode cX6_goesBy 230 = .ok (.sipush 1000, 3) := by decide +kernel
theorem dX6_goesBy_233 : decode cX6_goesBy 233 = .ok (.goto 17, 3) := by decide +kernel
theorem dX6_goesBy_236 : decode cX6_goesBy 236 = .ok (.aload_n 0, 1) := by decide +kernel
theorem dX6_goesBy_237 : decode cX6_goesBy 237 = .ok (.getfield 50, 3) := by decide +kernel
theorem dX6_goesBy_240 : decode cX6_goesBy 240 = .ok (.iload_n 1, 1) := by decide +kernel
theorem dX6_goesBy_241 : decode cX6_goesBy 241 = .ok (.iaload, 1) := by decide +kernel
theorem dX6_goesBy_242 : decode cX6_goesBy 242 = .ok (.bipush 11, 2) := by decide +kernel
theorem dX6_goesBy_244 : decode cX6_goesBy 244 = .ok (.imul, 1) := by decide +kernel
theorem dX6_goesBy_245 : decode cX6_goesBy 245 = .ok (.bipush 10, 2) := by decide +kernel
theorem dX6_goesBy_247 : decode cX6_goesBy 247 = .ok (.idiv, 1) := by decide +kernel
theorem dX6_goesBy_248 : decode cX6_goesBy 248 = .ok (.iconst 1, 1) := by decide +kernel
theorem dX6_goesBy_249 : decode cX6_goesBy 249 = .ok (.iadd, 1) := by decide +kernel
theorem dX6_goesBy_250 : decode cX6_goesBy 250 = .ok (.iastore, 1) := by decide +kernel
theorem dX6_goesBy_251 : decode cX6_goesBy 251 = .ok (.iinc 1 1, 3) := by decide +kernel
theorem dX6_goesBy_254 : decode cX6_goesBy 254 = .ok (.goto (-159), 3) := by decide +kernel
theorem dX6_goesBy_257 : decode cX6_goesBy 257 = .ok (.return_, 1) := by decide +kernel
theorem dX6_sell_0 : decode cX6_sell 0 = .ok (.aload_n 0, 1) := by decide +kernel
theorem dX6_sell_1 : decode cX6_sell 1 = .ok (.getfield 161, 3) := by decide +kernel
theorem dX6_sell_4 : decode cX6_sell 4 = .ok (.istore 4, 2) := by decide +kernel
theorem dX6_sell_6 : decode cX6_sell 6 = .ok (.aload_n 0, 1) := by decide +kernel
theorem dX6_sell_7 : decode cX6_sell 7 = .ok (.getfield 124, 3) := by decide +kernel
theorem dX6_sell_10 : decode cX6_sell 10 = .ok (.iload_n 3, 1) := by decide +kernel
theorem dX6_sell_11 : decode cX6_sell 11 = .ok (.iaload, 1) := by decide +kernel
theorem dX6_sell_12 : decode cX6_sell 12 = .ok (.istore 5, 2) := by decide +kernel
theorem dX6_sell_14 : decode cX6_sell 14 = .ok (.aload_n 0, 1) := by decide +kernel
theorem dX6_sell_15 : decode cX6_sell 15 = .ok (.getfield 69, 3) := by decide +kernel
theorem dX6_sell_18 : decode cX6_sell 18 = .ok (.iload 4, 2) := by decide +kernel
theorem dX6_sell_20 : decode cX6_sell 20 = .ok (.aload_n 0, 1) := by decide +kernel
theorem dX6_sell_21 : decode cX6_sell 21 = .ok (.getfield 152, 3) := by decide +kernel
theorem dX6_sell_24 : decode cX6_sell 24 = .ok (.iastore, 1) := by decide +kernel
theorem dX6_sell_25 : decode cX6_sell 25 = .ok (.aload_n 0, 1) := by decide +kernel
theorem dX6_sell_26 : decode cX6_sell 26 = .ok (.getfield 72, 3) := by decide +kernel
theorem dX6_sell_29 : decode cX6_sell 29 = .ok (.iload 4, 2) := by decide +kernel
theorem dX6_sell_31 : decode cX6_sell 31 = .ok (.iload_n 1, 1) := by decide +kernel
theorem dX6_sell_32 : decode cX6_sell 32 = .ok (.iastore, 1) := by decide +kernel
theorem dX6_sell_33 : decode cX6_sell 33 = .ok (.aload_n 0, 1) := by decide +kernel
theorem dX6_sell_34 : decode cX6_sell 34 = .ok (.getfield 75, 3) := by decide +kernel
theorem dX6_sell_37 : decode cX6_sell 37 = .ok (.iload 4, 2) := by decide +kernel
theorem dX6_sell_39 : decode cX6_sell 39 = .ok (.iload_n 2, 1) := by decide +kernel
theorem dX6_sell_40 : decode cX6_sell 40 = .ok (.iastore, 1) := by decide +kernel
theorem dX6_sell_41 : decode cX6_sell 41 = .ok (.aload_n 0, 1) := by decide +kernel
theorem dX6_sell_42 : decode cX6_sell 42 = .ok (.getfield 78, 3) := by decide +kernel
theorem dX6_sell_45 : decode cX6_sell 45 = .ok (.iload 4, 2) := by decide +kernel
theorem dX6_sell_47 : decode cX6_sell 47 = .ok (.iload_n 3, 1) := by decide +kernel
theorem dX6_sell_48 : decode cX6_sell 48 = .ok (.iastore, 1) := by decide +kernel
theorem dX6_sell_49 : decode cX6_sell 49 = .ok (.aload_n 0, 1) := by decide +kernel
theorem dX6_sell_50 : decode cX6_sell 50 = .ok (.getfield 81, 3) := by decide +kernel
theorem dX6_sell_53 : decode cX6_sell 53 = .ok (.iload 4, 2) := by decide +kernel
theorem dX6_sell_55 : decode cX6_sell 55 = .ok (.iload 5, 2) := by decide +kernel
theorem dX6_sell_57 : decode cX6_sell 57 = .ok (.iastore, 1) := by decide +kernel
theorem dX6_sell_58 : decode cX6_sell 58 = .ok (.aload_n 0, 1) := by decide +kernel
theorem dX6_sell_59 : decode cX6_sell 59 = .ok (.getfield 84, 3) := by decide +kernel
theorem dX6_sell_62 : decode cX6_sell 62 = .ok (.iload 4, 2) := by decide +kernel
theorem dX6_sell_64 : decode cX6_sell 64 = .ok (.aload_n 0, 1) := by decide +kernel
theorem dX6_sell_65 : decode cX6_sell 65 = .ok (.getfield 127, 3) := by decide +kernel
theorem dX6_sell_68 : decode cX6_sell 68 = .ok (.iload_n 3, 1) := by decide +kernel
theorem dX6_sell_69 : decode cX6_sell 69 = .ok (.iaload, 1) := by decide +kernel
theorem dX6_sell_70 : decode cX6_sell 70 = .ok (.iastore, 1) := by decide +kernel
theorem dX6_sell_71 : decode cX6_sell 71 = .ok (.aload_n 0, 1) := by decide +kernel
theorem dX6_sell_72 : decode cX6_sell 72 = .ok (.getfield 87, 3) := by decide +kernel
theorem dX6_sell_75 : decode cX6_sell 75 = .ok (.iload 4, 2) := by decide +kernel
theorem dX6_sell_77 : decode cX6_sell 77 = .ok (.aload_n 0, 1) := by decide +kernel
theorem dX6_sell_78 : decode cX6_sell 78 = .ok (.getfield 26, 3) := by decide +kernel
theorem dX6_sell_81 : decode cX6_sell 81 = .ok (.iload 5, 2) := by decide +kernel
theorem dX6_sell_83 : decode cX6_sell 83 = .ok (.iaload, 1) := by decide +kernel
theorem dX6_sell_84 : decode cX6_sell 84 = .ok (.iconst 1, 1) := by decide +kernel
theorem dX6_sell_85 : decode cX6_sell 85 = .ok (.if_icmp .ne 7, 3) := by decide +kernel
theorem dX6_sell_88 : decode cX6_sell 88 = .ok (.iconst 1, 1) := by decide +kernel
theorem dX6_sell_89 : decode cX6_sell 89 = .ok (.goto 4, 3) := by decide +kernel
theorem dX6_sell_92 : decode cX6_sell 92 = .ok (.iconst 0, 1) := by decide +kernel
theorem dX6_sell_93 : decode cX6_sell 93 = .ok (.iastore, 1) := by decide +kernel
theorem dX6_sell_94 : decode cX6_sell 94 = .ok (.aload_n 0, 1) := by decide +kernel
theorem dX6_sell_95 : decode cX6_sell 95 = .ok (.getfield 90, 3) := by decide +kernel
theorem dX6_sell_98 : decode cX6_sell 98 = .ok (.iload 4, 2) := by decide +kernel
theorem dX6_sell_100 : decode cX6_sell 100 = .ok (.aload_n 0, 1) := by decide +kernel
theorem dX6_sell_101 : decode cX6_sell 101 = .ok (.getfield 7, 3) := by decide +kernel
theorem dX6_sell_104 : decode cX6_sell 104 = .ok (.iastore, 1) := by decide +kernel
theorem dX6_sell_105 : decode cX6_sell 105 = .ok (.aload_n 0, 1) := by decide +kernel
theorem dX6_sell_106 : decode cX6_sell 106 = .ok (.getfield 93, 3) := by decide +kernel
theorem dX6_sell_109 : decode cX6_sell 109 = .ok (.iload 4, 2) := by decide +kernel
theorem dX6_sell_111 : decode cX6_sell 111 = .ok (.iconst 0, 1) := by decide +kernel
theorem dX6_sell_112 : decode cX6_sell 112 = .ok (.iastore, 1) := by decide +kernel
theorem dX6_sell_113 : decode cX6_sell 113 = .ok (.aload_n 0, 1) := by decide +kernel
theorem dX6_sell_114 : decode cX6_sell 114 = .ok (.dup, 1) := by decide +kernel
theorem dX6_sell_115 : decode cX6_sell 115 = .ok (.getfield 161, 3) := by decide +kernel
theorem dX6_sell_118 : decode cX6_sell 118 = .ok (.iconst 1, 1) := by decide +kernel
theorem dX6_sell_119 : decode cX6_sell 119 = .ok (.iadd, 1) := by decide +kernel
theorem dX6_sell_120 : decode cX6_sell 120 = .ok (.putfield 161, 3) := by decide +kernel
theorem dX6_sell_123 : decode cX6_sell 123 = .ok (.return_, 1) := by decide +kernel
