theorem wm_0 : Cond.methodLink RX5 65 yX5_isWithin ∈ lw_B := lb_1 123 (by decide +kernel) rfl
theorem wm_1 : Cond.static yX5_isWithin ∈ lw_B := lb_1 124 (by decide +kernel) rfl
theorem wm_2 : Cond.initialized RX5 ∈ lw_B := lb_1 1 (by decide +kernel) rfl
theorem wm_3 : Cond.code yX5_isWithin cX5_isWithin 3 (some .boolean) ∈ lw_B := lb_1 125 (by decide +kernel) rfl
theorem wm_4 : Cond.methodLink RX6 136 yX6_in ∈ lw_B := lb_4 68 (by decide +kernel) rfl
theorem wm_5 : Cond.static yX6_in ∈ lw_B := lb_4 69 (by decide +kernel) rfl
theorem wm_6 : Cond.initialized RX6 ∈ lw_B := lb_1 3 (by decide +kernel) rfl
theorem wm_7 : Cond.code yX6_in cX6_in 3 (some .boolean) ∈ lw_B := lb_4 70 (by decide +kernel) rfl
theorem wm_8 : Cond.fieldLink RX5 55 "NoticeMarket" "pageCount" "I" ∈ lw_B := lb_1 71 (by decide +kernel) rfl
theorem wm_9 : Cond.fieldLink RX5 79 "NoticeMarket" "campaignCount" "I" ∈ lw_B := lb_1 72 (by decide +kernel) rfl
theorem wm_10 : Cond.fieldLink RX5 138 "NoticeMarket" "saleCount" "I" ∈ lw_B := lb_1 73 (by decide +kernel) rfl
theorem wm_11 : Cond.fieldLink RX6 133 "NoticeMarketModel" "pages" "I" ∈ lw_B := lb_3 154 (by decide +kernel) rfl
theorem wm_12 : Cond.fieldLink RX6 140 "NoticeMarketModel" "campaigns" "I" ∈ lw_B := lb_3 158 (by decide +kernel) rfl
theorem wm_13 : Cond.fieldLink RX6 161 "NoticeMarketModel" "sales" "I" ∈ lw_B := lb_3 174 (by decide +kernel) rfl
theorem wm_14 : Cond.methodLink RX5 85 yX5_isCampaign ∈ lw_B := lb_2 36 (by decide +kernel) rfl
theorem wm_15 : Cond.instanceMethod yX5_isCampaign ∈ lw_B := lb_2 38 (by decide +kernel) rfl
theorem wm_16 : Cond.selects RX5 yX5_isCampaign yX5_isCampaign ∈ lw_B := lb_0 0 (by decide +kernel) rfl
theorem wm_17 : Cond.code yX5_isCampaign cX5_isCampaign 2 (some .boolean) ∈ lw_B := lb_2 39 (by decide +kernel) rfl
theorem wm_18 : Cond.methodLink RX6 148 yX6_isCampaign ∈ lw_B := lb_4 87 (by decide +kernel) rfl
theorem wm_19 : Cond.instanceMethod yX6_isCampaign ∈ lw_B := lb_4 89 (by decide +kernel) rfl
theorem wm_20 : Cond.selects RX6 yX6_isCampaign yX6_isCampaign ∈ lw_B := lb_0 29 (by decide +kernel) rfl
theorem wm_21 : Cond.code yX6_isCampaign cX6_isCampaign 2 (some .boolean) ∈ lw_B := lb_4 90 (by decide +kernel) rfl
theorem wm_22 : Cond.methodLink RX5 61 yX5_isReader ∈ lw_B := lb_1 153 (by decide +kernel) rfl
theorem wm_23 : Cond.static yX5_isReader ∈ lw_B := lb_1 154 (by decide +kernel) rfl
theorem wm_24 : Cond.code yX5_isReader cX5_isReader 1 (some .boolean) ∈ lw_B := lb_1 155 (by decide +kernel) rfl
theorem wm_25 : Cond.methodLink RX5 135 yX5_isPage ∈ lw_B := lb_2 129 (by decide +kernel) rfl
theorem wm_26 : Cond.instanceMethod yX5_isPage ∈ lw_B := lb_2 131 (by decide +kernel) rfl
theorem wm_27 : Cond.selects RX5 yX5_isPage yX5_isPage ∈ lw_B := lb_0 8 (by decide +kernel) rfl
theorem wm_28 : Cond.code yX5_isPage cX5_isPage 2 (some .boolean) ∈ lw_B := lb_2 132 (by decide +kernel) rfl
theorem wm_29 : Cond.methodLink RX6 143 yX6_isReader ∈ lw_B := lb_4 75 (by decide +kernel) rfl
theorem wm_30 : Cond.static yX6_isReader ∈ lw_B := lb_4 76 (by decide +kernel) rfl
theorem wm_31 : Cond.code yX6_isReader cX6_isReader 1 (some .boolean) ∈ lw_B := lb_4 77 (by decide +kernel) rfl
theorem wm_32 : Cond.methodLink RX6 243 yX6_isPage ∈ lw_B := lb_4 137 (by decide +kernel) rfl
theorem wm_33 : Cond.instanceMethod yX6_isPage ∈ lw_B := lb_4 139 (by decide +kernel) rfl
theorem wm_34 : Cond.selects RX6 yX6_isPage yX6_isPage ∈ lw_B := lb_0 33 (by decide +kernel) rfl
theorem wm_35 : Cond.code yX6_isPage cX6_isPage 2 (some .boolean) ∈ lw_B := lb_4 140 (by decide +kernel) rfl
theorem wm_36 : Cond.constantLong RX5 159 (-1) ∈ lw_B := lb_3 89 (by decide +kernel) rfl
theorem wm_37 : Cond.constantLong RX6 263 (-1) ∈ lw_B := lb_4 218 (by decide +kernel) rfl
theorem wm_38 : Cond.methodLink RX5 164 yX5_isSale ∈ lw_B := lb_3 98 (by decide +kernel) rfl
theorem wm_39 : Cond.instanceMethod yX5_isSale ∈ lw_B := lb_3 100 (by decide +kernel) rfl
theorem wm_40 : Cond.selects RX5 yX5_isSale yX5_isSale ∈ lw_B := lb_0 25 (by decide +kernel) rfl
theorem wm_41 : Cond.code yX5_isSale cX5_isSale 2 (some .boolean) ∈ lw_B := lb_3 101 (by decide +kernel) rfl
theorem wm_42 : Cond.methodLink RX6 265 yX6_isSale ∈ lw_B := lb_4 227 (by decide +kernel) rfl
theorem wm_43 : Cond.instanceMethod yX6_isSale ∈ lw_B := lb_4 229 (by decide +kernel) rfl
theorem wm_44 : Cond.selects RX6 yX6_isSale yX6_isSale ∈ lw_B := lb_0 50 (by decide +kernel) rfl
theorem wm_45 : Cond.code yX6_isSale cX6_isSale 2 (some .boolean) ∈ lw_B := lb_4 230 (by decide +kernel) rfl
theorem wm_46 : Cond.constant RX5 229 (-2000000) ∈ lw_B := lb_3 126 (by decide +kernel) rfl
theorem wm_47 : Cond.constant RX6 268 (-2000000) ∈ lw_B := lb_5 3 (by decide +kernel) rfl
theorem wm_48 : Cond.fieldLink RX5 123 "NoticeMarket" "priceRule" "I" ∈ lw_B := lb_1 77 (by decide +kernel) rfl
theorem wm_49 : Cond.fieldLink RX6 155 "NoticeMarketModel" "rule" "I" ∈ lw_B := lb_3 151 (by decide +kernel) rfl
theorem wm_50 : Cond.fieldLink RX5 126 "NoticeMarket" "paceTicks" "I" ∈ lw_B := lb_1 78 (by decide +kernel) rfl
theorem wm_51 : Cond.fieldLink RX5 44 "NoticeMarket" "pressWait" "I" ∈ lw_B := lb_1 79 (by decide +kernel) rfl
theorem wm_52 : Cond.fieldLink RX6 158 "NoticeMarketModel" "pace" "I" ∈ lw_B := lb_3 152 (by decide +kernel) rfl
theorem wm_53 : Cond.fieldLink RX6 7 "NoticeMarketModel" "wait" "I" ∈ lw_B := lb_3 153 (by decide +kernel) rfl
theorem wm_54 : Cond.fieldLink RX5 108 "NoticeMarket" "now" "I" ∈ lw_B := lb_1 76 (by decide +kernel) rfl
theorem wm_55 : Cond.fieldLink RX5 226 "NoticeMarket" "backCount" "I" ∈ lw_B := lb_1 74 (by decide +kernel) rfl
theorem wm_56 : Cond.fieldLink RX5 273 "NoticeMarket" "spentInAll" "I" ∈ lw_B := lb_1 75 (by decide +kernel) rfl
theorem wm_57 : Cond.fieldLink RX6 152 "NoticeMarketModel" "tick" "I" ∈ lw_B := lb_3 150 (by decide +kernel) rfl
theorem wm_58 : Cond.fieldLink RX5 48 "NoticeMarket" "noneFreeBy" "I" ∈ lw_B := lb_1 80 (by decide +kernel) rfl
theorem wm_59 : Cond.methodLink RX5 283 yX5_closeDay ∈ lw_B := lb_2 95 (by decide +kernel) rfl
theorem wm_60 : Cond.instanceMethod yX5_closeDay ∈ lw_B := lb_2 97 (by decide +kernel) rfl
theorem wm_61 : Cond.selects RX5 yX5_closeDay yX5_closeDay ∈ lw_B := lb_0 3 (by decide +kernel) rfl
theorem wm_62 : Cond.code yX5_closeDay cX5_closeDay 2 none ∈ lw_B := lb_2 98 (by decide +kernel) rfl
theorem wm_63 : Cond.methodLink RX5 129 yX5_closeTick ∈ lw_B := lb_2 83 (by decide +kernel) rfl
theorem wm_64 : Cond.instanceMethod yX5_closeTick ∈ lw_B := lb_2 85 (by decide +kernel) rfl
theorem wm_65 : Cond.selects RX5 yX5_closeTick yX5_closeTick ∈ lw_B := lb_0 1 (by decide +kernel) rfl
theorem wm_66 : Cond.code yX5_closeTick cX5_closeTick 2 none ∈ lw_B := lb_2 86 (by decide +kernel) rfl
theorem wm_67 : Cond.methodLink RX5 132 yX5_goOneTick ∈ lw_B := lb_2 91 (by decide +kernel) rfl
theorem wm_68 : Cond.instanceMethod yX5_goOneTick ∈ lw_B := lb_2 93 (by decide +kernel) rfl
theorem wm_69 : Cond.selects RX5 yX5_goOneTick yX5_goOneTick ∈ lw_B := lb_0 2 (by decide +kernel) rfl
theorem wm_70 : Cond.code yX5_goOneTick cX5_goOneTick 1 none ∈ lw_B := lb_2 94 (by decide +kernel) rfl
theorem wm_71 : Cond.methodLink RX6 238 yX6_goesBy ∈ lw_B := lb_4 120 (by decide +kernel) rfl
theorem wm_72 : Cond.instanceMethod yX6_goesBy ∈ lw_B := lb_4 122 (by decide +kernel) rfl
theorem wm_73 : Cond.selects RX6 yX6_goesBy yX6_goesBy ∈ lw_B := lb_0 30 (by decide +kernel) rfl
theorem wm_74 : Cond.code yX6_goesBy cX6_goesBy 6 none ∈ lw_B := lb_4 123 (by decide +kernel) rfl
theorem wm_75 : Cond.fieldLink RX5 27 "NoticeMarket" "readerMarks" "[I" ∈ lw_B := lb_1 67 (by decide +kernel) rfl
theorem wm_76 : Cond.fieldLink RX6 20 "NoticeMarketModel" "marks" "[I" ∈ lw_B := lb_3 157 (by decide +kernel) rfl
theorem wm_77 : Cond.methodLink RX2 3 objectInit ∈ lw_B := lb_1 130 (by decide +kernel) rfl
theorem wm_78 : Cond.instanceMethod objectInit ∈ lw_B := lb_1 15 (by decide +kernel) rfl
theorem wm_79 : Cond.code objectInit ⟨#[0xb1]⟩ 1 none ∈ lw_B := lb_1 16 (by decide +kernel) rfl
theorem wm_80 : Cond.arrayClass .int ∈ lw_B := lb_1 62 (by decide +kernel) rfl
theorem wm_81 : Cond.fieldLink RX2 9 "NoticeMarket$Page" "sizes" "[I" ∈ lw_B := lb_1 134 (by decide +kernel) rfl
theorem wm_82 : Cond.fieldLink RX2 15 "NoticeMarket$Page" "places" "I" ∈ lw_B := lb_1 136 (by decide +kernel) rfl
theorem wm_83 : Cond.methodLink RX2 19 Lib.Math.min.name ∈ lw_B := lb_1 131 (by decide +kernel) rfl
theorem wm_84 : Cond.static Lib.Math.min.name ∈ lw_B := lb_1 132 (by decide +kernel) rfl
theorem wm_85 : Cond.initialized RJ9 ∈ lw_B := lb_1 5 (by decide +kernel) rfl
theorem wm_86 : Cond.code Lib.Math.min.name Lib.Math.min.code 2 (some .int) ∈ lw_B := lb_1 133 (by decide +kernel) rfl
theorem wm_87 : Cond.methodLink RX5 51 yX5_placesIn ∈ lw_B := lb_1 120 (by decide +kernel) rfl
theorem wm_88 : Cond.static yX5_placesIn ∈ lw_B := lb_1 121 (by decide +kernel) rfl
theorem wm_89 : Cond.code yX5_placesIn cX5_placesIn 3 (some .int) ∈ lw_B := lb_1 122 (by decide +kernel) rfl
theorem wm_90 : Cond.fieldLink RX5 11 "NoticeMarket" "pages" "[LNoticeMarket$Page;" ∈ lw_B := lb_1 64 (by decide +kernel) rfl
theorem wm_91 : Cond.classLink RX5 9 RX2 ∈ lw_B := lb_1 17 (by decide +kernel) rfl
theorem wm_92 : Cond.instantiable RX2 4 ∈ lw_B := lb_1 126 (by decide +kernel) rfl
theorem wm_93 : Cond.initialized RX2 ∈ lw_B := lb_1 4 (by decide +kernel) rfl
theorem wm_94 : Cond.methodLink RX5 58 yX2_init ∈ lw_B := lb_1 127 (by decide +kernel) rfl
theorem wm_95 : Cond.instanceMethod yX2_init ∈ lw_B := lb_1 128 (by decide +kernel) rfl
theorem wm_96 : Cond.code yX2_init cX2_init 5 none ∈ lw_B := lb_1 129 (by decide +kernel) rfl
theorem wm_97 : Cond.methodLink RX4 3 objectInit ∈ lw_B := lb_1 179 (by decide +kernel) rfl
theorem wm_98 : Cond.methodLink RX0 3 objectInit ∈ lw_B := lb_1 173 (by decide +kernel) rfl
theorem wm_99 : Cond.classLink RX0 9 RX4 ∈ lw_B := lb_1 174 (by decide +kernel) rfl
theorem wm_100 : Cond.instantiable RX4 8 ∈ lw_B := lb_1 175 (by decide +kernel) rfl
theorem wm_101 : Cond.initialized RX4 ∈ lw_B := lb_1 7 (by decide +kernel) rfl
theorem wm_102 : Cond.instanceMethod yX4_init ∈ lw_B := lb_1 177 (by decide +kernel) rfl
theorem wm_103 : Cond.code yX4_init cX4_init 1 none ∈ lw_B := lb_1 178 (by decide +kernel) rfl
theorem wm_104 : Cond.fieldLink RX0 12 "NoticeMarket$Campaign" "tally" "LNoticeMarket$Tally;" ∈ lw_B := lb_1 221 (by decide +kernel) rfl
theorem wm_105 : Cond.fieldLink RX0 18 "NoticeMarket$Campaign" "mostShowings" "I" ∈ lw_B := lb_1 227 (by decide +kernel) rfl
theorem wm_106 : Cond.fieldLink RX0 22 "NoticeMarket$Campaign" "capSpan" "I" ∈ lw_B := lb_1 229 (by decide +kernel) rfl
theorem wm_107 : Cond.fieldLink RX0 25 "NoticeMarket$Campaign" "throttle" "I" ∈ lw_B := lb_1 231 (by decide +kernel) rfl
theorem wm_108 : Cond.fieldLink RX0 28 "NoticeMarket$Campaign" "sort" "I" ∈ lw_B := lb_1 213 (by decide +kernel) rfl
theorem wm_109 : Cond.fieldLink RX0 31 "NoticeMarket$Campaign" "paysByPress" "Z" ∈ lw_B := lb_1 215 (by decide +kernel) rfl
theorem wm_110 : Cond.fieldLink RX0 35 "NoticeMarket$Campaign" "mustHave" "I" ∈ lw_B := lb_1 217 (by decide +kernel) rfl
theorem wm_111 : Cond.fieldLink RX0 38 "NoticeMarket$Campaign" "mustLack" "I" ∈ lw_B := lb_1 218 (by decide +kernel) rfl
theorem wm_112 : Cond.fieldLink RX0 41 "NoticeMarket$Campaign" "bid" "I" ∈ lw_B := lb_1 219 (by decide +kernel) rfl
theorem wm_113 : Cond.methodLink RX5 69 yX5_isSort ∈ lw_B := lb_1 160 (by decide +kernel) rfl
theorem wm_114 : Cond.static yX5_isSort ∈ lw_B := lb_1 161 (by decide +kernel) rfl
theorem wm_115 : Cond.code yX5_isSort cX5_isSort 1 (some .boolean) ∈ lw_B := lb_1 162 (by decide +kernel) rfl
theorem wm_116 : Cond.methodLink RX5 72 yX5_isWish ∈ lw_B := lb_1 163 (by decide +kernel) rfl
theorem wm_117 : Cond.static yX5_isWish ∈ lw_B := lb_1 164 (by decide +kernel) rfl
theorem wm_118 : Cond.code yX5_isWish cX5_isWish 1 (some .boolean) ∈ lw_B := lb_1 165 (by decide +kernel) rfl
theorem wm_119 : Cond.methodLink RX5 75 yX5_isBid ∈ lw_B := lb_1 166 (by decide +kernel) rfl
theorem wm_120 : Cond.static yX5_isBid ∈ lw_B := lb_1 167 (by decide +kernel) rfl
theorem wm_121 : Cond.code yX5_isBid cX5_isBid 2 (some .boolean) ∈ lw_B := lb_1 168 (by decide +kernel) rfl
theorem wm_122 : Cond.fieldLink RX5 17 "NoticeMarket" "campaigns" "[LNoticeMarket$Campaign;" ∈ lw_B := lb_1 65 (by decide +kernel) rfl
theorem wm_123 : Cond.classLink RX5 15 RX0 ∈ lw_B := lb_1 19 (by decide +kernel) rfl
theorem wm_124 : Cond.instantiable RX0 16 ∈ lw_B := lb_1 169 (by decide +kernel) rfl
theorem wm_125 : Cond.initialized RX0 ∈ lw_B := lb_1 6 (by decide +kernel) rfl
theorem wm_126 : Cond.methodLink RX5 82 yX0_init ∈ lw_B := lb_1 170 (by decide +kernel) rfl
theorem wm_127 : Cond.instanceMethod yX0_init ∈ lw_B := lb_1 171 (by decide +kernel) rfl
theorem wm_128 : Cond.code yX0_init cX0_init 4 none ∈ lw_B := lb_1 172 (by decide +kernel) rfl
theorem wm_129 : Cond.constant RX6 147 (16777215) ∈ lw_B := lb_4 82 (by decide +kernel) rfl
theorem wm_130 : Cond.fieldLink RX6 23 "NoticeMarketModel" "sort" "[I" ∈ lw_B := lb_3 159 (by decide +kernel) rfl
theorem wm_131 : Cond.fieldLink RX6 26 "NoticeMarketModel" "pays" "[I" ∈ lw_B := lb_3 160 (by decide +kernel) rfl
theorem wm_132 : Cond.fieldLink RX6 29 "NoticeMarketModel" "must" "[I" ∈ lw_B := lb_3 161 (by decide +kernel) rfl
theorem wm_133 : Cond.fieldLink RX6 32 "NoticeMarketModel" "never" "[I" ∈ lw_B := lb_3 162 (by decide +kernel) rfl
theorem wm_134 : Cond.fieldLink RX6 35 "NoticeMarketModel" "bid" "[I" ∈ lw_B := lb_3 163 (by decide +kernel) rfl
theorem wm_135 : Cond.fieldLink RX6 44 "NoticeMarketModel" "cap" "[I" ∈ lw_B := lb_3 166 (by decide +kernel) rfl
theorem wm_136 : Cond.fieldLink RX6 47 "NoticeMarketModel" "span" "[I" ∈ lw_B := lb_3 167 (by decide +kernel) rfl
theorem wm_137 : Cond.fieldLink RX6 50 "NoticeMarketModel" "throttle" "[I" ∈ lw_B := lb_3 168 (by decide +kernel) rfl
theorem wm_138 : Cond.fieldLink RX6 60 "NoticeMarketModel" "promised" "[I" ∈ lw_B := lb_3 171 (by decide +kernel) rfl
theorem wm_139 : Cond.fieldLink RX6 13 "NoticeMarketModel" "places" "[I" ∈ lw_B := lb_3 155 (by decide +kernel) rfl
theorem wm_140 : Cond.fieldLink RX6 17 "NoticeMarketModel" "sizes" "[I" ∈ lw_B := lb_3 156 (by decide +kernel) rfl
theorem wm_141 : Cond.methodLink RX1 5 objectInit ∈ lw_B := lb_1 28 (by decide +kernel) rfl
theorem wm_142 : Cond.fieldLink RX1 11 "NoticeMarket$Giver" "chosen" "[I" ∈ lw_B := lb_1 33 (by decide +kernel) rfl
theorem wm_143 : Cond.fieldLink RX1 15 "NoticeMarket$Giver" "trial" "[I" ∈ lw_B := lb_1 35 (by decide +kernel) rfl
theorem wm_144 : Cond.classLink RX1 18 "[[J" ∈ lw_B := lb_1 29 (by decide +kernel) rfl
theorem wm_145 : Cond.arrayClass .long ∈ lw_B := lb_1 63 (by decide +kernel) rfl
theorem wm_146 : Cond.fieldLink RX1 20 "NoticeMarket$Giver" "weights" "[[J" ∈ lw_B := lb_1 36 (by decide +kernel) rfl
theorem wm_147 : Cond.classLink RX1 23 "[[I" ∈ lw_B := lb_1 31 (by decide +kernel) rfl
theorem wm_148 : Cond.fieldLink RX1 25 "NoticeMarket$Giver" "order" "[[I" ∈ lw_B := lb_1 37 (by decide +kernel) rfl
theorem wm_149 : Cond.fieldLink RX1 28 "NoticeMarket$Giver" "apartFrom" "[J" ∈ lw_B := lb_1 38 (by decide +kernel) rfl
theorem wm_150 : Cond.methodLink RX5 1 objectInit ∈ lw_B := lb_1 14 (by decide +kernel) rfl
theorem wm_151 : Cond.classLink RX5 21 RX3 ∈ lw_B := lb_1 21 (by decide +kernel) rfl
theorem wm_152 : Cond.fieldLink RX5 23 "NoticeMarket" "sales" "[LNoticeMarket$Sale;" ∈ lw_B := lb_1 66 (by decide +kernel) rfl
theorem wm_153 : Cond.classLink RX5 31 RX1 ∈ lw_B := lb_1 23 (by decide +kernel) rfl
theorem wm_154 : Cond.instantiable RX1 9 ∈ lw_B := lb_1 24 (by decide +kernel) rfl
theorem wm_155 : Cond.initialized RX1 ∈ lw_B := lb_1 2 (by decide +kernel) rfl
theorem wm_156 : Cond.instanceMethod yX1_init ∈ lw_B := lb_1 26 (by decide +kernel) rfl
theorem wm_157 : Cond.code yX1_init cX1_init 1 none ∈ lw_B := lb_1 27 (by decide +kernel) rfl
theorem wm_158 : Cond.fieldLink RX5 34 "NoticeMarket" "giver" "LNoticeMarket$Giver;" ∈ lw_B := lb_1 68 (by decide +kernel) rfl
theorem wm_159 : Cond.fieldLink RX5 38 "NoticeMarket" "given" "[I" ∈ lw_B := lb_1 69 (by decide +kernel) rfl
theorem wm_160 : Cond.fieldLink RX5 41 "NoticeMarket" "prices" "[I" ∈ lw_B := lb_1 70 (by decide +kernel) rfl
theorem wm_161 : Cond.methodLink RX6 1 objectInit ∈ lw_B := lb_3 149 (by decide +kernel) rfl
theorem wm_162 : Cond.fieldLink RX6 38 "NoticeMarketModel" "dayBudget" "[I" ∈ lw_B := lb_3 164 (by decide +kernel) rfl
theorem wm_163 : Cond.fieldLink RX6 41 "NoticeMarketModel" "allBudget" "[I" ∈ lw_B := lb_3 165 (by decide +kernel) rfl
theorem wm_164 : Cond.arrayClass .boolean ∈ lw_B := lb_4 63 (by decide +kernel) rfl
theorem wm_165 : Cond.fieldLink RX6 53 "NoticeMarketModel" "stopped" "[Z" ∈ lw_B := lb_3 169 (by decide +kernel) rfl
theorem wm_166 : Cond.fieldLink RX6 57 "NoticeMarketModel" "apart" "[Z" ∈ lw_B := lb_3 170 (by decide +kernel) rfl
theorem wm_167 : Cond.fieldLink RX6 63 "NoticeMarketModel" "promiseDay" "[I" ∈ lw_B := lb_3 172 (by decide +kernel) rfl
theorem wm_168 : Cond.fieldLink RX6 66 "NoticeMarketModel" "promiseFrom" "[I" ∈ lw_B := lb_3 173 (by decide +kernel) rfl
theorem wm_169 : Cond.fieldLink RX6 69 "NoticeMarketModel" "saleTick" "[I" ∈ lw_B := lb_3 175 (by decide +kernel) rfl
theorem wm_170 : Cond.fieldLink RX6 72 "NoticeMarketModel" "saleReader" "[I" ∈ lw_B := lb_3 176 (by decide +kernel) rfl
theorem wm_171 : Cond.fieldLink RX6 75 "NoticeMarketModel" "salePage" "[I" ∈ lw_B := lb_3 177 (by decide +kernel) rfl
theorem wm_172 : Cond.fieldLink RX6 78 "NoticeMarketModel" "salePlace" "[I" ∈ lw_B := lb_3 178 (by decide +kernel) rfl
theorem wm_173 : Cond.fieldLink RX6 81 "NoticeMarketModel" "saleOf" "[I" ∈ lw_B := lb_3 179 (by decide +kernel) rfl
theorem wm_174 : Cond.fieldLink RX6 84 "NoticeMarketModel" "price" "[I" ∈ lw_B := lb_3 180 (by decide +kernel) rfl
theorem wm_175 : Cond.fieldLink RX6 87 "NoticeMarketModel" "state" "[I" ∈ lw_B := lb_3 181 (by decide +kernel) rfl
theorem wm_176 : Cond.fieldLink RX6 90 "NoticeMarketModel" "saleWait" "[I" ∈ lw_B := lb_3 182 (by decide +kernel) rfl
theorem wm_177 : Cond.fieldLink RX6 93 "NoticeMarketModel" "pressTick" "[I" ∈ lw_B := lb_3 183 (by decide +kernel) rfl
theorem wm_178 : Cond.fieldLink RX6 96 "NoticeMarketModel" "mayBe" "[I" ∈ lw_B := lb_3 185 (by decide +kernel) rfl
theorem wm_179 : Cond.fieldLink RX6 99 "NoticeMarketModel" "worth" "[J" ∈ lw_B := lb_3 186 (by decide +kernel) rfl
theorem wm_180 : Cond.fieldLink RX6 103 "NoticeMarketModel" "mostAt" "[J" ∈ lw_B := lb_3 187 (by decide +kernel) rfl
theorem wm_181 : Cond.fieldLink RX6 106 "NoticeMarketModel" "at" "[I" ∈ lw_B := lb_3 189 (by decide +kernel) rfl
theorem wm_182 : Cond.fieldLink RX6 109 "NoticeMarketModel" "upTo" "[J" ∈ lw_B := lb_3 190 (by decide +kernel) rfl
theorem wm_183 : Cond.fieldLink RX6 112 "NoticeMarketModel" "filledTo" "[I" ∈ lw_B := lb_3 191 (by decide +kernel) rfl
theorem wm_184 : Cond.fieldLink RX6 115 "NoticeMarketModel" "given" "[I" ∈ lw_B := lb_3 195 (by decide +kernel) rfl
theorem wm_185 : Cond.fieldLink RX6 118 "NoticeMarketModel" "order" "[I" ∈ lw_B := lb_3 196 (by decide +kernel) rfl
theorem wm_186 : Cond.fieldLink RX6 121 "NoticeMarketModel" "next" "[I" ∈ lw_B := lb_3 197 (by decide +kernel) rfl
theorem wm_187 : Cond.fieldLink RX6 124 "NoticeMarketModel" "toSell" "[I" ∈ lw_B := lb_3 198 (by decide +kernel) rfl
theorem wm_188 : Cond.fieldLink RX6 127 "NoticeMarketModel" "toPay" "[I" ∈ lw_B := lb_3 199 (by decide +kernel) rfl
theorem wm_189 : Cond.instantiable RX3 12 ∈ lw_B := lb_3 15 (by decide +kernel) rfl
theorem wm_190 : Cond.instantiable RX5 17 ∈ lw_B := lb_1 10 (by decide +kernel) rfl
theorem wm_191 : Cond.instantiable RX6 51 ∈ lw_B := lb_3 145 (by decide +kernel) rfl
theorem wm_192 : Cond.classLink RL 7 RX5 ∈ lw_B := lb_1 9 (by decide +kernel) rfl
theorem wm_193 : Cond.methodLink RL 9 yX5_init ∈ lw_B := lb_1 11 (by decide +kernel) rfl
theorem wm_194 : Cond.instanceMethod yX5_init ∈ lw_B := lb_1 12 (by decide +kernel) rfl
theorem wm_195 : Cond.code yX5_init cX5_init 1 none ∈ lw_B := lb_1 13 (by decide +kernel) rfl
theorem wm_196 : Cond.classLink RL 10 RX6 ∈ lw_B := lb_3 144 (by decide +kernel) rfl
theorem wm_197 : Cond.methodLink RL 12 yX6_init ∈ lw_B := lb_3 146 (by decide +kernel) rfl
theorem wm_198 : Cond.instanceMethod yX6_init ∈ lw_B := lb_3 147 (by decide +kernel) rfl
theorem wm_199 : Cond.code yX6_init cX6_init 1 none ∈ lw_B := lb_3 148 (by decide +kernel) rfl
theorem wm_200 : Cond.methodLink RL 13 yX5_page ∈ lw_B := lb_1 116 (by decide +kernel) rfl
theorem wm_201 : Cond.instanceMethod yX5_page ∈ lw_B := lb_1 117 (by decide +kernel) rfl
theorem wm_202 : Cond.selects RX5 yX5_page yX5_page ∈ lw_B := lb_1 118 (by decide +kernel) rfl
theorem wm_203 : Cond.code yX5_page cX5_page 3 (some .int) ∈ lw_B := lb_1 119 (by decide +kernel) rfl
theorem wm_204 : Cond.methodLink RL 17 yX6_page ∈ lw_B := lb_4 64 (by decide +kernel) rfl
theorem wm_205 : Cond.instanceMethod yX6_page ∈ lw_B := lb_4 65 (by decide +kernel) rfl
theorem wm_206 : Cond.selects RX6 yX6_page yX6_page ∈ lw_B := lb_4 66 (by decide +kernel) rfl
theorem wm_207 : Cond.code yX6_page cX6_page 6 (some .int) ∈ lw_B := lb_4 67 (by decide +kernel) rfl
theorem wm_208 : Cond.methodLink RL 18 yX5_marks ∈ lw_B := lb_1 149 (by decide +kernel) rfl
theorem wm_209 : Cond.instanceMethod yX5_marks ∈ lw_B := lb_1 150 (by decide +kernel) rfl
theorem wm_210 : Cond.selects RX5 yX5_marks yX5_marks ∈ lw_B := lb_1 151 (by decide +kernel) rfl
theorem wm_211 : Cond.code yX5_marks cX5_marks 4 (some .int) ∈ lw_B := lb_1 152 (by decide +kernel) rfl
theorem wm_212 : Cond.methodLink RL 22 yX6_marks ∈ lw_B := lb_4 71 (by decide +kernel) rfl
theorem wm_213 : Cond.instanceMethod yX6_marks ∈ lw_B := lb_4 72 (by decide +kernel) rfl
theorem wm_214 : Cond.selects RX6 yX6_marks yX6_marks ∈ lw_B := lb_4 73 (by decide +kernel) rfl
theorem wm_215 : Cond.code yX6_marks cX6_marks 4 (some .int) ∈ lw_B := lb_4 74 (by decide +kernel) rfl
theorem wm_216 : Cond.methodLink RL 23 yX5_campaign ∈ lw_B := lb_1 156 (by decide +kernel) rfl
theorem wm_217 : Cond.instanceMethod yX5_campaign ∈ lw_B := lb_1 157 (by decide +kernel) rfl
theorem wm_218 : Cond.selects RX5 yX5_campaign yX5_campaign ∈ lw_B := lb_1 158 (by decide +kernel) rfl
theorem wm_219 : Cond.code yX5_campaign cX5_campaign 4 (some .int) ∈ lw_B := lb_1 159 (by decide +kernel) rfl
theorem wm_220 : Cond.methodLink RL 27 yX6_campaign ∈ lw_B := lb_4 78 (by decide +kernel) rfl
theorem wm_221 : Cond.instanceMethod yX6_campaign ∈ lw_B := lb_4 79 (by decide +kernel) rfl
theorem wm_222 : Cond.selects RX6 yX6_campaign yX6_campaign ∈ lw_B := lb_4 80 (by decide +kernel) rfl
theorem wm_223 : Cond.code yX6_campaign cX6_campaign 7 (some .int) ∈ lw_B := lb_4 81 (by decide +kernel) rfl
theorem wm_224 : Cond.methodLink RL 28 yX5_budget ∈ lw_B := lb_2 32 (by decide +kernel) rfl
theorem wm_225 : Cond.instanceMethod yX5_budget ∈ lw_B := lb_2 33 (by decide +kernel) rfl
theorem wm_226 : Cond.selects RX5 yX5_budget yX5_budget ∈ lw_B := lb_2 34 (by decide +kernel) rfl
theorem wm_227 : Cond.code yX5_budget cX5_budget 4 (some .int) ∈ lw_B := lb_2 35 (by decide +kernel) rfl
theorem wm_228 : Cond.methodLink RL 31 yX6_budget ∈ lw_B := lb_4 83 (by decide +kernel) rfl
theorem wm_229 : Cond.instanceMethod yX6_budget ∈ lw_B := lb_4 84 (by decide +kernel) rfl
theorem wm_230 : Cond.selects RX6 yX6_budget yX6_budget ∈ lw_B := lb_4 85 (by decide +kernel) rfl
theorem wm_231 : Cond.code yX6_budget cX6_budget 4 (some .int) ∈ lw_B := lb_4 86 (by decide +kernel) rfl
theorem wm_232 : Cond.methodLink RL 32 yX5_cap ∈ lw_B := lb_2 41 (by decide +kernel) rfl
theorem wm_233 : Cond.instanceMethod yX5_cap ∈ lw_B := lb_2 42 (by decide +kernel) rfl
theorem wm_234 : Cond.selects RX5 yX5_cap yX5_cap ∈ lw_B := lb_2 43 (by decide +kernel) rfl
theorem wm_235 : Cond.code yX5_cap cX5_cap 4 (some .int) ∈ lw_B := lb_2 44 (by decide +kernel) rfl
theorem wm_236 : Cond.methodLink RL 35 yX6_cap ∈ lw_B := lb_4 92 (by decide +kernel) rfl
theorem wm_237 : Cond.instanceMethod yX6_cap ∈ lw_B := lb_4 93 (by decide +kernel) rfl
theorem wm_238 : Cond.selects RX6 yX6_cap yX6_cap ∈ lw_B := lb_4 94 (by decide +kernel) rfl
theorem wm_239 : Cond.code yX6_cap cX6_cap 4 (some .int) ∈ lw_B := lb_4 95 (by decide +kernel) rfl
theorem wm_240 : Cond.methodLink RL 36 yX5_apart ∈ lw_B := lb_2 45 (by decide +kernel) rfl
theorem wm_241 : Cond.instanceMethod yX5_apart ∈ lw_B := lb_2 46 (by decide +kernel) rfl
theorem wm_242 : Cond.selects RX5 yX5_apart yX5_apart ∈ lw_B := lb_2 47 (by decide +kernel) rfl
theorem wm_243 : Cond.code yX5_apart cX5_apart 5 (some .int) ∈ lw_B := lb_2 48 (by decide +kernel) rfl
theorem wm_244 : Cond.methodLink RL 39 yX6_apart ∈ lw_B := lb_4 96 (by decide +kernel) rfl
theorem wm_245 : Cond.instanceMethod yX6_apart ∈ lw_B := lb_4 97 (by decide +kernel) rfl
theorem wm_246 : Cond.selects RX6 yX6_apart yX6_apart ∈ lw_B := lb_4 98 (by decide +kernel) rfl
theorem wm_247 : Cond.code yX6_apart cX6_apart 5 (some .int) ∈ lw_B := lb_4 99 (by decide +kernel) rfl
theorem wm_248 : Cond.methodLink RL 40 yX5_promise ∈ lw_B := lb_2 58 (by decide +kernel) rfl
theorem wm_249 : Cond.instanceMethod yX5_promise ∈ lw_B := lb_2 59 (by decide +kernel) rfl
theorem wm_250 : Cond.selects RX5 yX5_promise yX5_promise ∈ lw_B := lb_2 60 (by decide +kernel) rfl
theorem wm_251 : Cond.code yX5_promise cX5_promise 4 (some .int) ∈ lw_B := lb_2 61 (by decide +kernel) rfl
theorem wm_252 : Cond.methodLink RL 43 yX6_promise ∈ lw_B := lb_4 100 (by decide +kernel) rfl
theorem wm_253 : Cond.instanceMethod yX6_promise ∈ lw_B := lb_4 101 (by decide +kernel) rfl
theorem wm_254 : Cond.selects RX6 yX6_promise yX6_promise ∈ lw_B := lb_4 102 (by decide +kernel) rfl
theorem wm_255 : Cond.code yX6_promise cX6_promise 4 (some .int) ∈ lw_B := lb_4 103 (by decide +kernel) rfl
theorem wm_256 : Cond.methodLink RL 44 yX5_stop ∈ lw_B := lb_2 67 (by decide +kernel) rfl
theorem wm_257 : Cond.instanceMethod yX5_stop ∈ lw_B := lb_2 68 (by decide +kernel) rfl
theorem wm_258 : Cond.selects RX5 yX5_stop yX5_stop ∈ lw_B := lb_2 69 (by decide +kernel) rfl
theorem wm_259 : Cond.code yX5_stop cX5_stop 4 (some .int) ∈ lw_B := lb_2 70 (by decide +kernel) rfl
theorem wm_260 : Cond.methodLink RL 47 yX6_stop ∈ lw_B := lb_4 104 (by decide +kernel) rfl
theorem wm_261 : Cond.instanceMethod yX6_stop ∈ lw_B := lb_4 105 (by decide +kernel) rfl
theorem wm_262 : Cond.selects RX6 yX6_stop yX6_stop ∈ lw_B := lb_4 106 (by decide +kernel) rfl
theorem wm_263 : Cond.code yX6_stop cX6_stop 4 (some .int) ∈ lw_B := lb_4 107 (by decide +kernel) rfl
theorem wm_264 : Cond.methodLink RL 48 yX5_rule ∈ lw_B := lb_2 71 (by decide +kernel) rfl
theorem wm_265 : Cond.instanceMethod yX5_rule ∈ lw_B := lb_2 72 (by decide +kernel) rfl
theorem wm_266 : Cond.selects RX5 yX5_rule yX5_rule ∈ lw_B := lb_2 73 (by decide +kernel) rfl
theorem wm_267 : Cond.code yX5_rule cX5_rule 3 (some .int) ∈ lw_B := lb_2 74 (by decide +kernel) rfl
theorem wm_268 : Cond.methodLink RL 51 yX6_rule ∈ lw_B := lb_4 108 (by decide +kernel) rfl
theorem wm_269 : Cond.instanceMethod yX6_rule ∈ lw_B := lb_4 109 (by decide +kernel) rfl
theorem wm_270 : Cond.selects RX6 yX6_rule yX6_rule ∈ lw_B := lb_4 110 (by decide +kernel) rfl
theorem wm_271 : Cond.code yX6_rule cX6_rule 3 (some .int) ∈ lw_B := lb_4 111 (by decide +kernel) rfl
theorem wm_272 : Cond.methodLink RL 52 yX5_pace ∈ lw_B := lb_2 75 (by decide +kernel) rfl
theorem wm_273 : Cond.instanceMethod yX5_pace ∈ lw_B := lb_2 76 (by decide +kernel) rfl
theorem wm_274 : Cond.selects RX5 yX5_pace yX5_pace ∈ lw_B := lb_2 77 (by decide +kernel) rfl
theorem wm_275 : Cond.code yX5_pace cX5_pace 3 (some .int) ∈ lw_B := lb_2 78 (by decide +kernel) rfl
theorem wm_276 : Cond.methodLink RL 55 yX6_pace ∈ lw_B := lb_4 112 (by decide +kernel) rfl
theorem wm_277 : Cond.instanceMethod yX6_pace ∈ lw_B := lb_4 113 (by decide +kernel) rfl
theorem wm_278 : Cond.selects RX6 yX6_pace yX6_pace ∈ lw_B := lb_4 114 (by decide +kernel) rfl
theorem wm_279 : Cond.code yX6_pace cX6_pace 3 (some .int) ∈ lw_B := lb_4 115 (by decide +kernel) rfl
theorem wm_280 : Cond.methodLink RL 56 yX5_tick ∈ lw_B := lb_2 79 (by decide +kernel) rfl
theorem wm_281 : Cond.instanceMethod yX5_tick ∈ lw_B := lb_2 80 (by decide +kernel) rfl
theorem wm_282 : Cond.selects RX5 yX5_tick yX5_tick ∈ lw_B := lb_2 81 (by decide +kernel) rfl
theorem wm_283 : Cond.code yX5_tick cX5_tick 3 (some .int) ∈ lw_B := lb_2 82 (by decide +kernel) rfl
theorem wm_284 : Cond.methodLink RL 59 yX6_tick ∈ lw_B := lb_4 116 (by decide +kernel) rfl
theorem wm_285 : Cond.instanceMethod yX6_tick ∈ lw_B := lb_4 117 (by decide +kernel) rfl
theorem wm_286 : Cond.selects RX6 yX6_tick yX6_tick ∈ lw_B := lb_4 118 (by decide +kernel) rfl
theorem wm_287 : Cond.code yX6_tick cX6_tick 3 (some .int) ∈ lw_B := lb_4 119 (by decide +kernel) rfl
theorem wm_288 : Cond.methodLink RL 60 yX5_come ∈ lw_B := lb_2 125 (by decide +kernel) rfl
theorem wm_289 : Cond.instanceMethod yX5_come ∈ lw_B := lb_2 126 (by decide +kernel) rfl
theorem wm_290 : Cond.selects RX5 yX5_come yX5_come ∈ lw_B := lb_2 127 (by decide +kernel) rfl
theorem wm_291 : Cond.code yX5_come cX5_come 6 (some .int) ∈ lw_B := lb_2 128 (by decide +kernel) rfl
theorem wm_292 : Cond.methodLink RL 63 yX6_come ∈ lw_B := lb_4 133 (by decide +kernel) rfl
theorem wm_293 : Cond.instanceMethod yX6_come ∈ lw_B := lb_4 134 (by decide +kernel) rfl
theorem wm_294 : Cond.selects RX6 yX6_come yX6_come ∈ lw_B := lb_4 135 (by decide +kernel) rfl
theorem wm_295 : Cond.code yX6_come cX6_come 7 (some .int) ∈ lw_B := lb_4 136 (by decide +kernel) rfl
theorem wm_296 : Cond.methodLink RL 64 yX5_why ∈ lw_B := lb_3 81 (by decide +kernel) rfl
theorem wm_297 : Cond.instanceMethod yX5_why ∈ lw_B := lb_3 82 (by decide +kernel) rfl
theorem wm_298 : Cond.selects RX5 yX5_why yX5_why ∈ lw_B := lb_3 83 (by decide +kernel) rfl
theorem wm_299 : Cond.code yX5_why cX5_why 4 (some .int) ∈ lw_B := lb_3 84 (by decide +kernel) rfl
theorem wm_300 : Cond.methodLink RL 67 yX6_why ∈ lw_B := lb_4 210 (by decide +kernel) rfl
theorem wm_301 : Cond.instanceMethod yX6_why ∈ lw_B := lb_4 211 (by decide +kernel) rfl
theorem wm_302 : Cond.selects RX6 yX6_why yX6_why ∈ lw_B := lb_4 212 (by decide +kernel) rfl
theorem wm_303 : Cond.code yX6_why cX6_why 4 (some .int) ∈ lw_B := lb_4 213 (by decide +kernel) rfl
theorem wm_304 : Cond.methodLink RL 68 yX5_best ∈ lw_B := lb_3 85 (by decide +kernel) rfl
theorem wm_305 : Cond.instanceMethod yX5_best ∈ lw_B := lb_3 86 (by decide +kernel) rfl
theorem wm_306 : Cond.selects RX5 yX5_best yX5_best ∈ lw_B := lb_3 87 (by decide +kernel) rfl
theorem wm_307 : Cond.code yX5_best cX5_best 3 (some .long) ∈ lw_B := lb_3 88 (by decide +kernel) rfl
theorem wm_308 : Cond.methodLink RL 72 yX6_best ∈ lw_B := lb_4 214 (by decide +kernel) rfl
theorem wm_309 : Cond.instanceMethod yX6_best ∈ lw_B := lb_4 215 (by decide +kernel) rfl
theorem wm_310 : Cond.selects RX6 yX6_best yX6_best ∈ lw_B := lb_4 216 (by decide +kernel) rfl
theorem wm_311 : Cond.code yX6_best cX6_best 3 (some .long) ∈ lw_B := lb_4 217 (by decide +kernel) rfl
theorem wm_312 : Cond.methodLink RL 73 yX5_give ∈ lw_B := lb_3 90 (by decide +kernel) rfl
theorem wm_313 : Cond.instanceMethod yX5_give ∈ lw_B := lb_3 91 (by decide +kernel) rfl
theorem wm_314 : Cond.selects RX5 yX5_give yX5_give ∈ lw_B := lb_3 92 (by decide +kernel) rfl
theorem wm_315 : Cond.code yX5_give cX5_give 5 (some .int) ∈ lw_B := lb_3 93 (by decide +kernel) rfl
theorem wm_316 : Cond.methodLink RL 76 yX6_give ∈ lw_B := lb_4 219 (by decide +kernel) rfl
theorem wm_317 : Cond.instanceMethod yX6_give ∈ lw_B := lb_4 220 (by decide +kernel) rfl
theorem wm_318 : Cond.selects RX6 yX6_give yX6_give ∈ lw_B := lb_4 221 (by decide +kernel) rfl
theorem wm_319 : Cond.code yX6_give cX6_give 6 (some .int) ∈ lw_B := lb_4 222 (by decide +kernel) rfl
theorem wm_320 : Cond.methodLink RL 77 yX5_sale ∈ lw_B := lb_3 94 (by decide +kernel) rfl
theorem wm_321 : Cond.instanceMethod yX5_sale ∈ lw_B := lb_3 95 (by decide +kernel) rfl
theorem wm_322 : Cond.selects RX5 yX5_sale yX5_sale ∈ lw_B := lb_3 96 (by decide +kernel) rfl
theorem wm_323 : Cond.code yX5_sale cX5_sale 4 (some .int) ∈ lw_B := lb_3 97 (by decide +kernel) rfl
theorem wm_324 : Cond.methodLink RL 80 yX6_sale ∈ lw_B := lb_4 223 (by decide +kernel) rfl
theorem wm_325 : Cond.instanceMethod yX6_sale ∈ lw_B := lb_4 224 (by decide +kernel) rfl
theorem wm_326 : Cond.selects RX6 yX6_sale yX6_sale ∈ lw_B := lb_4 225 (by decide +kernel) rfl
theorem wm_327 : Cond.code yX6_sale cX6_sale 3 (some .int) ∈ lw_B := lb_4 226 (by decide +kernel) rfl
theorem wm_328 : Cond.methodLink RL 81 yX5_press ∈ lw_B := lb_3 102 (by decide +kernel) rfl
theorem wm_329 : Cond.instanceMethod yX5_press ∈ lw_B := lb_3 103 (by decide +kernel) rfl
theorem wm_330 : Cond.selects RX5 yX5_press yX5_press ∈ lw_B := lb_3 104 (by decide +kernel) rfl
theorem wm_331 : Cond.code yX5_press cX5_press 5 (some .int) ∈ lw_B := lb_3 105 (by decide +kernel) rfl
theorem wm_332 : Cond.methodLink RL 84 yX6_press ∈ lw_B := lb_4 231 (by decide +kernel) rfl
theorem wm_333 : Cond.instanceMethod yX6_press ∈ lw_B := lb_4 232 (by decide +kernel) rfl
theorem wm_334 : Cond.selects RX6 yX6_press yX6_press ∈ lw_B := lb_4 233 (by decide +kernel) rfl
theorem wm_335 : Cond.code yX6_press cX6_press 3 (some .int) ∈ lw_B := lb_4 234 (by decide +kernel) rfl
theorem wm_336 : Cond.methodLink RL 85 yX5_refund ∈ lw_B := lb_3 110 (by decide +kernel) rfl
theorem wm_337 : Cond.instanceMethod yX5_refund ∈ lw_B := lb_3 111 (by decide +kernel) rfl
theorem wm_338 : Cond.selects RX5 yX5_refund yX5_refund ∈ lw_B := lb_3 112 (by decide +kernel) rfl
theorem wm_339 : Cond.code yX5_refund cX5_refund 4 (some .int) ∈ lw_B := lb_3 113 (by decide +kernel) rfl
theorem wm_340 : Cond.methodLink RL 88 yX6_refund ∈ lw_B := lb_4 235 (by decide +kernel) rfl
theorem wm_341 : Cond.instanceMethod yX6_refund ∈ lw_B := lb_4 236 (by decide +kernel) rfl
theorem wm_342 : Cond.selects RX6 yX6_refund yX6_refund ∈ lw_B := lb_4 237 (by decide +kernel) rfl
theorem wm_343 : Cond.code yX6_refund cX6_refund 3 (some .int) ∈ lw_B := lb_4 238 (by decide +kernel) rfl
theorem wm_344 : Cond.methodLink RL 89 yX5_told ∈ lw_B := lb_3 122 (by decide +kernel) rfl
theorem wm_345 : Cond.instanceMethod yX5_told ∈ lw_B := lb_3 123 (by decide +kernel) rfl
theorem wm_346 : Cond.selects RX5 yX5_told yX5_told ∈ lw_B := lb_3 124 (by decide +kernel) rfl
theorem wm_347 : Cond.code yX5_told cX5_told 4 (some .int) ∈ lw_B := lb_3 125 (by decide +kernel) rfl
theorem wm_348 : Cond.methodLink RL 92 yX6_told ∈ lw_B := lb_4 239 (by decide +kernel) rfl
theorem wm_349 : Cond.instanceMethod yX6_told ∈ lw_B := lb_5 0 (by decide +kernel) rfl
theorem wm_350 : Cond.selects RX6 yX6_told yX6_told ∈ lw_B := lb_5 1 (by decide +kernel) rfl
theorem wm_351 : Cond.code yX6_told cX6_told 3 (some .int) ∈ lw_B := lb_5 2 (by decide +kernel) rfl
theorem wm_352 : Cond.methodLink RL 93 yX5_chance ∈ lw_B := lb_3 127 (by decide +kernel) rfl
theorem wm_353 : Cond.instanceMethod yX5_chance ∈ lw_B := lb_3 128 (by decide +kernel) rfl
theorem wm_354 : Cond.selects RX5 yX5_chance yX5_chance ∈ lw_B := lb_3 129 (by decide +kernel) rfl
theorem wm_355 : Cond.code yX5_chance cX5_chance 2 (some .int) ∈ lw_B := lb_3 130 (by decide +kernel) rfl
theorem wm_356 : Cond.methodLink RL 96 yX6_chance ∈ lw_B := lb_5 4 (by decide +kernel) rfl
theorem wm_357 : Cond.instanceMethod yX6_chance ∈ lw_B := lb_5 5 (by decide +kernel) rfl
theorem wm_358 : Cond.selects RX6 yX6_chance yX6_chance ∈ lw_B := lb_5 6 (by decide +kernel) rfl
theorem wm_359 : Cond.code yX6_chance cX6_chance 2 (some .int) ∈ lw_B := lb_5 7 (by decide +kernel) rfl
theorem wm_360 : Cond.methodLink RL 97 yX5_draw ∈ lw_B := lb_3 132 (by decide +kernel) rfl
theorem wm_361 : Cond.instanceMethod yX5_draw ∈ lw_B := lb_3 133 (by decide +kernel) rfl
theorem wm_362 : Cond.selects RX5 yX5_draw yX5_draw ∈ lw_B := lb_3 134 (by decide +kernel) rfl
theorem wm_363 : Cond.code yX5_draw cX5_draw 3 (some .int) ∈ lw_B := lb_3 135 (by decide +kernel) rfl
theorem wm_364 : Cond.methodLink RL 100 yX6_draw ∈ lw_B := lb_5 8 (by decide +kernel) rfl
theorem wm_365 : Cond.instanceMethod yX6_draw ∈ lw_B := lb_5 9 (by decide +kernel) rfl
theorem wm_366 : Cond.selects RX6 yX6_draw yX6_draw ∈ lw_B := lb_5 10 (by decide +kernel) rfl
theorem wm_367 : Cond.code yX6_draw cX6_draw 3 (some .int) ∈ lw_B := lb_5 11 (by decide +kernel) rfl
theorem wm_368 : Cond.methodLink RL 101 yX5_income ∈ lw_B := lb_3 136 (by decide +kernel) rfl
theorem wm_369 : Cond.instanceMethod yX5_income ∈ lw_B := lb_3 137 (by decide +kernel) rfl
theorem wm_370 : Cond.selects RX5 yX5_income yX5_income ∈ lw_B := lb_3 138 (by decide +kernel) rfl
theorem wm_371 : Cond.code yX5_income cX5_income 2 (some .int) ∈ lw_B := lb_3 139 (by decide +kernel) rfl
theorem wm_372 : Cond.methodLink RL 104 yX6_income ∈ lw_B := lb_5 12 (by decide +kernel) rfl
theorem wm_373 : Cond.instanceMethod yX6_income ∈ lw_B := lb_5 13 (by decide +kernel) rfl
theorem wm_374 : Cond.selects RX6 yX6_income yX6_income ∈ lw_B := lb_5 14 (by decide +kernel) rfl
theorem wm_375 : Cond.code yX6_income cX6_income 4 (some .int) ∈ lw_B := lb_5 15 (by decide +kernel) rfl
theorem wm_376 : Cond.methodLink RL 105 yX5_count ∈ lw_B := lb_3 140 (by decide +kernel) rfl
theorem wm_377 : Cond.instanceMethod yX5_count ∈ lw_B := lb_3 141 (by decide +kernel) rfl
theorem wm_378 : Cond.selects RX5 yX5_count yX5_count ∈ lw_B := lb_3 142 (by decide +kernel) rfl
theorem wm_379 : Cond.code yX5_count cX5_count 2 (some .int) ∈ lw_B := lb_3 143 (by decide +kernel) rfl
theorem wm_380 : Cond.methodLink RL 108 yX6_count ∈ lw_B := lb_5 16 (by decide +kernel) rfl
theorem wm_381 : Cond.instanceMethod yX6_count ∈ lw_B := lb_5 17 (by decide +kernel) rfl
theorem wm_382 : Cond.selects RX6 yX6_count yX6_count ∈ lw_B := lb_5 18 (by decide +kernel) rfl
theorem wm_383 : Cond.code yX6_count cX6_count 4 (some .int) ∈ lw_B := lb_5 19 (by decide +kernel) rfl
theorem dX5_isWithin_0 : decode cX5_isWithin 0 = .ok (.iload_n 0, 1) := by decide +kernel
theorem dX5_isWithin_1 : decode cX5_isWithin 1 = .ok (.iload_n 1, 1) := by decide +kernel
theorem dX5_isWithin_2 : decode cX5_isWithin 2 = .ok (.if_icmp .lt 12, 3) := by decide +kernel
theorem dX5_isWithin_5 : decode cX5_isWithin 5 = .ok (.iload_n 0, 1) := by decide +kernel
theorem dX5_isWithin_6 : decode cX5_isWithin 6 = .ok (.iload_n 2, 1) := by decide +kernel
theorem dX5_isWithin_7 : decode cX5_isWithin 7 = .ok (.if_icmp .gt 7, 3) := by decide +kernel
theorem dX5_isWithin_10 : decode cX5_isWithin 10 = .ok (.iconst 1, 1) := by decide +kernel
theorem dX5_isWithin_11 : decode cX5_isWithin 11 = .ok (.goto 4, 3) := by decide +kernel
theorem dX5_isWithin_14 : decode cX5_isWithin 14 = .ok (.iconst 0, 1) := by decide +kernel
theorem dX5_isWithin_15 : decode cX5_isWithin 15 = .ok (.ireturn, 1) := by decide +kernel
theorem dX6_in_0 : decode cX6_in 0 = .ok (.iload_n 0, 1) := by decide +kernel
theorem dX6_in_1 : decode cX6_in 1 = .ok (.iload_n 1, 1) := by decide +kernel
theorem dX6_in_2 : decode cX6_in 2 = .ok (.if_icmp .lt 12, 3) := by decide +kernel
theorem dX6_in_5 : decode cX6_in 5 = .ok (.iload_n 0, 1) := by decide +kernel
theorem dX6_in_6 : decode cX6_in 6 = .ok (.iload_n 2, 1) := by decide +kernel
theorem dX6_in_7 : decode cX6_in 7 = .ok (.if_icmp .gt 7, 3) := by decide +kernel
theorem dX6_in_10 : decode cX6_in 10 = .ok (.iconst 1, 1) := by decide +kernel
theorem dX6_in_11 : decode cX6_in 11 = .ok (.goto 4, 3) := by decide +kernel
theorem dX6_in_14 : decode cX6_in 14 = .ok (.iconst 0, 1) := by decide +kernel
theorem dX6_in_15 : decode cX6_in 15 = .ok (.ireturn, 1) := by decide +kernel
theorem dX5_isReader_0 : decode cX5_isReader 0 = .ok (.iload_n 0, 1) := by decide +kernel
theorem dX5_isReader_1 : decode cX5_isReader 1 = .ok (.ifCond .lt 13, 3) := by decide +kernel
theorem dX5_isReader_4 : decode cX5_isReader 4 = .ok (.iload_n 0, 1) := by decide +kernel
theorem dX5_isReader_5 : decode cX5_isReader 5 = .ok (.bipush 100, 2) := by decide +kernel
theorem dX5_isReader_7 : decode cX5_isReader 7 = .ok (.if_icmp .ge 7, 3) := by decide +kernel
theorem dX5_isReader_10 : decode cX5_isReader 10 = .ok (.iconst 1, 1) := by decide +kernel
theorem dX5_isReader_11 : decode cX5_isReader 11 = .ok (.goto 4, 3) := by decide +kernel
theorem dX5_isReader_14 : decode cX5_isReader 14 = .ok (.iconst 0, 1) := by decide +kernel
theorem dX5_isReader_15 : decode cX5_isReader 15 = .ok (.ireturn, 1) := by decide +kernel
theorem dX5_isSort_0 : decode cX5_isSort 0 = .ok (.iload_n 0, 1) := by decide +kernel
theorem dX5_isSort_1 : decode cX5_isSort 1 = .ok (.ifCond .eq 20, 3) := by decide +kernel
theorem dX5_isSort_4 : decode cX5_isSort 4 = .ok (.iload_n 0, 1) := by decide +kernel
theorem dX5_isSort_5 : decode cX5_isSort 5 = .ok (.iconst 1, 1) := by decide +kernel
theorem dX5_isSort_6 : decode cX5_isSort 6 = .ok (.if_icmp .eq 15, 3) := by decide +kernel
theorem dX5_isSort_9 : decode cX5_isSort 9 = .ok (.iload_n 0, 1) := by decide +kernel
theorem dX5_isSort_10 : decode cX5_isSort 10 = .ok (.bipush 10, 2) := by decide +kernel
theorem dX5_isSort_12 : decode cX5_isSort 12 = .ok (.if_icmp .eq 9, 3) := by decide +kernel
theorem dX5_isSort_15 : decode cX5_isSort 15 = .ok (.iload_n 0, 1) := by decide +kernel
theorem dX5_isSort_16 : decode cX5_isSort 16 = .ok (.bipush 20, 2) := by decide +kernel
theorem dX5_isSort_18 : decode cX5_isSort 18 = .ok (.if_icmp .ne 7, 3) := by decide +kernel
theorem dX5_isSort_21 : decode cX5_isSort 21 = .ok (.iconst 1, 1) := by decide +kernel
theorem dX5_isSort_22 : decode cX5_isSort 22 = .ok (.goto 4, 3) := by decide +kernel
theorem dX5_isSort_25 : decode cX5_isSort 25 = .ok (.iconst 0, 1) := by decide +kernel
theorem dX5_isSort_26 : decode cX5_isSort 26 = .ok (.ireturn, 1) := by decide +kernel
theorem dX5_isWish_0 : decode cX5_isWish 0 = .ok (.iload_n 0, 1) := by decide +kernel
theorem dX5_isWish_1 : decode cX5_isWish 1 = .ok (.ifCond .lt 14, 3) := by decide +kernel
theorem dX5_isWish_4 : decode cX5_isWish 4 = .ok (.iload_n 0, 1) := by decide +kernel
theorem dX5_isWish_5 : decode cX5_isWish 5 = .ok (.sipush 4096, 3) := by decide +kernel
theorem dX5_isWish_8 : decode cX5_isWish 8 = .ok (.idiv, 1) := by decide +kernel
theorem dX5_isWish_9 : decode cX5_isWish 9 = .ok (.sipush 4095, 3) := by decide +kernel
theorem dX5_isWish_12 : decode cX5_isWish 12 = .ok (.if_icmp .le 5, 3) := by decide +kernel
theorem dX5_isWish_15 : decode cX5_isWish 15 = .ok (.iconst 0, 1) := by decide +kernel
theorem dX5_isWish_16 : decode cX5_isWish 16 = .ok (.ireturn, 1) := by decide +kernel
theorem dX5_isWish_17 : decode cX5_isWish 17 = .ok (.iload_n 0, 1) := by decide +kernel
theorem dX5_isWish_18 : decode cX5_isWish 18 = .ok (.sipush 4096, 3) := by decide +kernel
theorem dX5_isWish_21 : decode cX5_isWish 21 = .ok (.idiv, 1) := by decide +kernel
theorem dX5_isWish_22 : decode cX5_isWish 22 = .ok (.iload_n 0, 1) := by decide +kernel
theorem dX5_isWish_23 : decode cX5_isWish 23 = .ok (.sipush 4096, 3) := by decide +kernel
theorem dX5_isWish_26 : decode cX5_isWish 26 = .ok (.irem, 1) := by decide +kernel
theorem dX5_isWish_27 : decode cX5_isWish 27 = .ok (.iand, 1) := by decide +kernel
theorem dX5_isWish_28 : decode cX5_isWish 28 = .ok (.ifCond .ne 7, 3) := by decide +kernel
theorem dX5_isWish_31 : decode cX5_isWish 31 = .ok (.iconst 1, 1) := by decide +kernel
theorem dX5_isWish_32 : decode cX5_isWish 32 = .ok (.goto 4, 3) := by decide +kernel
theorem dX5_isWish_35 : decode cX5_isWish 35 = .ok (.iconst 0, 1) := by decide +kernel
theorem dX5_isWish_36 : decode cX5_isWish 36 = .ok (.ireturn, 1) := by decide +kernel
theorem dX5_isBid_0 : decode cX5_isBid 0 = .ok (.iload_n 0, 1) := by decide +kernel
theorem dX5_isBid_1 : decode cX5_isBid 1 = .ok (.iconst 2, 1) := by decide +kernel
theorem dX5_isBid_2 : decode cX5_isBid 2 = .ok (.if_icmp .ne 15, 3) := by decide +kernel
theorem dX5_isBid_5 : decode cX5_isBid 5 = .ok (.iload_n 1, 1) := by decide +kernel
theorem dX5_isBid_6 : decode cX5_isBid 6 = .ok (.ifCond .ne 7, 3) := by decide +kernel
theorem dX5_isBid_9 : decode cX5_isBid 9 = .ok (.iconst 1, 1) := by decide +kernel
theorem dX5_isBid_10 : decode cX5_isBid 10 = .ok (.goto 15, 3) := by decide +kernel
theorem dX5_isBid_13 : decode cX5_isBid 13 = .ok (.iconst 0, 1) := by decide +kernel
theorem dX5_isBid_14 : decode cX5_isBid 14 = .ok (.goto 11, 3) := by decide +kernel
theorem dX5_isBid_17 : decode cX5_isBid 17 = .ok (.iload_n 1, 1) := by decide +kernel
theorem dX5_isBid_18 : decode cX5_isBid 18 = .ok (.iconst 1, 1) := by decide +kernel
theorem dX5_isBid_19 : decode cX5_isBid 19 = .ok (.sipush 1000, 3) := by decide +kernel
theorem dX5_isBid_22 : decode cX5_isBid 22 = .ok (.invokestatic 65, 3) := by decide +kernel
theorem dX5_isBid_25 : decode cX5_isBid 25 = .ok (.ireturn, 1) := by decide +kernel
theorem dX6_isReader_0 : decode cX6_isReader 0 = .ok (.iload_n 0, 1) := by decide +kernel
theorem dX6_isReader_1 : decode cX6_isReader 1 = .ok (.iconst 0, 1) := by decide +kernel
theorem dX6_isReader_2 : decode cX6_isReader 2 = .ok (.bipush 99, 2) := by decide +kernel
theorem dX6_isReader_4 : decode cX6_isReader 4 = .ok (.invokestatic 136, 3) := by decide +kernel
theorem dX6_isReader_7 : decode cX6_isReader 7 = .ok (.ireturn, 1) := by decide +kernel
theorem dX5_isPage_0 : decode cX5_isPage 0 = .ok (.iload_n 1, 1) := by decide +kernel
theorem dX5_isPage_1 : decode cX5_isPage 1 = .ok (.ifCond .lt 15, 3) := by decide +kernel
theorem dX5_isPage_4 : decode cX5_isPage 4 = .ok (.iload_n 1, 1) := by decide +kernel
theorem dX5_isPage_5 : decode cX5_isPage 5 = .ok (.aload_n 0, 1) := by decide +kernel
theorem dX5_isPage_6 : decode cX5_isPage 6 = .ok (.getfield 55, 3) := by decide +kernel
theorem dX5_isPage_9 : decode cX5_isPage 9 = .ok (.if_icmp .ge 7, 3) := by decide +kernel
theorem dX5_isPage_12 : decode cX5_isPage 12 = .ok (.iconst 1, 1) := by decide +kernel
theorem dX5_isPage_13 : decode cX5_isPage 13 = .ok (.goto 4, 3) := by decide +kernel
theorem dX5_isPage_16 : decode cX5_isPage 16 = .ok (.iconst 0, 1) := by decide +kernel
theorem dX5_isPage_17 : decode cX5_isPage 17 = .ok (.ireturn, 1) := by decide +kernel
theorem dX5_isCampaign_0 : decode cX5_isCampaign 0 = .ok (.iload_n 1, 1) := by decide +kernel
theorem dX5_isCampaign_1 : decode cX5_isCampaign 1 = .ok (.ifCond .lt 15, 3) := by decide +kernel
theorem dX5_isCampaign_4 : decode cX5_isCampaign 4 = .ok (.iload_n 1, 1) := by decide +kernel
theorem dX5_isCampaign_5 : decode cX5_isCampaign 5 = .ok (.aload_n 0, 1) := by decide +kernel
theorem dX5_isCampaign_6 : decode cX5_isCampaign 6 = .ok (.getfield 79, 3) := by decide +kernel
theorem dX5_isCampaign_9 : decode cX5_isCampaign 9 = .ok (.if_icmp .ge 7, 3) := by decide +kernel
theorem dX5_isCampaign_12 : decode cX5_isCampaign 12 = .ok (.iconst 1, 1) := by decide +kernel
theorem dX5_isCampaign_13 : decode cX5_isCampaign 13 = .ok (.goto 4, 3) := by decide +kernel
theorem dX5_isCampaign_16 : decode cX5_isCampaign 16 = .ok (.iconst 0, 1) := by decide +kernel
theorem dX5_isCampaign_17 : decode cX5_isCampaign 17 = .ok (.ireturn, 1) := by decide +kernel
theorem dX5_isSale_0 : decode cX5_isSale 0 = .ok (.iload_n 1, 1) := by decide +kernel
theorem dX5_isSale_1 : decode cX5_isSale 1 = .ok (.ifCond .lt 15, 3) := by decide +kernel
theorem dX5_isSale_4 : decode cX5_isSale 4 = .ok (.iload_n 1, 1) := by decide +kernel
theorem dX5_isSale_5 : decode cX5_isSale 5 = .ok (.aload_n 0, 1) := by decide +kernel
theorem dX5_isSale_6 : decode cX5_isSale 6 = .ok (.getfield 138, 3) := by decide +kernel
theorem dX5_isSale_9 : decode cX5_isSale 9 = .ok (.if_icmp .ge 7, 3) := by decide +kernel
theorem dX5_isSale_12 : decode cX5_isSale 12 = .ok (.iconst 1, 1) := by decide +kernel
theorem dX5_isSale_13 : decode cX5_isSale 13 = .ok (.goto 4, 3) := by decide +kernel
theorem dX5_isSale_16 : decode cX5_isSale 16 = .ok (.iconst 0, 1) := by decide +kernel
theorem dX5_isSale_17 : decode cX5_isSale 17 = .ok (.ireturn, 1) := by decide +kernel
theorem dX6_isPage_0 : decode cX6_isPage 0 = .ok (.iload_n 1, 1) := by decide +kernel
theorem dX6_isPage_1 : decode cX6_isPage 1 = .ok (.iconst 0, 1) := by decide +kernel
theorem dX6_isPage_2 : decode cX6_isPage 2 = .ok (.aload_n 0, 1) := by decide +kernel
theorem dX6_isPage_3 : decode cX6_isPage 3 = .ok (.getfield 133, 3) := by decide +kernel
theorem dX6_isPage_6 : decode cX6_isPage 6 = .ok (.iconst 1, 1) := by decide +kernel
theorem dX6_isPage_7 : decode cX6_isPage 7 = .ok (.isub, 1) := by decide +kernel
theorem dX6_isPage_8 : decode cX6_isPage 8 = .ok (.invokestatic 136, 3) := by decide +kernel
theorem dX6_isPage_11 : decode cX6_isPage 11 = .ok (.ireturn, 1) := by decide +kernel
theorem dX6_isCampaign_0 : decode cX6_isCampaign 0 = .ok (.iload_n 1, 1) := by decide +kernel
theorem dX6_isCampaign_1 : decode cX6_isCampaign 1 = .ok (.iconst 0, 1) := by decide +kernel
theorem dX6_isCampaign_2 : decode cX6_isCampaign 2 = .ok (.aload_n 0, 1) := by decide +kernel
theorem dX6_isCampaign_3 : decode cX6_isCampaign 3 = .ok (.getfield 140, 3) := by decide +kernel
theorem dX6_isCampaign_6 : decode cX6_isCampaign 6 = .ok (.iconst 1, 1) := by decide +kernel
theorem dX6_isCampaign_7 : decode cX6_isCampaign 7 = .ok (.isub, 1) := by decide +kernel
theorem dX6_isCampaign_8 : decode cX6_isCampaign 8 = .ok (.invokestatic 136, 3) := by decide +kernel
theorem dX6_isCampaign_11 : decode cX6_isCampaign 11 = .ok (.ireturn, 1) := by decide +kernel
theorem dX6_isSale_0 : decode cX6_isSale 0 = .ok (.iload_n 1, 1) := by decide +kernel
theorem dX6_isSale_1 : decode cX6_isSale 1 = .ok (.iconst 0, 1) := by decide +kernel
theorem dX6_isSale_2 : decode cX6_isSale 2 = .ok (.aload_n 0, 1) := by decide +kernel
theorem dX6_isSale_3 : decode cX6_isSale 3 = .ok (.getfield 161, 3) := by decide +kernel
theorem dX6_isSale_6 : decode cX6_isSale 6 = .ok (.iconst 1, 1) := by decide +kernel
theorem dX6_isSale_7 : decode cX6_isSale 7 = .ok (.isub, 1) := by decide +kernel
theorem dX6_isSale_8 : decode cX6_isSale 8 = .ok (.invokestatic 136, 3) := by decide +kernel
theorem dX6_isSale_11 : decode cX6_isSale 11 = .ok (.ireturn, 1) := by decide +kernel
theorem dX5_budget_0 : decode cX5_budget 0 = .ok (.aload_n 0, 1) := by decide +kernel
theorem dX5_budget_1 : decode cX5_budget 1 = .ok (.iload_n 1, 1) := by decide +kernel
theorem dX5_budget_2 : decode cX5_budget 2 = .ok (.invokevirtual 85, 3) := by decide +kernel
theorem dX5_budget_5 : decode cX5_budget 5 = .ok (.ifCond .eq 23, 3) := by decide +kernel
theorem dX5_budget_28 : decode cX5_budget 28 = .ok (.iconst (-1), 1) := by decide +kernel
theorem dX5_budget_29 : decode cX5_budget 29 = .ok (.ireturn, 1) := by decide +kernel
theorem dX6_budget_0 : decode cX6_budget 0 = .ok (.aload_n 0, 1) := by decide +kernel
theorem dX6_budget_1 : decode cX6_budget 1 = .ok (.iload_n 1, 1) := by decide +kernel
theorem dX6_budget_2 : decode cX6_budget 2 = .ok (.invokevirtual 148, 3) := by decide +kernel
theorem dX6_budget_5 : decode cX6_budget 5 = .ok (.ifCond .eq 23, 3) := by decide +kernel
theorem dX6_budget_28 : decode cX6_budget 28 = .ok (.iconst (-1), 1) := by decide +kernel
theorem dX6_budget_29 : decode cX6_budget 29 = .ok (.ireturn, 1) := by decide +kernel
theorem dX5_cap_0 : decode cX5_cap 0 = .ok (.aload_n 0, 1) := by decide +kernel
theorem dX5_cap_1 : decode cX5_cap 1 = .ok (.iload_n 1, 1) := by decide +kernel
theorem dX5_cap_2 : decode cX5_cap 2 = .ok (.invokevirtual 85, 3) := by decide +kernel
theorem dX5_cap_5 : decode cX5_cap 5 = .ok (.ifCond .eq 24, 3) := by decide +kernel
theorem dX5_cap_29 : decode cX5_cap 29 = .ok (.iconst (-1), 1) := by decide +kernel
theorem dX5_cap_30 : decode cX5_cap 30 = .ok (.ireturn, 1) := by decide +kernel
theorem dX6_cap_0 : decode cX6_cap 0 = .ok (.aload_n 0, 1) := by decide +kernel
theorem dX6_cap_1 : decode cX6_cap 1 = .ok (.iload_n 1, 1) := by decide +kernel
theorem dX6_cap_2 : decode cX6_cap 2 = .ok (.invokevirtual 148, 3) := by decide +kernel
theorem dX6_cap_5 : decode cX6_cap 5 = .ok (.ifCond .eq 24, 3) := by decide +kernel
theorem dX6_cap_29 : decode cX6_cap 29 = .ok (.iconst (-1), 1) := by decide +kernel
theorem dX6_cap_30 : decode cX6_cap 30 = .ok (.ireturn, 1) := by decide +kernel
theorem dX5_apart_0 : decode cX5_apart 0 = .ok (.aload_n 0, 1) := by decide +kernel
theorem dX5_apart_1 : decode cX5_apart 1 = .ok (.iload_n 1, 1) := by decide +kernel
theorem dX5_apart_2 : decode cX5_apart 2 = .ok (.invokevirtual 85, 3) := by decide +kernel
theorem dX5_apart_5 : decode cX5_apart 5 = .ok (.ifCond .eq 25, 3) := by decide +kernel
theorem dX5_apart_30 : decode cX5_apart 30 = .ok (.iconst (-1), 1) := by decide +kernel
theorem dX5_apart_31 : decode cX5_apart 31 = .ok (.ireturn, 1) := by decide +kernel
theorem dX6_apart_0 : decode cX6_apart 0 = .ok (.aload_n 0, 1) := by decide +kernel
theorem dX6_apart_1 : decode cX6_apart 1 = .ok (.iload_n 1, 1) := by decide +kernel
theorem dX6_apart_2 : decode cX6_apart 2 = .ok (.invokevirtual 148, 3) := by decide +kernel
theorem dX6_apart_5 : decode cX6_apart 5 = .ok (.ifCond .eq 25, 3) := by decide +kernel
theorem dX6_apart_30 : decode cX6_apart 30 = .ok (.iconst (-1), 1) := by decide +kernel
theorem dX6_apart_31 : decode cX6_apart 31 = .ok (.ireturn, 1) := by decide +kernel
theorem dX5_promise_0 : decode cX5_promise 0 = .ok (.aload_n 0, 1) := by decide +kernel
theorem dX5_promise_1 : decode cX5_promise 1 = .ok (.iload_n 1, 1) := by decide +kernel
theorem dX5_promise_2 : decode cX5_promise 2 = .ok (.invokevirtual 85, 3) := by decide +kernel
theorem dX5_promise_5 : decode cX5_promise 5 = .ok (.ifCond .eq 25, 3) := by decide +kernel
theorem dX5_promise_30 : decode cX5_promise 30 = .ok (.iconst (-1), 1) := by decide +kernel
theorem dX5_promise_31 : decode cX5_promise 31 = .ok (.ireturn, 1) := by decide +kernel
theorem dX6_promise_0 : decode cX6_promise 0 = .ok (.aload_n 0, 1) := by decide +kernel
theorem dX6_promise_1 : decode cX6_promise 1 = .ok (.iload_n 1, 1) := by decide +kernel
theorem dX6_promise_2 : decode cX6_promise 2 = .ok (.invokevirtual 148, 3) := by decide +kernel
theorem dX6_promise_5 : decode cX6_promise 5 = .ok (.ifCond .eq 35, 3) := by decide +kernel
theorem dX6_promise_40 : decode cX6_promise 40 = .ok (.iconst (-1), 1) := by decide +kernel
theorem dX6_promise_41 : decode cX6_promise 41 = .ok (.ireturn, 1) := by decide +kernel
theorem dX5_stop_0 : decode cX5_stop 0 = .ok (.aload_n 0, 1) := by decide +kernel
theorem dX5_stop_1 : decode cX5_stop 1 = .ok (.iload_n 1, 1) := by decide +kernel
theorem dX5_stop_2 : decode cX5_stop 2 = .ok (.invokevirtual 85, 3) := by decide +kernel
theorem dX5_stop_5 : decode cX5_stop 5 = .ok (.ifCond .eq 12, 3) := by decide +kernel
theorem dX5_stop_17 : decode cX5_stop 17 = .ok (.iconst (-1), 1) := by decide +kernel
theorem dX5_stop_18 : decode cX5_stop 18 = .ok (.ireturn, 1) := by decide +kernel
theorem dX6_stop_0 : decode cX6_stop 0 = .ok (.aload_n 0, 1) := by decide +kernel
theorem dX6_stop_1 : decode cX6_stop 1 = .ok (.iload_n 1, 1) := by decide +kernel
theorem dX6_stop_2 : decode cX6_stop 2 = .ok (.invokevirtual 148, 3) := by decide +kernel
theorem dX6_stop_5 : decode cX6_stop 5 = .ok (.ifCond .eq 12, 3) := by decide +kernel
theorem dX6_stop_17 : decode cX6_stop 17 = .ok (.iconst (-1), 1) := by decide +kernel
theorem dX6_stop_18 : decode cX6_stop 18 = .ok (.ireturn, 1) := by decide +kernel
theorem dX5_come_0 : decode cX5_come 0 = .ok (.iload_n 1, 1) := by decide +kernel
theorem dX5_come_1 : decode cX5_come 1 = .ok (.invokestatic 61, 3) := by decide +kernel
theorem dX5_come_4 : decode cX5_come 4 = .ok (.ifCond .eq 11, 3) := by decide +kernel
theorem dX5_come_7 : decode cX5_come 7 = .ok (.aload_n 0, 1) := by decide +kernel
theorem dX5_come_8 : decode cX5_come 8 = .ok (.iload_n 2, 1) := by decide +kernel
theorem dX5_come_9 : decode cX5_come 9 = .ok (.invokevirtual 135, 3) := by decide +kernel
theorem dX5_come_12 : decode cX5_come 12 = .ok (.ifCond .ne 5, 3) := by decide +kernel
theorem dX5_come_15 : decode cX5_come 15 = .ok (.iconst (-1), 1) := by decide +kernel
theorem dX5_come_16 : decode cX5_come 16 = .ok (.ireturn, 1) := by decide +kernel
theorem dX6_come_0 : decode cX6_come 0 = .ok (.iload_n 1, 1) := by decide +kernel
theorem dX6_come_1 : decode cX6_come 1 = .ok (.invokestatic 143, 3) := by decide +kernel
theorem dX6_come_4 : decode cX6_come 4 = .ok (.ifCond .eq 11, 3) := by decide +kernel
theorem dX6_come_7 : decode cX6_come 7 = .ok (.aload_n 0, 1) := by decide +kernel
theorem dX6_come_8 : decode cX6_come 8 = .ok (.iload_n 2, 1) := by decide +kernel
theorem dX6_come_9 : decode cX6_come 9 = .ok (.invokevirtual 243, 3) := by decide +kernel
theorem dX6_come_12 : decode cX6_come 12 = .ok (.ifCond .ne 5, 3) := by decide +kernel
theorem dX6_come_15 : decode cX6_come 15 = .ok (.iconst (-1), 1) := by decide +kernel
theorem dX6_come_16 : decode cX6_come 16 = .ok (.ireturn, 1) := by decide +kernel
theorem dX5_why_0 : decode cX5_why 0 = .ok (.aload_n 0, 1) := by decide +kernel
theorem dX5_why_1 : decode cX5_why 1 = .ok (.iload_n 1, 1) := by decide +kernel
theorem dX5_why_2 : decode cX5_why 2 = .ok (.invokevirtual 85, 3) := by decide +kernel
theorem dX5_why_5 : decode cX5_why 5 = .ok (.ifCond .eq 18, 3) := by decide +kernel
theorem dX5_why_23 : decode cX5_why 23 = .ok (.iconst (-1), 1) := by decide +kernel
theorem dX5_why_24 : decode cX5_why 24 = .ok (.ireturn, 1) := by decide +kernel
theorem dX6_why_0 : decode cX6_why 0 = .ok (.aload_n 0, 1) := by decide +kernel
theorem dX6_why_1 : decode cX6_why 1 = .ok (.iload_n 1, 1) := by decide +kernel
theorem dX6_why_2 : decode cX6_why 2 = .ok (.invokevirtual 148, 3) := by decide +kernel
theorem dX6_why_5 : decode cX6_why 5 = .ok (.ifCond .eq 28, 3) := by decide +kernel
theorem dX6_why_33 : decode cX6_why 33 = .ok (.iconst (-1), 1) := by decide +kernel
theorem dX6_why_34 : decode cX6_why 34 = .ok (.ireturn, 1) := by decide +kernel
theorem dX5_best_0 : decode cX5_best 0 = .ok (.iload_n 1, 1) := by decide +kernel
theorem dX5_best_1 : decode cX5_best 1 = .ok (.invokestatic 61, 3) := by decide +kernel
theorem dX5_best_4 : decode cX5_best 4 = .ok (.ifCond .eq 11, 3) := by decide +kernel
theorem dX5_best_7 : decode cX5_best 7 = .ok (.aload_n 0, 1) := by decide +kernel
theorem dX5_best_8 : decode cX5_best 8 = .ok (.iload_n 2, 1) := by decide +kernel
theorem dX5_best_9 : decode cX5_best 9 = .ok (.invokevirtual 135, 3) := by decide +kernel
theorem dX5_best_12 : decode cX5_best 12 = .ok (.ifCond .ne 7, 3) := by decide +kernel
theorem dX5_best_15 : decode cX5_best 15 = .ok (.ldc2_w 159, 3) := by decide +kernel
theorem dX5_best_18 : decode cX5_best 18 = .ok (.lreturn, 1) := by decide +kernel
theorem dX6_best_0 : decode cX6_best 0 = .ok (.iload_n 1, 1) := by decide +kernel
theorem dX6_best_1 : decode cX6_best 1 = .ok (.invokestatic 143, 3) := by decide +kernel
theorem dX6_best_4 : decode cX6_best 4 = .ok (.ifCond .eq 20, 3) := by decide +kernel
theorem dX6_best_7 : decode cX6_best 7 = .ok (.aload_n 0, 1) := by decide +kernel
theorem dX6_best_8 : decode cX6_best 8 = .ok (.iload_n 2, 1) := by decide +kernel
theorem dX6_best_9 : decode cX6_best 9 = .ok (.invokevirtual 243, 3) := by decide +kernel
theorem dX6_best_12 : decode cX6_best 12 = .ok (.ifCond .eq 12, 3) := by decide +kernel
theorem dX6_best_24 : decode cX6_best 24 = .ok (.ldc2_w 263, 3) := by decide +kernel
theorem dX6_best_27 : decode cX6_best 27 = .ok (.lreturn, 1) := by decide +kernel
theorem dX5_give_0 : decode cX5_give 0 = .ok (.iload_n 1, 1) := by decide +kernel
theorem dX5_give_1 : decode cX5_give 1 = .ok (.invokestatic 61, 3) := by decide +kernel
theorem dX5_give_4 : decode cX5_give 4 = .ok (.ifCond .eq 30, 3) := by decide +kernel
theorem dX5_give_7 : decode cX5_give 7 = .ok (.aload_n 0, 1) := by decide +kernel
theorem dX5_give_8 : decode cX5_give 8 = .ok (.iload_n 2, 1) := by decide +kernel
theorem dX5_give_9 : decode cX5_give 9 = .ok (.invokevirtual 135, 3) := by decide +kernel
theorem dX5_give_12 : decode cX5_give 12 = .ok (.ifCond .eq 22, 3) := by decide +kernel
theorem dX5_give_34 : decode cX5_give 34 = .ok (.iconst (-1), 1) := by decide +kernel
theorem dX5_give_35 : decode cX5_give 35 = .ok (.ireturn, 1) := by decide +kernel
theorem dX6_give_0 : decode cX6_give 0 = .ok (.iload_n 1, 1) := by decide +kernel
theorem dX6_give_1 : decode cX6_give 1 = .ok (.invokestatic 143, 3) := by decide +kernel
theorem dX6_give_4 : decode cX6_give 4 = .ok (.ifCond .eq 27, 3) := by decide +kernel
theorem dX6_give_7 : decode cX6_give 7 = .ok (.aload_n 0, 1) := by decide +kernel
theorem dX6_give_8 : decode cX6_give 8 = .ok (.iload_n 2, 1) := by decide +kernel
theorem dX6_give_9 : decode cX6_give 9 = .ok (.invokevirtual 243, 3) := by decide +kernel
theorem dX6_give_12 : decode cX6_give 12 = .ok (.ifCond .eq 19, 3) := by decide +kernel
theorem dX6_give_31 : decode cX6_give 31 = .ok (.iconst (-1), 1) := by decide +kernel
theorem dX6_give_32 : decode cX6_give 32 = .ok (.ireturn, 1) := by decide +kernel
theorem dX5_sale_0 : decode cX5_sale 0 = .ok (.aload_n 0, 1) := by decide +kernel
theorem dX5_sale_1 : decode cX5_sale 1 = .ok (.iload_n 1, 1) := by decide +kernel
theorem dX5_sale_2 : decode cX5_sale 2 = .ok (.invokevirtual 164, 3) := by decide +kernel
theorem dX5_sale_5 : decode cX5_sale 5 = .ok (.ifCond .ne 5, 3) := by decide +kernel
theorem dX5_sale_8 : decode cX5_sale 8 = .ok (.iconst (-1), 1) := by decide +kernel
theorem dX5_sale_9 : decode cX5_sale 9 = .ok (.ireturn, 1) := by decide +kernel
theorem dX6_sale_0 : decode cX6_sale 0 = .ok (.aload_n 0, 1) := by decide +kernel
theorem dX6_sale_1 : decode cX6_sale 1 = .ok (.iload_n 1, 1) := by decide +kernel
theorem dX6_sale_2 : decode cX6_sale 2 = .ok (.invokevirtual 265, 3) := by decide +kernel
theorem dX6_sale_5 : decode cX6_sale 5 = .ok (.ifCond .ne 5, 3) := by decide +kernel
theorem dX6_sale_8 : decode cX6_sale 8 = .ok (.iconst (-1), 1) := by decide +kernel
theorem dX6_sale_9 : decode cX6_sale 9 = .ok (.ireturn, 1) := by decide +kernel
theorem dX5_press_0 : decode cX5_press 0 = .ok (.aload_n 0, 1) := by decide +kernel
theorem dX5_press_1 : decode cX5_press 1 = .ok (.iload_n 1, 1) := by decide +kernel
theorem dX5_press_2 : decode cX5_press 2 = .ok (.invokevirtual 164, 3) := by decide +kernel
theorem dX5_press_5 : decode cX5_press 5 = .ok (.ifCond .ne 5, 3) := by decide +kernel
theorem dX5_press_8 : decode cX5_press 8 = .ok (.iconst (-1), 1) := by decide +kernel
theorem dX5_press_9 : decode cX5_press 9 = .ok (.ireturn, 1) := by decide +kernel
theorem dX6_press_0 : decode cX6_press 0 = .ok (.aload_n 0, 1) := by decide +kernel
theorem dX6_press_1 : decode cX6_press 1 = .ok (.iload_n 1, 1) := by decide +kernel
theorem dX6_press_2 : decode cX6_press 2 = .ok (.invokevirtual 265, 3) := by decide +kernel
theorem dX6_press_5 : decode cX6_press 5 = .ok (.ifCond .ne 5, 3) := by decide +kernel
theorem dX6_press_8 : decode cX6_press 8 = .ok (.iconst (-1), 1) := by decide +kernel
theorem dX6_press_9 : decode cX6_press 9 = .ok (.ireturn, 1) := by decide +kernel
theorem dX5_refund_0 : decode cX5_refund 0 = .ok (.aload_n 0, 1) := by decide +kernel
theorem dX5_refund_1 : decode cX5_refund 1 = .ok (.iload_n 1, 1) := by decide +kernel
theorem dX5_refund_2 : decode cX5_refund 2 = .ok (.invokevirtual 164, 3) := by decide +kernel
theorem dX5_refund_5 : decode cX5_refund 5 = .ok (.ifCond .ne 5, 3) := by decide +kernel
theorem dX5_refund_8 : decode cX5_refund 8 = .ok (.iconst (-1), 1) := by decide +kernel
theorem dX5_refund_9 : decode cX5_refund 9 = .ok (.ireturn, 1) := by decide +kernel
theorem dX6_refund_0 : decode cX6_refund 0 = .ok (.aload_n 0, 1) := by decide +kernel
theorem dX6_refund_1 : decode cX6_refund 1 = .ok (.iload_n 1, 1) := by decide +kernel
theorem dX6_refund_2 : decode cX6_refund 2 = .ok (.invokevirtual 265, 3) := by decide +kernel
theorem dX6_refund_5 : decode cX6_refund 5 = .ok (.ifCond .ne 5, 3) := by decide +kernel
theorem dX6_refund_8 : decode cX6_refund 8 = .ok (.iconst (-1), 1) := by decide +kernel
theorem dX6_refund_9 : decode cX6_refund 9 = .ok (.ireturn, 1) := by decide +kernel
theorem dX5_told_0 : decode cX5_told 0 = .ok (.aload_n 0, 1) := by decide +kernel
theorem dX5_told_1 : decode cX5_told 1 = .ok (.iload_n 1, 1) := by decide +kernel
theorem dX5_told_2 : decode cX5_told 2 = .ok (.invokevirtual 85, 3) := by decide +kernel
theorem dX5_told_5 : decode cX5_told 5 = .ok (.ifCond .ne 6, 3) := by decide +kernel
theorem dX5_told_8 : decode cX5_told 8 = .ok (.ldc 229, 2) := by decide +kernel
theorem dX5_told_10 : decode cX5_told 10 = .ok (.ireturn, 1) := by decide +kernel
theorem dX6_told_0 : decode cX6_told 0 = .ok (.aload_n 0, 1) := by decide +kernel
theorem dX6_told_1 : decode cX6_told 1 = .ok (.iload_n 1, 1) := by decide +kernel
theorem dX6_told_2 : decode cX6_told 2 = .ok (.invokevirtual 148, 3) := by decide +kernel
theorem dX6_told_5 : decode cX6_told 5 = .ok (.ifCond .ne 7, 3) := by decide +kernel
theorem dX6_told_8 : decode cX6_told 8 = .ok (.ldc_w 268, 3) := by decide +kernel
theorem dX6_told_11 : decode cX6_told 11 = .ok (.ireturn, 1) := by decide +kernel
theorem dX5_chance_0 : decode cX5_chance 0 = .ok (.aload_n 0, 1) := by decide +kernel
theorem dX5_chance_1 : decode cX5_chance 1 = .ok (.iload_n 1, 1) := by decide +kernel
theorem dX5_chance_2 : decode cX5_chance 2 = .ok (.invokevirtual 85, 3) := by decide +kernel
theorem dX5_chance_5 : decode cX5_chance 5 = .ok (.ifCond .ne 5, 3) := by decide +kernel
theorem dX5_chance_8 : decode cX5_chance 8 = .ok (.iconst (-1), 1) := by decide +kernel
theorem dX5_chance_9 : decode cX5_chance 9 = .ok (.ireturn, 1) := by decide +kernel
theorem dX6_chance_0 : decode cX6_chance 0 = .ok (.aload_n 0, 1) := by decide +kernel
theorem dX6_chance_1 : decode cX6_chance 1 = .ok (.iload_n 1, 1) := by decide +kernel
theorem dX6_chance_2 : decode cX6_chance 2 = .ok (.invokevirtual 148, 3) := by decide +kernel
theorem dX6_chance_5 : decode cX6_chance 5 = .ok (.ifCond .eq 37, 3) := by decide +kernel
theorem dX6_chance_42 : decode cX6_chance 42 = .ok (.iconst (-1), 1) := by decide +kernel
theorem dX6_chance_43 : decode cX6_chance 43 = .ok (.ireturn, 1) := by decide +kernel
theorem dX5_draw_0 : decode cX5_draw 0 = .ok (.aload_n 0, 1) := by decide +kernel
theorem dX5_draw_1 : decode cX5_draw 1 = .ok (.iload_n 1, 1) := by decide +kernel
theorem dX5_draw_2 : decode cX5_draw 2 = .ok (.invokevirtual 85, 3) := by decide +kernel
theorem dX5_draw_5 : decode cX5_draw 5 = .ok (.ifCond .eq 10, 3) := by decide +kernel
theorem dX5_draw_15 : decode cX5_draw 15 = .ok (.iconst (-1), 1) := by decide +kernel
theorem dX5_draw_16 : decode cX5_draw 16 = .ok (.ireturn, 1) := by decide +kernel
theorem dX6_draw_0 : decode cX6_draw 0 = .ok (.aload_n 0, 1) := by decide +kernel
theorem dX6_draw_1 : decode cX6_draw 1 = .ok (.iload_n 1, 1) := by decide +kernel
theorem dX6_draw_2 : decode cX6_draw 2 = .ok (.invokevirtual 148, 3) := by decide +kernel
theorem dX6_draw_5 : decode cX6_draw 5 = .ok (.ifCond .eq 19, 3) := by decide +kernel
theorem dX6_draw_24 : decode cX6_draw 24 = .ok (.iconst (-1), 1) := by decide +kernel
theorem dX6_draw_25 : decode cX6_draw 25 = .ok (.ireturn, 1) := by decide +kernel
theorem dX5_income_0 : decode cX5_income 0 = .ok (.aload_n 0, 1) := by decide +kernel
theorem dX5_income_1 : decode cX5_income 1 = .ok (.iload_n 1, 1) := by decide +kernel
theorem dX5_income_2 : decode cX5_income 2 = .ok (.invokevirtual 135, 3) := by decide +kernel
theorem dX5_income_5 : decode cX5_income 5 = .ok (.ifCond .ne 5, 3) := by decide +kernel
theorem dX5_income_8 : decode cX5_income 8 = .ok (.iconst (-1), 1) := by decide +kernel
theorem dX5_income_9 : decode cX5_income 9 = .ok (.ireturn, 1) := by decide +kernel
theorem dX6_income_0 : decode cX6_income 0 = .ok (.aload_n 0, 1) := by decide +kernel
theorem dX6_income_1 : decode cX6_income 1 = .ok (.iload_n 1, 1) := by decide +kernel
theorem dX6_income_2 : decode cX6_income 2 = .ok (.invokevirtual 243, 3) := by decide +kernel
theorem dX6_income_5 : decode cX6_income 5 = .ok (.ifCond .ne 5, 3) := by decide +kernel
theorem dX6_income_8 : decode cX6_income 8 = .ok (.iconst (-1), 1) := by decide +kernel
theorem dX6_income_9 : decode cX6_income 9 = .ok (.ireturn, 1) := by decide +kernel
theorem dX5_rule_0 : decode cX5_rule 0 = .ok (.iload_n 1, 1) := by decide +kernel
theorem dX5_rule_1 : decode cX5_rule 1 = .ok (.ifCond .eq 10, 3) := by decide +kernel
theorem dX5_rule_4 : decode cX5_rule 4 = .ok (.iload_n 1, 1) := by decide +kernel
theorem dX5_rule_5 : decode cX5_rule 5 = .ok (.iconst 1, 1) := by decide +kernel
theorem dX5_rule_6 : decode cX5_rule 6 = .ok (.if_icmp .eq 5, 3) := by decide +kernel
theorem dX5_rule_9 : decode cX5_rule 9 = .ok (.iconst (-1), 1) := by decide +kernel
theorem dX5_rule_10 : decode cX5_rule 10 = .ok (.ireturn, 1) := by decide +kernel
theorem dX5_rule_11 : decode cX5_rule 11 = .ok (.aload_n 0, 1) := by decide +kernel
theorem dX5_rule_12 : decode cX5_rule 12 = .ok (.getfield 123, 3) := by decide +kernel
theorem dX5_rule_15 : decode cX5_rule 15 = .ok (.istore_n 2, 1) := by decide +kernel
theorem dX5_rule_16 : decode cX5_rule 16 = .ok (.aload_n 0, 1) := by decide +kernel
theorem dX5_rule_17 : decode cX5_rule 17 = .ok (.iload_n 1, 1) := by decide +kernel
theorem dX5_rule_18 : decode cX5_rule 18 = .ok (.putfield 123, 3) := by decide +kernel
theorem dX5_rule_21 : decode cX5_rule 21 = .ok (.iload_n 2, 1) := by decide +kernel
theorem dX5_rule_22 : decode cX5_rule 22 = .ok (.ireturn, 1) := by decide +kernel
theorem dX6_rule_0 : decode cX6_rule 0 = .ok (.iload_n 1, 1) := by decide +kernel
theorem dX6_rule_1 : decode cX6_rule 1 = .ok (.iconst 0, 1) := by decide +kernel
theorem dX6_rule_2 : decode cX6_rule 2 = .ok (.iconst 1, 1) := by decide +kernel
theorem dX6_rule_3 : decode cX6_rule 3 = .ok (.invokestatic 136, 3) := by decide +kernel
theorem dX6_rule_6 : decode cX6_rule 6 = .ok (.ifCond .ne 5, 3) := by decide +kernel
theorem dX6_rule_9 : decode cX6_rule 9 = .ok (.iconst (-1), 1) := by decide +kernel
theorem dX6_rule_10 : decode cX6_rule 10 = .ok (.ireturn, 1) := by decide +kernel
theorem dX6_rule_11 : decode cX6_rule 11 = .ok (.aload_n 0, 1) := by decide +kernel
theorem dX6_rule_12 : decode cX6_rule 12 = .ok (.getfield 155, 3) := by decide +kernel
theorem dX6_rule_15 : decode cX6_rule 15 = .ok (.istore_n 2, 1) := by decide +kernel
theorem dX6_rule_16 : decode cX6_rule 16 = .ok (.aload_n 0, 1) := by decide +kernel
theorem dX6_rule_17 : decode cX6_rule 17 = .ok (.iload_n 1, 1) := by decide +kernel
theorem dX6_rule_18 : decode cX6_rule 18 = .ok (.putfield 155, 3) := by decide +kernel
theorem dX6_rule_21 : decode cX6_rule 21 = .ok (.iload_n 2, 1) := by decide +kernel
theorem dX6_rule_22 : decode cX6_rule 22 = .ok (.ireturn, 1) := by decide +kernel
theorem dX5_pace_0 : decode cX5_pace 0 = .ok (.iload_n 1, 1) := by decide +kernel
theorem dX5_pace_1 : decode cX5_pace 1 = .ok (.ifCond .eq 16, 3) := by decide +kernel
theorem dX5_pace_4 : decode cX5_pace 4 = .ok (.iload_n 1, 1) := by decide +kernel
theorem dX5_pace_5 : decode cX5_pace 5 = .ok (.bipush 10, 2) := by decide +kernel
theorem dX5_pace_7 : decode cX5_pace 7 = .ok (.bipush 100, 2) := by decide +kernel
theorem dX5_pace_9 : decode cX5_pace 9 = .ok (.invokestatic 65, 3) := by decide +kernel
theorem dX5_pace_12 : decode cX5_pace 12 = .ok (.ifCond .ne 5, 3) := by decide +kernel
theorem dX5_pace_15 : decode cX5_pace 15 = .ok (.iconst (-1), 1) := by decide +kernel
theorem dX5_pace_16 : decode cX5_pace 16 = .ok (.ireturn, 1) := by decide +kernel
theorem dX5_pace_17 : decode cX5_pace 17 = .ok (.iload_n 2, 1) := by decide +kernel
theorem dX5_pace_18 : decode cX5_pace 18 = .ok (.iconst 1, 1) := by decide +kernel
theorem dX5_pace_19 : decode cX5_pace 19 = .ok (.sipush 200, 3) := by decide +kernel
theorem dX5_pace_22 : decode cX5_pace 22 = .ok (.invokestatic 65, 3) := by decide +kernel
theorem dX5_pace_25 : decode cX5_pace 25 = .ok (.ifCond .ne 5, 3) := by decide +kernel
theorem dX5_pace_28 : decode cX5_pace 28 = .ok (.iconst (-1), 1) := by decide +kernel
theorem dX5_pace_29 : decode cX5_pace 29 = .ok (.ireturn, 1) := by decide +kernel
theorem dX5_pace_30 : decode cX5_pace 30 = .ok (.aload_n 0, 1) := by decide +kernel
theorem dX5_pace_31 : decode cX5_pace 31 = .ok (.iload_n 1, 1) := by decide +kernel
theorem dX5_pace_32 : decode cX5_pace 32 = .ok (.putfield 126, 3) := by decide +kernel
theorem dX5_pace_35 : decode cX5_pace 35 = .ok (.aload_n 0, 1) := by decide +kernel
theorem dX5_pace_36 : decode cX5_pace 36 = .ok (.iload_n 2, 1) := by decide +kernel
theorem dX5_pace_37 : decode cX5_pace 37 = .ok (.putfield 44, 3) := by decide +kernel
theorem dX5_pace_40 : decode cX5_pace 40 = .ok (.iconst 1, 1) := by decide +kernel
theorem dX5_pace_41 : decode cX5_pace 41 = .ok (.ireturn, 1) := by decide +kernel
theorem dX6_pace_0 : decode cX6_pace 0 = .ok (.iload_n 1, 1) := by decide +kernel
theorem dX6_pace_1 : decode cX6_pace 1 = .ok (.ifCond .eq 14, 3) := by decide +kernel
theorem dX6_pace_4 : decode cX6_pace 4 = .ok (.iload_n 1, 1) := by decide +kernel
theorem dX6_pace_5 : decode cX6_pace 5 = .ok (.bipush 10, 2) := by decide +kernel
theorem dX6_pace_7 : decode cX6_pace 7 = .ok (.bipush 100, 2) := by decide +kernel
theorem dX6_pace_9 : decode cX6_pace 9 = .ok (.invokestatic 136, 3) := by decide +kernel
theorem dX6_pace_12 : decode cX6_pace 12 = .ok (.ifCond .eq 14, 3) := by decide +kernel
theorem dX6_pace_15 : decode cX6_pace 15 = .ok (.iload_n 2, 1) := by decide +kernel
theorem dX6_pace_16 : decode cX6_pace 16 = .ok (.iconst 1, 1) := by decide +kernel
theorem dX6_pace_17 : decode cX6_pace 17 = .ok (.sipush 200, 3) := by decide +kernel
theorem dX6_pace_20 : decode cX6_pace 20 = .ok (.invokestatic 136, 3) := by decide +kernel
theorem dX6_pace_23 : decode cX6_pace 23 = .ok (.ifCond .ne 5, 3) := by decide +kernel
theorem dX6_pace_26 : decode cX6_pace 26 = .ok (.iconst (-1), 1) := by decide +kernel
theorem dX6_pace_27 : decode cX6_pace 27 = .ok (.ireturn, 1) := by decide +kernel
theorem dX6_pace_28 : decode cX6_pace 28 = .ok (.aload_n 0, 1) := by decide +kernel
theorem dX6_pace_29 : decode cX6_pace 29 = .ok (.iload_n 1, 1) := by decide +kernel
theorem dX6_pace_30 : decode cX6_pace 30 = .ok (.putfield 158, 3) := by decide +kernel
theorem dX6_pace_33 : decode cX6_pace 33 = .ok (.aload_n 0, 1) := by decide +kernel
theorem dX6_pace_34 : decode cX6_pace 34 = .ok (.iload_n 2, 1) := by decide +kernel
theorem dX6_pace_35 : decode cX6_pace 35 = .ok (.putfield 7, 3) := by decide +kernel
theorem dX6_pace_38 : decode cX6_pace 38 = .ok (.iconst 1, 1) := by decide +kernel
theorem dX6_pace_39 : decode cX6_pace 39 = .ok (.ireturn, 1) := by decide +kernel
theorem dX5_count_0 : decode cX5_count 0 = .ok (.iload_n 1, 1) := by decide +kernel
theorem dX5_count_1 : decode cX5_count 1 = .ok (.tableswitch 69 0 5 #[39, 44, 49, 54, 59, 64], 39) := by decide +kernel
theorem dX5_count_40 : decode cX5_count 40 = .ok (.aload_n 0, 1) := by decide +kernel
theorem dX5_count_41 : decode cX5_count 41 = .ok (.getfield 55, 3) := by decide +kernel
theorem dX5_count_44 : decode cX5_count 44 = .ok (.ireturn, 1) := by decide +kernel
theorem dX5_count_45 : decode cX5_count 45 = .ok (.aload_n 0, 1) := by decide +kernel
theorem dX5_count_46 : decode cX5_count 46 = .ok (.getfield 79, 3) := by decide +kernel
theorem dX5_count_49 : decode cX5_count 49 = .ok (.ireturn, 1) := by decide +kernel
theorem dX5_count_50 : decode cX5_count 50 = .ok (.aload_n 0, 1) := by decide +kernel
theorem dX5_count_51 : decode cX5_count 51 = .ok (.getfield 138, 3) := by decide +kernel
theorem dX5_count_54 : decode cX5_count 54 = .ok (.ireturn, 1) := by decide +kernel
theorem dX5_count_55 : decode cX5_count 55 = .ok (.aload_n 0, 1) := by decide +kernel
theorem dX5_count_56 : decode cX5_count 56 = .ok (.getfield 108, 3) := by decide +kernel
theorem dX5_count_59 : decode cX5_count 59 = .ok (.ireturn, 1) := by decide +kernel
theorem dX5_count_60 : decode cX5_count 60 = .ok (.aload_n 0, 1) := by decide +kernel
theorem dX5_count_61 : decode cX5_count 61 = .ok (.getfield 226, 3) := by decide +kernel
theorem dX5_count_64 : decode cX5_count 64 = .ok (.ireturn, 1) := by decide +kernel
theorem dX5_count_65 : decode cX5_count 65 = .ok (.aload_n 0, 1) := by decide +kernel
theorem dX5_count_66 : decode cX5_count 66 = .ok (.getfield 273, 3) := by decide +kernel
theorem dX5_count_69 : decode cX5_count 69 = .ok (.ireturn, 1) := by decide +kernel
theorem dX5_count_70 : decode cX5_count 70 = .ok (.iconst (-1), 1) := by decide +kernel
theorem dX5_count_71 : decode cX5_count 71 = .ok (.ireturn, 1) := by decide +kernel
theorem dX6_count_0 : decode cX6_count 0 = .ok (.iconst 0, 1) := by decide +kernel
theorem dX6_count_1 : decode cX6_count 1 = .ok (.istore_n 2, 1) := by decide +kernel
theorem dX6_count_2 : decode cX6_count 2 = .ok (.iload_n 1, 1) := by decide +kernel
theorem dX6_count_3 : decode cX6_count 3 = .ok (.tableswitch 120 0 5 #[37, 42, 47, 52, 57, 93], 37) := by decide +kernel
theorem dX6_count_40 : decode cX6_count 40 = .ok (.aload_n 0, 1) := by decide +kernel
theorem dX6_count_41 : decode cX6_count 41 = .ok (.getfield 133, 3) := by decide +kernel
theorem dX6_count_44 : decode cX6_count 44 = .ok (.ireturn, 1) := by decide +kernel
theorem dX6_count_45 : decode cX6_count 45 = .ok (.aload_n 0, 1) := by decide +kernel
theorem dX6_count_46 : decode cX6_count 46 = .ok (.getfield 140, 3) := by decide +kernel
theorem dX6_count_49 : decode cX6_count 49 = .ok (.ireturn, 1) := by decide +kernel
theorem dX6_count_50 : decode cX6_count 50 = .ok (.aload_n 0, 1) := by decide +kernel
theorem dX6_count_51 : decode cX6_count 51 = .ok (.getfield 161, 3) := by decide +kernel
theorem dX6_count_54 : decode cX6_count 54 = .ok (.ireturn, 1) := by decide +kernel
theorem dX6_count_55 : decode cX6_count 55 = .ok (.aload_n 0, 1) := by decide +kernel
theorem dX6_count_56 : decode cX6_count 56 = .ok (.getfield 152, 3) := by decide +kernel
theorem dX6_count_59 : decode cX6_count 59 = .ok (.ireturn, 1) := by decide +kernel
theorem dX6_count_60 : decode cX6_count 60 = .ok (.iconst 0, 1) := by decide +kernel
theorem dX6_count_61 : decode cX6_count 61 = .ok (.istore_n 3, 1) := by decide +kernel
theorem dX6_count_62 : decode cX6_count 62 = .ok (.iload_n 3, 1) := by decide +kernel
theorem dX6_count_63 : decode cX6_count 63 = .ok (.aload_n 0, 1) := by decide +kernel
theorem dX6_count_64 : decode cX6_count 64 = .ok (.getfield 161, 3) := by decide +kernel
theorem dX6_count_67 : decode cX6_count 67 = .ok (.if_icmp .ge 27, 3) := by decide +kernel
theorem dX6_count_94 : decode cX6_count 94 = .ok (.iload_n 2, 1) := by decide +kernel
theorem dX6_count_95 : decode cX6_count 95 = .ok (.ireturn, 1) := by decide +kernel
theorem dX6_count_96 : decode cX6_count 96 = .ok (.iconst 0, 1) := by decide +kernel
theorem dX6_count_97 : decode cX6_count 97 = .ok (.istore_n 3, 1) := by decide +kernel
theorem dX6_count_98 : decode cX6_count 98 = .ok (.iload_n 3, 1) := by decide +kernel
theorem dX6_count_99 : decode cX6_count 99 = .ok (.aload_n 0, 1) := by decide +kernel
theorem dX6_count_100 : decode cX6_count 100 = .ok (.getfield 161, 3) := by decide +kernel
theorem dX6_count_103 : decode cX6_count 103 = .ok (.if_icmp .ge 18, 3) := by decide +kernel
theorem dX6_count_121 : decode cX6_count 121 = .ok (.iload_n 2, 1) := by decide +kernel
theorem dX6_count_122 : decode cX6_count 122 = .ok (.ireturn, 1) := by decide +kernel
theorem dX6_count_123 : decode cX6_count 123 = .ok (.iconst (-1), 1) := by decide +kernel
theorem dX6_count_124 : decode cX6_count 124 = .ok (.ireturn, 1) := by decide +kernel
theorem dX5_closeDay_0 : decode cX5_closeDay 0 = .ok (.iconst 0, 1) := by decide +kernel
theorem dX5_closeDay_1 : decode cX5_closeDay 1 = .ok (.istore_n 1, 1) := by decide +kernel
theorem dX5_closeDay_2 : decode cX5_closeDay 2 = .ok (.iload_n 1, 1) := by decide +kernel
theorem dX5_closeDay_3 : decode cX5_closeDay 3 = .ok (.aload_n 0, 1) := by decide +kernel
theorem dX5_closeDay_4 : decode cX5_closeDay 4 = .ok (.getfield 79, 3) := by decide +kernel
theorem dX5_closeDay_7 : decode cX5_closeDay 7 = .ok (.if_icmp .ge 22, 3) := by decide +kernel
theorem dX5_closeDay_29 : decode cX5_closeDay 29 = .ok (.return_, 1) := by decide +kernel
theorem dX5_closeTick_0 : decode cX5_closeTick 0 = .ok (.iconst 0, 1) := by decide +kernel
theorem dX5_closeTick_1 : decode cX5_closeTick 1 = .ok (.istore_n 1, 1) := by decide +kernel
theorem dX5_closeTick_2 : decode cX5_closeTick 2 = .ok (.iload_n 1, 1) := by decide +kernel
theorem dX5_closeTick_3 : decode cX5_closeTick 3 = .ok (.aload_n 0, 1) := by decide +kernel
theorem dX5_closeTick_4 : decode cX5_closeTick 4 = .ok (.getfield 79, 3) := by decide +kernel
theorem dX5_closeTick_7 : decode cX5_closeTick 7 = .ok (.if_icmp .ge 21, 3) := by decide +kernel
theorem dX5_closeTick_28 : decode cX5_closeTick 28 = .ok (.iconst 0, 1) := by decide +kernel
theorem dX5_closeTick_29 : decode cX5_closeTick 29 = .ok (.istore_n 1, 1) := by decide +kernel
theorem dX5_closeTick_30 : decode cX5_closeTick 30 = .ok (.iload_n 1, 1) := by decide +kernel
theorem dX5_closeTick_31 : decode cX5_closeTick 31 = .ok (.aload_n 0, 1) := by decide +kernel
theorem dX5_closeTick_32 : decode cX5_closeTick 32 = .ok (.getfield 55, 3) := by decide +kernel
theorem dX5_closeTick_35 : decode cX5_closeTick 35 = .ok (.if_icmp .ge 19, 3) := by decide +kernel
theorem dX5_closeTick_54 : decode cX5_closeTick 54 = .ok (.return_, 1) := by decide +kernel
theorem dX5_goOneTick_0 : decode cX5_goOneTick 0 = .ok (.aload_n 0, 1) := by decide +kernel
theorem dX5_goOneTick_1 : decode cX5_goOneTick 1 = .ok (.dup, 1) := by decide +kernel
theorem dX5_goOneTick_2 : decode cX5_goOneTick 2 = .ok (.getfield 108, 3) := by decide +kernel
theorem dX5_goOneTick_5 : decode cX5_goOneTick 5 = .ok (.iconst 1, 1) := by decide +kernel
theorem dX5_goOneTick_6 : decode cX5_goOneTick 6 = .ok (.iadd, 1) := by decide +kernel
theorem dX5_goOneTick_7 : decode cX5_goOneTick 7 = .ok (.putfield 108, 3) := by decide +kernel
theorem dX5_goOneTick_10 : decode cX5_goOneTick 10 = .ok (.aload_n 0, 1) := by decide +kernel
theorem dX5_goOneTick_11 : decode cX5_goOneTick 11 = .ok (.getfield 108, 3) := by decide +kernel
theorem dX5_goOneTick_14 : decode cX5_goOneTick 14 = .ok (.bipush 100, 2) := by decide +kernel
theorem dX5_goOneTick_16 : decode cX5_goOneTick 16 = .ok (.irem, 1) := by decide +kernel
theorem dX5_goOneTick_17 : decode cX5_goOneTick 17 = .ok (.ifCond .ne 7, 3) := by decide +kernel
theorem dX5_goOneTick_20 : decode cX5_goOneTick 20 = .ok (.aload_n 0, 1) := by decide +kernel
theorem dX5_goOneTick_21 : decode cX5_goOneTick 21 = .ok (.invokevirtual 283, 3) := by decide +kernel
theorem dX5_goOneTick_24 : decode cX5_goOneTick 24 = .ok (.aload_n 0, 1) := by decide +kernel
theorem dX5_goOneTick_25 : decode cX5_goOneTick 25 = .ok (.getfield 108, 3) := by decide +kernel
theorem dX5_goOneTick_28 : decode cX5_goOneTick 28 = .ok (.aload_n 0, 1) := by decide +kernel
theorem dX5_goOneTick_29 : decode cX5_goOneTick 29 = .ok (.getfield 48, 3) := by decide +kernel
theorem dX5_goOneTick_32 : decode cX5_goOneTick 32 = .ok (.if_icmp .le 7, 3) := by decide +kernel
theorem dX5_goOneTick_39 : decode cX5_goOneTick 39 = .ok (.aload_n 0, 1) := by decide +kernel
theorem dX5_goOneTick_40 : decode cX5_goOneTick 40 = .ok (.getfield 126, 3) := by decide +kernel
theorem dX5_goOneTick_43 : decode cX5_goOneTick 43 = .ok (.ifCond .eq 19, 3) := by decide +kernel
theorem dX5_goOneTick_62 : decode cX5_goOneTick 62 = .ok (.return_, 1) := by decide +kernel
theorem dX6_goesBy_0 : decode cX6_goesBy 0 = .ok (.aload_n 0, 1) := by decide +kernel
theorem dX6_goesBy_1 : decode cX6_goesBy 1 = .ok (.dup, 1) := by decide +kernel
theorem dX6_goesBy_2 : decode cX6_goesBy 2 = .ok (.getfield 152, 3) := by decide +kernel
theorem dX6_goesBy_5 : decode cX6_goesBy 5 = .ok (.iconst 1, 1) := by decide +kernel
theorem dX6_goesBy_6 : decode cX6_goesBy 6 = .ok (.iadd, 1) := by decide +kernel
theorem dX6_goesBy_7 : decode cX6_goesBy 7 = .ok (.putfield 152, 3) := by decide +kernel
theorem dX6_goesBy_10 : decode cX6_goesBy 10 = .ok (.iconst 0, 1) := by decide +kernel
theorem dX6_goesBy_11 : decode cX6_goesBy 11 = .ok (.istore_n 1, 1) := by decide +kernel
theorem dX6_goesBy_12 : decode cX6_goesBy 12 = .ok (.iload_n 1, 1) := by decide +kernel
theorem dX6_goesBy_13 : decode cX6_goesBy 13 = .ok (.aload_n 0, 1) := by decide +kernel
theorem dX6_goesBy_14 : decode cX6_goesBy 14 = .ok (.getfield 161, 3) := by decide +kernel
theorem dX6_goesBy_17 : decode cX6_goesBy 17 = .ok (.if_icmp .ge 46, 3) := by decide +kernel
theorem dX6_goesBy_63 : decode cX6_goesBy 63 = .ok (.aload_n 0, 1) := by decide +kernel
theorem dX6_goesBy_64 : decode cX6_goesBy 64 = .ok (.getfield 158, 3) := by decide +kernel
theorem dX6_goesBy_67 : decode cX6_goesBy 67 = .ok (.ifCond .eq 25, 3) := by decide +kernel
theorem dX6_goesBy_92 : decode cX6_goesBy 92 = .ok (.return_, 1) := by decide +kernel
theorem dX5_tick_0 : decode cX5_tick 0 = .ok (.iload_n 1, 1) := by decide +kernel
theorem dX5_tick_1 : decode cX5_tick 1 = .ok (.iconst 1, 1) := by decide +kernel
theorem dX5_tick_2 : decode cX5_tick 2 = .ok (.bipush 100, 2) := by decide +kernel
theorem dX5_tick_4 : decode cX5_tick 4 = .ok (.invokestatic 65, 3) := by decide +kernel
theorem dX5_tick_7 : decode cX5_tick 7 = .ok (.ifCond .eq 15, 3) := by decide +kernel
theorem dX5_tick_10 : decode cX5_tick 10 = .ok (.aload_n 0, 1) := by decide +kernel
theorem dX5_tick_11 : decode cX5_tick 11 = .ok (.getfield 108, 3) := by decide +kernel
theorem dX5_tick_14 : decode cX5_tick 14 = .ok (.sipush 10000, 3) := by decide +kernel
theorem dX5_tick_17 : decode cX5_tick 17 = .ok (.iload_n 1, 1) := by decide +kernel
theorem dX5_tick_18 : decode cX5_tick 18 = .ok (.isub, 1) := by decide +kernel
theorem dX5_tick_19 : decode cX5_tick 19 = .ok (.if_icmp .le 5, 3) := by decide +kernel
theorem dX5_tick_22 : decode cX5_tick 22 = .ok (.iconst (-1), 1) := by decide +kernel
theorem dX5_tick_23 : decode cX5_tick 23 = .ok (.ireturn, 1) := by decide +kernel
theorem dX5_tick_24 : decode cX5_tick 24 = .ok (.aload_n 0, 1) := by decide +kernel
theorem dX5_tick_25 : decode cX5_tick 25 = .ok (.invokevirtual 129, 3) := by decide +kernel
theorem dX5_tick_28 : decode cX5_tick 28 = .ok (.iconst 0, 1) := by decide +kernel
theorem dX5_tick_29 : decode cX5_tick 29 = .ok (.istore_n 2, 1) := by decide +kernel
theorem dX5_tick_30 : decode cX5_tick 30 = .ok (.iload_n 2, 1) := by decide +kernel
theorem dX5_tick_31 : decode cX5_tick 31 = .ok (.iload_n 1, 1) := by decide +kernel
theorem dX5_tick_32 : decode cX5_tick 32 = .ok (.if_icmp .ge 13, 3) := by decide +kernel
theorem dX5_tick_35 : decode cX5_tick 35 = .ok (.aload_n 0, 1) := by decide +kernel
theorem dX5_tick_36 : decode cX5_tick 36 = .ok (.invokevirtual 132, 3) := by decide +kernel
theorem dX5_tick_39 : decode cX5_tick 39 = .ok (.iinc 2 1, 3) := by decide +kernel
theorem dX5_tick_42 : decode cX5_tick 42 = .ok (.goto (-12), 3) := by decide +kernel
theorem dX5_tick_45 : decode cX5_tick 45 = .ok (.aload_n 0, 1) := by decide +kernel
theorem dX5_tick_46 : decode cX5_tick 46 = .ok (.getfield 108, 3) := by decide +kernel
theorem dX5_tick_49 : decode cX5_tick 49 = .ok (.ireturn, 1) := by decide +kernel
theorem dX6_tick_0 : decode cX6_tick 0 = .ok (.iload_n 1, 1) := by decide +kernel
theorem dX6_tick_1 : decode cX6_tick 1 = .ok (.iconst 1, 1) := by decide +kernel
theorem dX6_tick_2 : decode cX6_tick 2 = .ok (.bipush 100, 2) := by decide +kernel
theorem dX6_tick_4 : decode cX6_tick 4 = .ok (.invokestatic 136, 3) := by decide +kernel
theorem dX6_tick_7 : decode cX6_tick 7 = .ok (.ifCond .eq 15, 3) := by decide +kernel
theorem dX6_tick_10 : decode cX6_tick 10 = .ok (.aload_n 0, 1) := by decide +kernel
theorem dX6_tick_11 : decode cX6_tick 11 = .ok (.getfield 152, 3) := by decide +kernel
theorem dX6_tick_14 : decode cX6_tick 14 = .ok (.iload_n 1, 1) := by decide +kernel
theorem dX6_tick_15 : decode cX6_tick 15 = .ok (.iadd, 1) := by decide +kernel
theorem dX6_tick_16 : decode cX6_tick 16 = .ok (.sipush 10000, 3) := by decide +kernel
theorem dX6_tick_19 : decode cX6_tick 19 = .ok (.if_icmp .le 5, 3) := by decide +kernel
theorem dX6_tick_22 : decode cX6_tick 22 = .ok (.iconst (-1), 1) := by decide +kernel
theorem dX6_tick_23 : decode cX6_tick 23 = .ok (.ireturn, 1) := by decide +kernel
theorem dX6_tick_24 : decode cX6_tick 24 = .ok (.iconst 0, 1) := by decide +kernel
theorem dX6_tick_25 : decode cX6_tick 25 = .ok (.istore_n 2, 1) := by decide +kernel
theorem dX6_tick_26 : decode cX6_tick 26 = .ok (.iload_n 2, 1) := by decide +kernel
theorem dX6_tick_27 : decode cX6_tick 27 = .ok (.iload_n 1, 1) := by decide +kernel
theorem dX6_tick_28 : decode cX6_tick 28 = .ok (.if_icmp .ge 13, 3) := by decide +kernel
theorem dX6_tick_31 : decode cX6_tick 31 = .ok (.aload_n 0, 1) := by decide +kernel
theorem dX6_tick_32 : decode cX6_tick 32 = .ok (.invokevirtual 238, 3) := by decide +kernel
theorem dX6_tick_35 : decode cX6_tick 35 = .ok (.iinc 2 1, 3) := by decide +kernel
theorem dX6_tick_38 : decode cX6_tick 38 = .ok (.goto (-12), 3) := by decide +kernel
theorem dX6_tick_41 : decode cX6_tick 41 = .ok (.aload_n 0, 1) := by decide +kernel
theorem dX6_tick_42 : decode cX6_tick 42 = .ok (.getfield 152, 3) := by decide +kernel
theorem dX6_tick_45 : decode cX6_tick 45 = .ok (.ireturn, 1) := by decide +kernel
theorem dX5_marks_0 : decode cX5_marks 0 = .ok (.iload_n 1, 1) := by decide +kernel
theorem dX5_marks_1 : decode cX5_marks 1 = .ok (.invokestatic 61, 3) := by decide +kernel
theorem dX5_marks_4 : decode cX5_marks 4 = .ok (.ifCond .eq 14, 3) := by decide +kernel
theorem dX5_marks_7 : decode cX5_marks 7 = .ok (.iload_n 2, 1) := by decide +kernel
theorem dX5_marks_8 : decode cX5_marks 8 = .ok (.iconst 0, 1) := by decide +kernel
theorem dX5_marks_9 : decode cX5_marks 9 = .ok (.sipush 4095, 3) := by decide +kernel
theorem dX5_marks_12 : decode cX5_marks 12 = .ok (.invokestatic 65, 3) := by decide +kernel
theorem dX5_marks_15 : decode cX5_marks 15 = .ok (.ifCond .ne 5, 3) := by decide +kernel
theorem dX5_marks_18 : decode cX5_marks 18 = .ok (.iconst (-1), 1) := by decide +kernel
theorem dX5_marks_19 : decode cX5_marks 19 = .ok (.ireturn, 1) := by decide +kernel
theorem dX5_marks_20 : decode cX5_marks 20 = .ok (.aload_n 0, 1) := by decide +kernel
theorem dX5_marks_21 : decode cX5_marks 21 = .ok (.getfield 27, 3) := by decide +kernel
theorem dX5_marks_24 : decode cX5_marks 24 = .ok (.iload_n 1, 1) := by decide +kernel
theorem dX5_marks_25 : decode cX5_marks 25 = .ok (.iaload, 1) := by decide +kernel
theorem dX5_marks_26 : decode cX5_marks 26 = .ok (.istore_n 3, 1) := by decide +kernel
theorem dX5_marks_27 : decode cX5_marks 27 = .ok (.aload_n 0, 1) := by decide +kernel
theorem dX5_marks_28 : decode cX5_marks 28 = .ok (.getfield 27, 3) := by decide +kernel
theorem dX5_marks_31 : decode cX5_marks 31 = .ok (.iload_n 1, 1) := by decide +kernel
theorem dX5_marks_32 : decode cX5_marks 32 = .ok (.iload_n 2, 1) := by decide +kernel
theorem dX5_marks_33 : decode cX5_marks 33 = .ok (.iastore, 1) := by decide +kernel
theorem dX5_marks_34 : decode cX5_marks 34 = .ok (.iload_n 3, 1) := by decide +kernel
theorem dX5_marks_35 : decode cX5_marks 35 = .ok (.ireturn, 1) := by decide +kernel
theorem dX6_marks_0 : decode cX6_marks 0 = .ok (.iload_n 1, 1) := by decide +kernel
theorem dX6_marks_1 : decode cX6_marks 1 = .ok (.invokestatic 143, 3) := by decide +kernel
theorem dX6_marks_4 : decode cX6_marks 4 = .ok (.ifCond .eq 14, 3) := by decide +kernel
theorem dX6_marks_7 : decode cX6_marks 7 = .ok (.iload_n 2, 1) := by decide +kernel
theorem dX6_marks_8 : decode cX6_marks 8 = .ok (.iconst 0, 1) := by decide +kernel
theorem dX6_marks_9 : decode cX6_marks 9 = .ok (.sipush 4095, 3) := by decide +kernel
theorem dX6_marks_12 : decode cX6_marks 12 = .ok (.invokestatic 136, 3) := by decide +kernel
theorem dX6_marks_15 : decode cX6_marks 15 = .ok (.ifCond .ne 5, 3) := by decide +kernel
theorem dX6_marks_18 : decode cX6_marks 18 = .ok (.iconst (-1), 1) := by decide +kernel
theorem dX6_marks_19 : decode cX6_marks 19 = .ok (.ireturn, 1) := by decide +kernel
theorem dX6_marks_20 : decode cX6_marks 20 = .ok (.aload_n 0, 1) := by decide +kernel
theorem dX6_marks_21 : decode cX6_marks 21 = .ok (.getfield 20, 3) := by decide +kernel
theorem dX6_marks_24 : decode cX6_marks 24 = .ok (.iload_n 1, 1) := by decide +kernel
theorem dX6_marks_25 : decode cX6_marks 25 = .ok (.iaload, 1) := by decide +kernel
theorem dX6_marks_26 : decode cX6_marks 26 = .ok (.istore_n 3, 1) := by decide +kernel
theorem dX6_marks_27 : decode cX6_marks 27 = .ok (.aload_n 0, 1) := by decide +kernel
theorem dX6_marks_28 : decode cX6_marks 28 = .ok (.getfield 20, 3) := by decide +kernel
theorem dX6_marks_31 : decode cX6_marks 31 = .ok (.iload_n 1, 1) := by decide +kernel
theorem dX6_marks_32 : decode cX6_marks 32 = .ok (.iload_n 2, 1) := by decide +kernel
theorem dX6_marks_33 : decode cX6_marks 33 = .ok (.iastore, 1) := by decide +kernel
theorem dX6_marks_34 : decode cX6_marks 34 = .ok (.iload_n 3, 1) := by decide +kernel
theorem dX6_marks_35 : decode cX6_marks 35 = .ok (.ireturn, 1) := by decide +kernel
theorem dX5_placesIn_0 : decode cX5_placesIn 0 = .ok (.iconst 0, 1) := by decide +kernel
theorem dX5_placesIn_1 : decode cX5_placesIn 1 = .ok (.istore_n 1, 1) := by decide +kernel
theorem dX5_placesIn_2 : decode cX5_placesIn 2 = .ok (.iload_n 0, 1) := by decide +kernel
theorem dX5_placesIn_3 : decode cX5_placesIn 3 = .ok (.istore_n 2, 1) := by decide +kernel
theorem dX5_placesIn_4 : decode cX5_placesIn 4 = .ok (.iload_n 2, 1) := by decide +kernel
theorem dX5_placesIn_5 : decode cX5_placesIn 5 = .ok (.ifCond .le 36, 3) := by decide +kernel
theorem dX5_placesIn_8 : decode cX5_placesIn 8 = .ok (.iload_n 1, 1) := by decide +kernel
theorem dX5_placesIn_9 : decode cX5_placesIn 9 = .ok (.iconst 4, 1) := by decide +kernel
theorem dX5_placesIn_10 : decode cX5_placesIn 10 = .ok (.if_icmp .ge 31, 3) := by decide +kernel
theorem dX5_placesIn_13 : decode cX5_placesIn 13 = .ok (.iload_n 2, 1) := by decide +kernel
theorem dX5_placesIn_14 : decode cX5_placesIn 14 = .ok (.sipush 128, 3) := by decide +kernel
theorem dX5_placesIn_17 : decode cX5_placesIn 17 = .ok (.irem, 1) := by decide +kernel
theorem dX5_placesIn_18 : decode cX5_placesIn 18 = .ok (.iconst 1, 1) := by decide +kernel
theorem dX5_placesIn_19 : decode cX5_placesIn 19 = .ok (.bipush 100, 2) := by decide +kernel
theorem dX5_placesIn_21 : decode cX5_placesIn 21 = .ok (.invokestatic 65, 3) := by decide +kernel
theorem dX5_placesIn_24 : decode cX5_placesIn 24 = .ok (.ifCond .ne 5, 3) := by decide +kernel
theorem dX5_placesIn_27 : decode cX5_placesIn 27 = .ok (.iconst 0, 1) := by decide +kernel
theorem dX5_placesIn_28 : decode cX5_placesIn 28 = .ok (.ireturn, 1) := by decide +kernel
theorem dX5_placesIn_29 : decode cX5_placesIn 29 = .ok (.iload_n 2, 1) := by decide +kernel
theorem dX5_placesIn_30 : decode cX5_placesIn 30 = .ok (.sipush 128, 3) := by decide +kernel
theorem dX5_placesIn_33 : decode cX5_placesIn 33 = .ok (.idiv, 1) := by decide +kernel
theorem dX5_placesIn_34 : decode cX5_placesIn 34 = .ok (.istore_n 2, 1) := by decide +kernel
theorem dX5_placesIn_35 : decode cX5_placesIn 35 = .ok (.iinc 1 1, 3) := by decide +kernel
theorem dX5_placesIn_38 : decode cX5_placesIn 38 = .ok (.goto (-34), 3) := by decide +kernel
theorem dX5_placesIn_41 : decode cX5_placesIn 41 = .ok (.iload_n 2, 1) := by decide +kernel
theorem dX5_placesIn_42 : decode cX5_placesIn 42 = .ok (.ifCond .ne 7, 3) := by decide +kernel
theorem dX5_placesIn_45 : decode cX5_placesIn 45 = .ok (.iload_n 1, 1) := by decide +kernel
theorem dX5_placesIn_46 : decode cX5_placesIn 46 = .ok (.goto 4, 3) := by decide +kernel
theorem dX5_placesIn_49 : decode cX5_placesIn 49 = .ok (.iconst 0, 1) := by decide +kernel
theorem dX5_placesIn_50 : decode cX5_placesIn 50 = .ok (.ireturn, 1) := by decide +kernel
theorem dX2_init_0 : decode cX2_init 0 = .ok (.aload_n 0, 1) := by decide +kernel
theorem dX2_init_1 : decode cX2_init 1 = .ok (.invokespecial 3, 3) := by decide +kernel
theorem dX2_init_4 : decode cX2_init 4 = .ok (.aload_n 0, 1) := by decide +kernel
theorem dX2_init_5 : decode cX2_init 5 = .ok (.iconst 4, 1) := by decide +kernel
theorem dX2_init_6 : decode cX2_init 6 = .ok (.newarray .int, 2) := by decide +kernel
theorem dX2_init_8 : decode cX2_init 8 = .ok (.putfield 9, 3) := by decide +kernel
theorem dX2_init_11 : decode cX2_init 11 = .ok (.aload_n 0, 1) := by decide +kernel
theorem dX2_init_12 : decode cX2_init 12 = .ok (.iload_n 2, 1) := by decide +kernel
theorem dX2_init_13 : decode cX2_init 13 = .ok (.putfield 15, 3) := by decide +kernel
theorem dX2_init_16 : decode cX2_init 16 = .ok (.iload_n 1, 1) := by decide +kernel
theorem dX2_init_17 : decode cX2_init 17 = .ok (.istore_n 3, 1) := by decide +kernel
theorem dX2_init_18 : decode cX2_init 18 = .ok (.iload_n 2, 1) := by decide +kernel
theorem dX2_init_19 : decode cX2_init 19 = .ok (.iconst 4, 1) := by decide +kernel
theorem dX2_init_20 : decode cX2_init 20 = .ok (.invokestatic 19, 3) := by decide +kernel
theorem dX2_init_23 : decode cX2_init 23 = .ok (.iconst 1, 1) := by decide +kernel
theorem dX2_init_24 : decode cX2_init 24 = .ok (.isub, 1) := by decide +kernel
theorem dX2_init_25 : decode cX2_init 25 = .ok (.istore 4, 2) := by decide +kernel
theorem dX2_init_27 : decode cX2_init 27 = .ok (.iload 4, 2) := by decide +kernel
theorem dX2_init_29 : decode cX2_init 29 = .ok (.ifCond .lt 27, 3) := by decide +kernel
theorem dX2_init_32 : decode cX2_init 32 = .ok (.aload_n 0, 1) := by decide +kernel
theorem dX2_init_33 : decode cX2_init 33 = .ok (.getfield 9, 3) := by decide +kernel
theorem dX2_init_36 : decode cX2_init 36 = .ok (.iload 4, 2) := by decide +kernel
theorem dX2_init_38 : decode cX2_init 38 = .ok (.iload_n 3, 1) := by decide +kernel
theorem dX2_init_39 : decode cX2_init 39 = .ok (.sipush 128, 3) := by decide +kernel
theorem dX2_init_42 : decode cX2_init 42 = .ok (.irem, 1) := by decide +kernel
theorem dX2_init_43 : decode cX2_init 43 = .ok (.iastore, 1) := by decide +kernel
theorem dX2_init_44 : decode cX2_init 44 = .ok (.iload_n 3, 1) := by decide +kernel
theorem dX2_init_45 : decode cX2_init 45 = .ok (.sipush 128, 3) := by decide +kernel
theorem dX2_init_48 : decode cX2_init 48 = .ok (.idiv, 1) := by decide +kernel
theorem dX2_init_49 : decode cX2_init 49 = .ok (.istore_n 3, 1) := by decide +kernel
theorem dX2_init_50 : decode cX2_init 50 = .ok (.iinc 4 (-1), 3) := by decide +kernel
theorem dX2_init_53 : decode cX2_init 53 = .ok (.goto (-26), 3) := by decide +kernel
theorem dX2_init_56 : decode cX2_init 56 = .ok (.return_, 1) := by decide +kernel
theorem dX5_page_0 : decode cX5_page 0 = .ok (.iload_n 1, 1) := by decide +kernel
theorem dX5_page_1 : decode cX5_page 1 = .ok (.invokestatic 51, 3) := by decide +kernel
theorem dX5_page_4 : decode cX5_page 4 = .ok (.istore_n 2, 1) := by decide +kernel
theorem dX5_page_5 : decode cX5_page 5 = .ok (.iload_n 2, 1) := by decide +kernel
theorem dX5_page_6 : decode cX5_page 6 = .ok (.ifCond .ne 5, 3) := by decide +kernel
theorem dX5_page_9 : decode cX5_page 9 = .ok (.iconst (-1), 1) := by decide +kernel
theorem dX5_page_10 : decode cX5_page 10 = .ok (.ireturn, 1) := by decide +kernel
theorem dX5_page_11 : decode cX5_page 11 = .ok (.aload_n 0, 1) := by decide +kernel
theorem dX5_page_12 : decode cX5_page 12 = .ok (.getfield 55, 3) := by decide +kernel
theorem dX5_page_15 : decode cX5_page 15 = .ok (.bipush 8, 2) := by decide +kernel
theorem dX5_page_17 : decode cX5_page 17 = .ok (.if_icmp .lt 6, 3) := by decide +kernel
theorem dX5_page_23 : decode cX5_page 23 = .ok (.aload_n 0, 1) := by decide +kernel
theorem dX5_page_24 : decode cX5_page 24 = .ok (.getfield 11, 3) := by decide +kernel
theorem dX5_page_27 : decode cX5_page 27 = .ok (.aload_n 0, 1) := by decide +kernel
theorem dX5_page_28 : decode cX5_page 28 = .ok (.getfield 55, 3) := by decide +kernel
theorem dX5_page_31 : decode cX5_page 31 = .ok (.new 9, 3) := by decide +kernel
theorem dX5_page_34 : decode cX5_page 34 = .ok (.dup, 1) := by decide +kernel
theorem dX5_page_35 : decode cX5_page 35 = .ok (.iload_n 1, 1) := by decide +kernel
theorem dX5_page_36 : decode cX5_page 36 = .ok (.iload_n 2, 1) := by decide +kernel
theorem dX5_page_37 : decode cX5_page 37 = .ok (.invokespecial 58, 3) := by decide +kernel
theorem dX5_page_40 : decode cX5_page 40 = .ok (.aastore, 1) := by decide +kernel
theorem dX5_page_41 : decode cX5_page 41 = .ok (.aload_n 0, 1) := by decide +kernel
theorem dX5_page_42 : decode cX5_page 42 = .ok (.dup, 1) := by decide +kernel
theorem dX5_page_43 : decode cX5_page 43 = .ok (.getfield 55, 3) := by decide +kernel
theorem dX5_page_46 : decode cX5_page 46 = .ok (.iconst 1, 1) := by decide +kernel
theorem dX5_page_47 : decode cX5_page 47 = .ok (.iadd, 1) := by decide +kernel
theorem dX5_page_48 : decode cX5_page 48 = .ok (.putfield 55, 3) := by decide +kernel
theorem dX5_page_51 : decode cX5_page 51 = .ok (.aload_n 0, 1) := by decide +kernel
theorem dX5_page_52 : decode cX5_page 52 = .ok (.getfield 55, 3) := by decide +kernel
theorem dX5_page_55 : decode cX5_page 55 = .ok (.iconst 1, 1) := by decide +kernel
theorem dX5_page_56 : decode cX5_page 56 = .ok (.isub, 1) := by decide +kernel
theorem dX5_page_57 : decode cX5_page 57 = .ok (.ireturn, 1) := by decide +kernel
theorem dX4_init_0 : decode cX4_init 0 = .ok (.aload_n 0, 1) := by decide +kernel
theorem dX4_init_1 : decode cX4_init 1 = .ok (.invokespecial 3, 3) := by decide +kernel
theorem dX4_init_4 : decode cX4_init 4 = .ok (.return_, 1) := by decide +kernel
theorem dX0_init_0 : decode cX0_init 0 = .ok (.aload_n 0, 1) := by decide +kernel
theorem dX0_init_1 : decode cX0_init 1 = .ok (.invokespecial 3, 3) := by decide +kernel
theorem dX0_init_4 : decode cX0_init 4 = .ok (.aload_n 0, 1) := by decide +kernel
theorem dX0_init_5 : decode cX0_init 5 = .ok (.new 9, 3) := by decide +kernel
theorem dX0_init_8 : decode cX0_init 8 = .ok (.dup, 1) := by decide +kernel
theorem dX0_init_9 : decode cX0_init 9 = .ok (.invokespecial 11, 3) := by decide +kernel
theorem dX0_init_12 : decode cX0_init 12 = .ok (.putfield 12, 3) := by decide +kernel
theorem dX0_init_15 : decode cX0_init 15 = .ok (.aload_n 0, 1) := by decide +kernel
theorem dX0_init_16 : decode cX0_init 16 = .ok (.bipush 9, 2) := by decide +kernel
theorem dX0_init_18 : decode cX0_init 18 = .ok (.putfield 18, 3) := by decide +kernel
theorem dX0_init_21 : decode cX0_init 21 = .ok (.aload_n 0, 1) := by decide +kernel
theorem dX0_init_22 : decode cX0_init 22 = .ok (.iconst 1, 1) := by decide +kernel
theorem dX0_init_23 : decode cX0_init 23 = .ok (.putfield 22, 3) := by decide +kernel
theorem dX0_init_26 : decode cX0_init 26 = .ok (.aload_n 0, 1) := by decide +kernel
theorem dX0_init_27 : decode cX0_init 27 = .ok (.sipush 1000, 3) := by decide +kernel
theorem dX0_init_30 : decode cX0_init 30 = .ok (.putfield 25, 3) := by decide +kernel
theorem dX0_init_33 : decode cX0_init 33 = .ok (.aload_n 0, 1) := by decide +kernel
theorem dX0_init_34 : decode cX0_init 34 = .ok (.iload_n 1, 1) := by decide +kernel
theorem dX0_init_35 : decode cX0_init 35 = .ok (.bipush 10, 2) := by decide +kernel
theorem dX0_init_37 : decode cX0_init 37 = .ok (.idiv, 1) := by decide +kernel
theorem dX0_init_38 : decode cX0_init 38 = .ok (.putfield 28, 3) := by decide +kernel
theorem dX0_init_41 : decode cX0_init 41 = .ok (.aload_n 0, 1) := by decide +kernel
theorem dX0_init_42 : decode cX0_init 42 = .ok (.iload_n 1, 1) := by decide +kernel
theorem dX0_init_43 : decode cX0_init 43 = .ok (.bipush 10, 2) := by decide +kernel
theorem dX0_init_45 : decode cX0_init 45 = .ok (.irem, 1) := by decide +kernel
theorem dX0_init_46 : decode cX0_init 46 = .ok (.iconst 1, 1) := by decide +kernel
theorem dX0_init_47 : decode cX0_init 47 = .ok (.if_icmp .ne 7, 3) := by decide +kernel
theorem dX0_init_50 : decode cX0_init 50 = .ok (.iconst 1, 1) := by decide +kernel
theorem dX0_init_51 : decode cX0_init 51 = .ok (.goto 4, 3) := by decide +kernel
theorem dX0_init_54 : decode cX0_init 54 = .ok (.iconst 0, 1) := by decide +kernel
theorem dX0_init_55 : decode cX0_init 55 = .ok (.putfield 31, 3) := by decide +kernel
theorem dX0_init_58 : decode cX0_init 58 = .ok (.aload_n 0, 1) := by decide +kernel
theorem dX0_init_59 : decode cX0_init 59 = .ok (.iload_n 2, 1) := by decide +kernel
theorem dX0_init_60 : decode cX0_init 60 = .ok (.sipush 4096, 3) := by decide +kernel
theorem dX0_init_63 : decode cX0_init 63 = .ok (.idiv, 1) := by decide +kernel
theorem dX0_init_64 : decode cX0_init 64 = .ok (.putfield 35, 3) := by decide +kernel
theorem dX0_init_67 : decode cX0_init 67 = .ok (.aload_n 0, 1) := by decide +kernel
theorem dX0_init_68 : decode cX0_init 68 = .ok (.iload_n 2, 1) := by decide +kernel
theorem dX0_init_69 : decode cX0_init 69 = .ok (.sipush 4096, 3) := by decide +kernel
theorem dX0_init_72 : decode cX0_init 72 = .ok (.irem, 1) := by decide +kernel
theorem dX0_init_73 : decode cX0_init 73 = .ok (.putfield 38, 3) := by decide +kernel
theorem dX0_init_76 : decode cX0_init 76 = .ok (.aload_n 0, 1) := by decide +kernel
theorem dX0_init_77 : decode cX0_init 77 = .ok (.iload_n 3, 1) := by decide +kernel
theorem dX0_init_78 : decode cX0_init 78 = .ok (.putfield 41, 3) := by decide +kernel
theorem dX0_init_81 : decode cX0_init 81 = .ok (.return_, 1) := by decide +kernel
theorem dX5_campaign_0 : decode cX5_campaign 0 = .ok (.iload_n 1, 1) := by decide +kernel
theorem dX5_campaign_1 : decode cX5_campaign 1 = .ok (.invokestatic 69, 3) := by decide +kernel
theorem dX5_campaign_4 : decode cX5_campaign 4 = .ok (.ifCond .eq 21, 3) := by decide +kernel
theorem dX5_campaign_7 : decode cX5_campaign 7 = .ok (.iload_n 2, 1) := by decide +kernel
theorem dX5_campaign_8 : decode cX5_campaign 8 = .ok (.invokestatic 72, 3) := by decide +kernel
theorem dX5_campaign_11 : decode cX5_campaign 11 = .ok (.ifCond .eq 14, 3) := by decide +kernel
theorem dX5_campaign_14 : decode cX5_campaign 14 = .ok (.iload_n 1, 1) := by decide +kernel
theorem dX5_campaign_15 : decode cX5_campaign 15 = .ok (.bipush 10, 2) := by decide +kernel
theorem dX5_campaign_17 : decode cX5_campaign 17 = .ok (.idiv, 1) := by decide +kernel
theorem dX5_campaign_18 : decode cX5_campaign 18 = .ok (.iload_n 3, 1) := by decide +kernel
theorem dX5_campaign_19 : decode cX5_campaign 19 = .ok (.invokestatic 75, 3) := by decide +kernel
theorem dX5_campaign_22 : decode cX5_campaign 22 = .ok (.ifCond .ne 5, 3) := by decide +kernel
theorem dX5_campaign_25 : decode cX5_campaign 25 = .ok (.iconst (-1), 1) := by decide +kernel
theorem dX5_campaign_26 : decode cX5_campaign 26 = .ok (.ireturn, 1) := by decide +kernel
theorem dX5_campaign_27 : decode cX5_campaign 27 = .ok (.aload_n 0, 1) := by decide +kernel
theorem dX5_campaign_28 : decode cX5_campaign 28 = .ok (.getfield 79, 3) := by decide +kernel
theorem dX5_campaign_31 : decode cX5_campaign 31 = .ok (.bipush 40, 2) := by decide +kernel
theorem dX5_campaign_33 : decode cX5_campaign 33 = .ok (.if_icmp .lt 6, 3) := by decide +kernel
theorem dX5_campaign_39 : decode cX5_campaign 39 = .ok (.aload_n 0, 1) := by decide +kernel
theorem dX5_campaign_40 : decode cX5_campaign 40 = .ok (.getfield 17, 3) := by decide +kernel
theorem dX5_campaign_43 : decode cX5_campaign 43 = .ok (.aload_n 0, 1) := by decide +kernel
theorem dX5_campaign_44 : decode cX5_campaign 44 = .ok (.getfield 79, 3) := by decide +kernel
theorem dX5_campaign_47 : decode cX5_campaign 47 = .ok (.new 15, 3) := by decide +kernel
theorem dX5_campaign_50 : decode cX5_campaign 50 = .ok (.dup, 1) := by decide +kernel
theorem dX5_campaign_51 : decode cX5_campaign 51 = .ok (.iload_n 1, 1) := by decide +kernel
theorem dX5_campaign_52 : decode cX5_campaign 52 = .ok (.iload_n 2, 1) := by decide +kernel
theorem dX5_campaign_53 : decode cX5_campaign 53 = .ok (.iload_n 3, 1) := by decide +kernel
theorem dX5_campaign_54 : decode cX5_campaign 54 = .ok (.invokespecial 82, 3) := by decide +kernel
theorem dX5_campaign_57 : decode cX5_campaign 57 = .ok (.aastore, 1) := by decide +kernel
theorem dX5_campaign_58 : decode cX5_campaign 58 = .ok (.aload_n 0, 1) := by decide +kernel
theorem dX5_campaign_59 : decode cX5_campaign 59 = .ok (.dup, 1) := by decide +kernel
theorem dX5_campaign_60 : decode cX5_campaign 60 = .ok (.getfield 79, 3) := by decide +kernel
theorem dX5_campaign_63 : decode cX5_campaign 63 = .ok (.iconst 1, 1) := by decide +kernel
theorem dX5_campaign_64 : decode cX5_campaign 64 = .ok (.iadd, 1) := by decide +kernel
theorem dX5_campaign_65 : decode cX5_campaign 65 = .ok (.putfield 79, 3) := by decide +kernel
theorem dX5_campaign_68 : decode cX5_campaign 68 = .ok (.aload_n 0, 1) := by decide +kernel
theorem dX5_campaign_69 : decode cX5_campaign 69 = .ok (.getfield 79, 3) := by decide +kernel
theorem dX5_campaign_72 : decode cX5_campaign 72 = .ok (.iconst 1, 1) := by decide +kernel
theorem dX5_campaign_73 : decode cX5_campaign 73 = .ok (.isub, 1) := by decide +kernel
theorem dX5_campaign_74 : decode cX5_campaign 74 = .ok (.ireturn, 1) := by decide +kernel
theorem dX6_campaign_0 : decode cX6_campaign 0 = .ok (.iload_n 1, 1) := by decide +kernel
theorem dX6_campaign_1 : decode cX6_campaign 1 = .ok (.bipush 10, 2) := by decide +kernel
theorem dX6_campaign_3 : decode cX6_campaign 3 = .ok (.idiv, 1) := by decide +kernel
theorem dX6_campaign_4 : decode cX6_campaign 4 = .ok (.istore 4, 2) := by decide +kernel
theorem dX6_campaign_6 : decode cX6_campaign 6 = .ok (.iload_n 1, 1) := by decide +kernel
theorem dX6_campaign_7 : decode cX6_campaign 7 = .ok (.ifCond .lt 72, 3) := by decide +kernel
theorem dX6_campaign_10 : decode cX6_campaign 10 = .ok (.iload 4, 2) := by decide +kernel
theorem dX6_campaign_12 : decode cX6_campaign 12 = .ok (.iconst 0, 1) := by decide +kernel
theorem dX6_campaign_13 : decode cX6_campaign 13 = .ok (.iconst 2, 1) := by decide +kernel
theorem dX6_campaign_14 : decode cX6_campaign 14 = .ok (.invokestatic 136, 3) := by decide +kernel
theorem dX6_campaign_17 : decode cX6_campaign 17 = .ok (.ifCond .eq 62, 3) := by decide +kernel
theorem dX6_campaign_20 : decode cX6_campaign 20 = .ok (.iload_n 1, 1) := by decide +kernel
theorem dX6_campaign_21 : decode cX6_campaign 21 = .ok (.bipush 10, 2) := by decide +kernel
theorem dX6_campaign_23 : decode cX6_campaign 23 = .ok (.irem, 1) := by decide +kernel
theorem dX6_campaign_24 : decode cX6_campaign 24 = .ok (.iconst 0, 1) := by decide +kernel
theorem dX6_campaign_25 : decode cX6_campaign 25 = .ok (.iload 4, 2) := by decide +kernel
theorem dX6_campaign_27 : decode cX6_campaign 27 = .ok (.ifCond .ne 7, 3) := by decide +kernel
theorem dX6_campaign_30 : decode cX6_campaign 30 = .ok (.iconst 1, 1) := by decide +kernel
theorem dX6_campaign_31 : decode cX6_campaign 31 = .ok (.goto 4, 3) := by decide +kernel
theorem dX6_campaign_34 : decode cX6_campaign 34 = .ok (.iconst 0, 1) := by decide +kernel
theorem dX6_campaign_35 : decode cX6_campaign 35 = .ok (.invokestatic 136, 3) := by decide +kernel
theorem dX6_campaign_38 : decode cX6_campaign 38 = .ok (.ifCond .eq 41, 3) := by decide +kernel
theorem dX6_campaign_41 : decode cX6_campaign 41 = .ok (.iload_n 2, 1) := by decide +kernel
theorem dX6_campaign_42 : decode cX6_campaign 42 = .ok (.iconst 0, 1) := by decide +kernel
theorem dX6_campaign_43 : decode cX6_campaign 43 = .ok (.ldc 147, 2) := by decide +kernel
theorem dX6_campaign_45 : decode cX6_campaign 45 = .ok (.invokestatic 136, 3) := by decide +kernel
theorem dX6_campaign_48 : decode cX6_campaign 48 = .ok (.ifCond .eq 31, 3) := by decide +kernel
theorem dX6_campaign_51 : decode cX6_campaign 51 = .ok (.iload 4, 2) := by decide +kernel
theorem dX6_campaign_53 : decode cX6_campaign 53 = .ok (.iconst 2, 1) := by decide +kernel
theorem dX6_campaign_54 : decode cX6_campaign 54 = .ok (.if_icmp .ne 10, 3) := by decide +kernel
theorem dX6_campaign_57 : decode cX6_campaign 57 = .ok (.iload_n 3, 1) := by decide +kernel
theorem dX6_campaign_58 : decode cX6_campaign 58 = .ok (.ifCond .ne 21, 3) := by decide +kernel
theorem dX6_campaign_61 : decode cX6_campaign 61 = .ok (.goto 14, 3) := by decide +kernel
theorem dX6_campaign_64 : decode cX6_campaign 64 = .ok (.iload_n 3, 1) := by decide +kernel
theorem dX6_campaign_65 : decode cX6_campaign 65 = .ok (.iconst 1, 1) := by decide +kernel
theorem dX6_campaign_66 : decode cX6_campaign 66 = .ok (.sipush 1000, 3) := by decide +kernel
theorem dX6_campaign_69 : decode cX6_campaign 69 = .ok (.invokestatic 136, 3) := by decide +kernel
theorem dX6_campaign_72 : decode cX6_campaign 72 = .ok (.ifCond .eq 7, 3) := by decide +kernel
theorem dX6_campaign_75 : decode cX6_campaign 75 = .ok (.iconst 1, 1) := by decide +kernel
theorem dX6_campaign_76 : decode cX6_campaign 76 = .ok (.goto 4, 3) := by decide +kernel
theorem dX6_campaign_79 : decode cX6_campaign 79 = .ok (.iconst 0, 1) := by decide +kernel
theorem dX6_campaign_80 : decode cX6_campaign 80 = .ok (.istore 5, 2) := by decide +kernel
theorem dX6_campaign_82 : decode cX6_campaign 82 = .ok (.iload 5, 2) := by decide +kernel
theorem dX6_campaign_84 : decode cX6_campaign 84 = .ok (.ifCond .eq 17, 3) := by decide +kernel
theorem dX6_campaign_87 : decode cX6_campaign 87 = .ok (.iload_n 2, 1) := by decide +kernel
theorem dX6_campaign_88 : decode cX6_campaign 88 = .ok (.sipush 4096, 3) := by decide +kernel
theorem dX6_campaign_91 : decode cX6_campaign 91 = .ok (.idiv, 1) := by decide +kernel
theorem dX6_campaign_92 : decode cX6_campaign 92 = .ok (.iload_n 2, 1) := by decide +kernel
theorem dX6_campaign_93 : decode cX6_campaign 93 = .ok (.sipush 4096, 3) := by decide +kernel
theorem dX6_campaign_96 : decode cX6_campaign 96 = .ok (.irem, 1) := by decide +kernel
theorem dX6_campaign_97 : decode cX6_campaign 97 = .ok (.iand, 1) := by decide +kernel
theorem dX6_campaign_98 : decode cX6_campaign 98 = .ok (.ifCond .eq 5, 3) := by decide +kernel
theorem dX6_campaign_101 : decode cX6_campaign 101 = .ok (.iconst (-1), 1) := by decide +kernel
theorem dX6_campaign_102 : decode cX6_campaign 102 = .ok (.ireturn, 1) := by decide +kernel
theorem dX6_campaign_103 : decode cX6_campaign 103 = .ok (.aload_n 0, 1) := by decide +kernel
theorem dX6_campaign_104 : decode cX6_campaign 104 = .ok (.getfield 140, 3) := by decide +kernel
theorem dX6_campaign_107 : decode cX6_campaign 107 = .ok (.bipush 40, 2) := by decide +kernel
theorem dX6_campaign_109 : decode cX6_campaign 109 = .ok (.if_icmp .ne 6, 3) := by decide +kernel
theorem dX6_campaign_115 : decode cX6_campaign 115 = .ok (.aload_n 0, 1) := by decide +kernel
theorem dX6_campaign_116 : decode cX6_campaign 116 = .ok (.getfield 140, 3) := by decide +kernel
theorem dX6_campaign_119 : decode cX6_campaign 119 = .ok (.istore 6, 2) := by decide +kernel
theorem dX6_campaign_121 : decode cX6_campaign 121 = .ok (.aload_n 0, 1) := by decide +kernel
theorem dX6_campaign_122 : decode cX6_campaign 122 = .ok (.getfield 23, 3) := by decide +kernel
theorem dX6_campaign_125 : decode cX6_campaign 125 = .ok (.iload 6, 2) := by decide +kernel
theorem dX6_campaign_127 : decode cX6_campaign 127 = .ok (.iload 4, 2) := by decide +kernel
theorem dX6_campaign_129 : decode cX6_campaign 129 = .ok (.iastore, 1) := by decide +kernel
theorem dX6_campaign_130 : decode cX6_campaign 130 = .ok (.aload_n 0, 1) := by decide +kernel
theorem dX6_campaign_131 : decode cX6_campaign 131 = .ok (.getfield 26, 3) := by decide +kernel
theorem dX6_campaign_134 : decode cX6_campaign 134 = .ok (.iload 6, 2) := by decide +kernel
theorem dX6_campaign_136 : decode cX6_campaign 136 = .ok (.iload_n 1, 1) := by decide +kernel
theorem dX6_campaign_137 : decode cX6_campaign 137 = .ok (.bipush 10, 2) := by decide +kernel
theorem dX6_campaign_139 : decode cX6_campaign 139 = .ok (.irem, 1) := by decide +kernel
theorem dX6_campaign_140 : decode cX6_campaign 140 = .ok (.iastore, 1) := by decide +kernel
theorem dX6_campaign_141 : decode cX6_campaign 141 = .ok (.aload_n 0, 1) := by decide +kernel
theorem dX6_campaign_142 : decode cX6_campaign 142 = .ok (.getfield 29, 3) := by decide +kernel
theorem dX6_campaign_145 : decode cX6_campaign 145 = .ok (.iload 6, 2) := by decide +kernel
theorem dX6_campaign_147 : decode cX6_campaign 147 = .ok (.iload_n 2, 1) := by decide +kernel
theorem dX6_campaign_148 : decode cX6_campaign 148 = .ok (.sipush 4096, 3) := by decide +kernel
theorem dX6_campaign_151 : decode cX6_campaign 151 = .ok (.idiv, 1) := by decide +kernel
theorem dX6_campaign_152 : decode cX6_campaign 152 = .ok (.iastore, 1) := by decide +kernel
theorem dX6_campaign_153 : decode cX6_campaign 153 = .ok (.aload_n 0, 1) := by decide +kernel
theorem dX6_campaign_154 : decode cX6_campaign 154 = .ok (.getfield 32, 3) := by decide +kernel
theorem dX6_campaign_157 : decode cX6_campaign 157 = .ok (.iload 6, 2) := by decide +kernel
theorem dX6_campaign_159 : decode cX6_campaign 159 = .ok (.iload_n 2, 1) := by decide +kernel
theorem dX6_campaign_160 : decode cX6_campaign 160 = .ok (.sipush 4096, 3) := by decide +kernel
theorem dX6_campaign_163 : decode cX6_campaign 163 = .ok (.irem, 1) := by decide +kernel
theorem dX6_campaign_164 : decode cX6_campaign 164 = .ok (.iastore, 1) := by decide +kernel
theorem dX6_campaign_165 : decode cX6_campaign 165 = .ok (.aload_n 0, 1) := by decide +kernel
theorem dX6_campaign_166 : decode cX6_campaign 166 = .ok (.getfield 35, 3) := by decide +kernel
theorem dX6_campaign_169 : decode cX6_campaign 169 = .ok (.iload 6, 2) := by decide +kernel
theorem dX6_campaign_171 : decode cX6_campaign 171 = .ok (.iload_n 3, 1) := by decide +kernel
theorem dX6_campaign_172 : decode cX6_campaign 172 = .ok (.iastore, 1) := by decide +kernel
theorem dX6_campaign_173 : decode cX6_campaign 173 = .ok (.aload_n 0, 1) := by decide +kernel
theorem dX6_campaign_174 : decode cX6_campaign 174 = .ok (.getfield 44, 3) := by decide +kernel
theorem dX6_campaign_177 : decode cX6_campaign 177 = .ok (.iload 6, 2) := by decide +kernel
theorem dX6_campaign_179 : decode cX6_campaign 179 = .ok (.bipush 9, 2) := by decide +kernel
theorem dX6_campaign_181 : decode cX6_campaign 181 = .ok (.iastore, 1) := by decide +kernel
theorem dX6_campaign_182 : decode cX6_campaign 182 = .ok (.aload_n 0, 1) := by decide +kernel
theorem dX6_campaign_183 : decode cX6_campaign 183 = .ok (.getfield 47, 3) := by decide +kernel
theorem dX6_campaign_186 : decode cX6_campaign 186 = .ok (.iload 6, 2) := by decide +kernel
theorem dX6_campaign_188 : decode cX6_campaign 188 = .ok (.iconst 1, 1) := by decide +kernel
theorem dX6_campaign_189 : decode cX6_campaign 189 = .ok (.iastore, 1) := by decide +kernel
theorem dX6_campaign_190 : decode cX6_campaign 190 = .ok (.aload_n 0, 1) := by decide +kernel
theorem dX6_campaign_191 : decode cX6_campaign 191 = .ok (.getfield 50, 3) := by decide +kernel
theorem dX6_campaign_194 : decode cX6_campaign 194 = .ok (.iload 6, 2) := by decide +kernel
theorem dX6_campaign_196 : decode cX6_campaign 196 = .ok (.sipush 1000, 3) := by decide +kernel
theorem dX6_campaign_199 : decode cX6_campaign 199 = .ok (.iastore, 1) := by decide +kernel
theorem dX6_campaign_200 : decode cX6_campaign 200 = .ok (.aload_n 0, 1) := by decide +kernel
theorem dX6_campaign_201 : decode cX6_campaign 201 = .ok (.getfield 60, 3) := by decide +kernel
theorem dX6_campaign_204 : decode cX6_campaign 204 = .ok (.iload 6, 2) := by decide +kernel
theorem dX6_campaign_206 : decode cX6_campaign 206 = .ok (.iconst 0, 1) := by decide +kernel
theorem dX6_campaign_207 : decode cX6_campaign 207 = .ok (.iastore, 1) := by decide +kernel
theorem dX6_campaign_208 : decode cX6_campaign 208 = .ok (.aload_n 0, 1) := by decide +kernel
theorem dX6_campaign_209 : decode cX6_campaign 209 = .ok (.dup, 1) := by decide +kernel
theorem dX6_campaign_210 : decode cX6_campaign 210 = .ok (.getfield 140, 3) := by decide +kernel
theorem dX6_campaign_213 : decode cX6_campaign 213 = .ok (.iconst 1, 1) := by decide +kernel
theorem dX6_campaign_214 : decode cX6_campaign 214 = .ok (.iadd, 1) := by decide +kernel
theorem dX6_campaign_215 : decode cX6_campaign 215 = .ok (.putfield 140, 3) := by decide +kernel
theorem dX6_campaign_218 : decode cX6_campaign 218 = .ok (.iload 6, 2) := by decide +kernel
theorem dX6_campaign_220 : decode cX6_campaign 220 = .ok (.ireturn, 1) := by decide +kernel
theorem dX6_page_0 : decode cX6_page 0 = .ok (.iconst 0, 1) := by decide +kernel
theorem dX6_page_1 : decode cX6_page 1 = .ok (.istore_n 2, 1) := by decide +kernel
theorem dX6_page_2 : decode cX6_page 2 = .ok (.iload_n 1, 1) := by decide +kernel
theorem dX6_page_3 : decode cX6_page 3 = .ok (.ifCond .le 7, 3) := by decide +kernel
theorem dX6_page_6 : decode cX6_page 6 = .ok (.iconst 1, 1) := by decide +kernel
theorem dX6_page_7 : decode cX6_page 7 = .ok (.goto 4, 3) := by decide +kernel
theorem dX6_page_10 : decode cX6_page 10 = .ok (.iconst 0, 1) := by decide +kernel
theorem dX6_page_11 : decode cX6_page 11 = .ok (.istore_n 3, 1) := by decide +kernel
theorem dX6_page_12 : decode cX6_page 12 = .ok (.iload_n 1, 1) := by decide +kernel
theorem dX6_page_13 : decode cX6_page 13 = .ok (.istore 4, 2) := by decide +kernel
theorem dX6_page_15 : decode cX6_page 15 = .ok (.iload 4, 2) := by decide +kernel
theorem dX6_page_17 : decode cX6_page 17 = .ok (.ifCond .le 42, 3) := by decide +kernel
theorem dX6_page_20 : decode cX6_page 20 = .ok (.iload_n 3, 1) := by decide +kernel
theorem dX6_page_21 : decode cX6_page 21 = .ok (.ifCond .eq 22, 3) := by decide +kernel
theorem dX6_page_24 : decode cX6_page 24 = .ok (.iload 4, 2) := by decide +kernel
theorem dX6_page_26 : decode cX6_page 26 = .ok (.sipush 128, 3) := by decide +kernel
theorem dX6_page_29 : decode cX6_page 29 = .ok (.irem, 1) := by decide +kernel
theorem dX6_page_30 : decode cX6_page 30 = .ok (.iconst 1, 1) := by decide +kernel
theorem dX6_page_31 : decode cX6_page 31 = .ok (.bipush 100, 2) := by decide +kernel
theorem dX6_page_33 : decode cX6_page 33 = .ok (.invokestatic 136, 3) := by decide +kernel
theorem dX6_page_36 : decode cX6_page 36 = .ok (.ifCond .eq 7, 3) := by decide +kernel
theorem dX6_page_39 : decode cX6_page 39 = .ok (.iconst 1, 1) := by decide +kernel
theorem dX6_page_40 : decode cX6_page 40 = .ok (.goto 4, 3) := by decide +kernel
theorem dX6_page_43 : decode cX6_page 43 = .ok (.iconst 0, 1) := by decide +kernel
theorem dX6_page_44 : decode cX6_page 44 = .ok (.istore_n 3, 1) := by decide +kernel
theorem dX6_page_45 : decode cX6_page 45 = .ok (.iinc 2 1, 3) := by decide +kernel
theorem dX6_page_48 : decode cX6_page 48 = .ok (.iload 4, 2) := by decide +kernel
theorem dX6_page_50 : decode cX6_page 50 = .ok (.sipush 128, 3) := by decide +kernel
theorem dX6_page_53 : decode cX6_page 53 = .ok (.idiv, 1) := by decide +kernel
theorem dX6_page_54 : decode cX6_page 54 = .ok (.istore 4, 2) := by decide +kernel
theorem dX6_page_56 : decode cX6_page 56 = .ok (.goto (-41), 3) := by decide +kernel
theorem dX6_page_59 : decode cX6_page 59 = .ok (.iload_n 3, 1) := by decide +kernel
theorem dX6_page_60 : decode cX6_page 60 = .ok (.ifCond .eq 8, 3) := by decide +kernel
theorem dX6_page_63 : decode cX6_page 63 = .ok (.iload_n 2, 1) := by decide +kernel
theorem dX6_page_64 : decode cX6_page 64 = .ok (.iconst 4, 1) := by decide +kernel
theorem dX6_page_65 : decode cX6_page 65 = .ok (.if_icmp .le 5, 3) := by decide +kernel
theorem dX6_page_68 : decode cX6_page 68 = .ok (.iconst (-1), 1) := by decide +kernel
theorem dX6_page_69 : decode cX6_page 69 = .ok (.ireturn, 1) := by decide +kernel
theorem dX6_page_70 : decode cX6_page 70 = .ok (.aload_n 0, 1) := by decide +kernel
theorem dX6_page_71 : decode cX6_page 71 = .ok (.getfield 133, 3) := by decide +kernel
theorem dX6_page_74 : decode cX6_page 74 = .ok (.bipush 8, 2) := by decide +kernel
theorem dX6_page_76 : decode cX6_page 76 = .ok (.if_icmp .ne 6, 3) := by decide +kernel
theorem dX6_page_82 : decode cX6_page 82 = .ok (.iload_n 1, 1) := by decide +kernel
theorem dX6_page_83 : decode cX6_page 83 = .ok (.istore 4, 2) := by decide +kernel
theorem dX6_page_85 : decode cX6_page 85 = .ok (.iload_n 2, 1) := by decide +kernel
theorem dX6_page_86 : decode cX6_page 86 = .ok (.iconst 1, 1) := by decide +kernel
theorem dX6_page_87 : decode cX6_page 87 = .ok (.isub, 1) := by decide +kernel
theorem dX6_page_88 : decode cX6_page 88 = .ok (.istore 5, 2) := by decide +kernel
theorem dX6_page_90 : decode cX6_page 90 = .ok (.iload 5, 2) := by decide +kernel
theorem dX6_page_92 : decode cX6_page 92 = .ok (.ifCond .lt 37, 3) := by decide +kernel
theorem dX6_page_95 : decode cX6_page 95 = .ok (.aload_n 0, 1) := by decide +kernel
theorem dX6_page_96 : decode cX6_page 96 = .ok (.getfield 17, 3) := by decide +kernel
theorem dX6_page_99 : decode cX6_page 99 = .ok (.iconst 4, 1) := by decide +kernel
theorem dX6_page_100 : decode cX6_page 100 = .ok (.aload_n 0, 1) := by decide +kernel
theorem dX6_page_101 : decode cX6_page 101 = .ok (.getfield 133, 3) := by decide +kernel
theorem dX6_page_104 : decode cX6_page 104 = .ok (.imul, 1) := by decide +kernel
theorem dX6_page_105 : decode cX6_page 105 = .ok (.iload 5, 2) := by decide +kernel
theorem dX6_page_107 : decode cX6_page 107 = .ok (.iadd, 1) := by decide +kernel
theorem dX6_page_108 : decode cX6_page 108 = .ok (.iload 4, 2) := by decide +kernel
theorem dX6_page_110 : decode cX6_page 110 = .ok (.sipush 128, 3) := by decide +kernel
theorem dX6_page_113 : decode cX6_page 113 = .ok (.irem, 1) := by decide +kernel
theorem dX6_page_114 : decode cX6_page 114 = .ok (.iastore, 1) := by decide +kernel
theorem dX6_page_115 : decode cX6_page 115 = .ok (.iload 4, 2) := by decide +kernel
theorem dX6_page_117 : decode cX6_page 117 = .ok (.sipush 128, 3) := by decide +kernel
theorem dX6_page_120 : decode cX6_page 120 = .ok (.idiv, 1) := by decide +kernel
theorem dX6_page_121 : decode cX6_page 121 = .ok (.istore 4, 2) := by decide +kernel
theorem dX6_page_123 : decode cX6_page 123 = .ok (.iinc 5 (-1), 3) := by decide +kernel
theorem dX6_page_126 : decode cX6_page 126 = .ok (.goto (-36), 3) := by decide +kernel
theorem dX6_page_129 : decode cX6_page 129 = .ok (.aload_n 0, 1) := by decide +kernel
theorem dX6_page_130 : decode cX6_page 130 = .ok (.getfield 13, 3) := by decide +kernel
theorem dX6_page_133 : decode cX6_page 133 = .ok (.aload_n 0, 1) := by decide +kernel
theorem dX6_page_134 : decode cX6_page 134 = .ok (.getfield 133, 3) := by decide +kernel
theorem dX6_page_137 : decode cX6_page 137 = .ok (.iload_n 2, 1) := by decide +kernel
theorem dX6_page_138 : decode cX6_page 138 = .ok (.iastore, 1) := by decide +kernel
theorem dX6_page_139 : decode cX6_page 139 = .ok (.aload_n 0, 1) := by decide +kernel
theorem dX6_page_140 : decode cX6_page 140 = .ok (.dup, 1) := by decide +kernel
theorem dX6_page_141 : decode cX6_page 141 = .ok (.getfield 133, 3) := by decide +kernel
theorem dX6_page_144 : decode cX6_page 144 = .ok (.iconst 1, 1) := by decide +kernel
theorem dX6_page_145 : decode cX6_page 145 = .ok (.iadd, 1) := by decide +kernel
theorem dX6_page_146 : decode cX6_page 146 = .ok (.putfield 133, 3) := by decide +kernel
theorem dX6_page_149 : decode cX6_page 149 = .ok (.aload_n 0, 1) := by decide +kernel
theorem dX6_page_150 : decode cX6_page 150 = .ok (.getfield 133, 3) := by decide +kernel
theorem dX6_page_153 : decode cX6_page 153 = .ok (.iconst 1, 1) := by decide +kernel
theorem dX6_page_154 : decode cX6_page 154 = .ok (.isub, 1) := by decide +kernel
theorem dX6_page_155 : decode cX6_page 155 = .ok (.ireturn, 1) := by decide +kernel
theorem dX1_init_0 : decode cX1_init 0 = .ok (.aload_n 0, 1) := by decide +kernel
theorem dX1_init_1 : decode cX1_init 1 = .ok (.invokespecial 5, 3) := by decide +kernel
theorem dX1_init_4 : decode cX1_init 4 = .ok (.aload_n 0, 1) := by decide +kernel
theorem dX1_init_5 : decode cX1_init 5 = .ok (.iconst 4, 1) := by decide +kernel
theorem dX1_init_6 : decode cX1_init 6 = .ok (.newarray .int, 2) := by decide +kernel
theorem dX1_init_8 : decode cX1_init 8 = .ok (.putfield 11, 3) := by decide +kernel
theorem dX1_init_11 : decode cX1_init 11 = .ok (.aload_n 0, 1) := by decide +kernel
theorem dX1_init_12 : decode cX1_init 12 = .ok (.iconst 4, 1) := by decide +kernel
theorem dX1_init_13 : decode cX1_init 13 = .ok (.newarray .int, 2) := by decide +kernel
theorem dX1_init_15 : decode cX1_init 15 = .ok (.putfield 15, 3) := by decide +kernel
theorem dX1_init_18 : decode cX1_init 18 = .ok (.aload_n 0, 1) := by decide +kernel
theorem dX1_init_19 : decode cX1_init 19 = .ok (.iconst 4, 1) := by decide +kernel
theorem dX1_init_20 : decode cX1_init 20 = .ok (.bipush 40, 2) := by decide +kernel
theorem dX1_init_22 : decode cX1_init 22 = .ok (.multianewarray 18 2, 4) := by decide +kernel
theorem dX1_init_26 : decode cX1_init 26 = .ok (.putfield 20, 3) := by decide +kernel
theorem dX1_init_29 : decode cX1_init 29 = .ok (.aload_n 0, 1) := by decide +kernel
theorem dX1_init_30 : decode cX1_init 30 = .ok (.iconst 4, 1) := by decide +kernel
theorem dX1_init_31 : decode cX1_init 31 = .ok (.bipush 40, 2) := by decide +kernel
theorem dX1_init_33 : decode cX1_init 33 = .ok (.multianewarray 23 2, 4) := by decide +kernel
theorem dX1_init_37 : decode cX1_init 37 = .ok (.putfield 25, 3) := by decide +kernel
theorem dX1_init_40 : decode cX1_init 40 = .ok (.aload_n 0, 1) := by decide +kernel
theorem dX1_init_41 : decode cX1_init 41 = .ok (.bipush 40, 2) := by decide +kernel
theorem dX1_init_43 : decode cX1_init 43 = .ok (.newarray .long, 2) := by decide +kernel
theorem dX1_init_45 : decode cX1_init 45 = .ok (.putfield 28, 3) := by decide +kernel
theorem dX1_init_48 : decode cX1_init 48 = .ok (.return_, 1) := by decide +kernel
theorem dX5_init_0 : decode cX5_init 0 = .ok (.aload_n 0, 1) := by decide +kernel
theorem dX5_init_1 : decode cX5_init 1 = .ok (.invokespecial 1, 3) := by decide +kernel
theorem dX5_init_4 : decode cX5_init 4 = .ok (.aload_n 0, 1) := by decide +kernel
theorem dX5_init_5 : decode cX5_init 5 = .ok (.bipush 8, 2) := by decide +kernel
theorem dX5_init_7 : decode cX5_init 7 = .ok (.anewarray 9, 3) := by decide +kernel
theorem dX5_init_10 : decode cX5_init 10 = .ok (.putfield 11, 3) := by decide +kernel
theorem dX5_init_13 : decode cX5_init 13 = .ok (.aload_n 0, 1) := by decide +kernel
theorem dX5_init_14 : decode cX5_init 14 = .ok (.bipush 40, 2) := by decide +kernel
theorem dX5_init_16 : decode cX5_init 16 = .ok (.anewarray 15, 3) := by decide +kernel
theorem dX5_init_19 : decode cX5_init 19 = .ok (.putfield 17, 3) := by decide +kernel
theorem dX5_init_22 : decode cX5_init 22 = .ok (.aload_n 0, 1) := by decide +kernel
theorem dX5_init_23 : decode cX5_init 23 = .ok (.sipush 1000, 3) := by decide +kernel
theorem dX5_init_26 : decode cX5_init 26 = .ok (.anewarray 21, 3) := by decide +kernel
theorem dX5_init_29 : decode cX5_init 29 = .ok (.putfield 23, 3) := by decide +kernel
theorem dX5_init_32 : decode cX5_init 32 = .ok (.aload_n 0, 1) := by decide +kernel
theorem dX5_init_33 : decode cX5_init 33 = .ok (.bipush 100, 2) := by decide +kernel
theorem dX5_init_35 : decode cX5_init 35 = .ok (.newarray .int, 2) := by decide +kernel
theorem dX5_init_37 : decode cX5_init 37 = .ok (.putfield 27, 3) := by decide +kernel
theorem dX5_init_40 : decode cX5_init 40 = .ok (.aload_n 0, 1) := by decide +kernel
theorem dX5_init_41 : decode cX5_init 41 = .ok (.new 31, 3) := by decide +kernel
theorem dX5_init_44 : decode cX5_init 44 = .ok (.dup, 1) := by decide +kernel
theorem dX5_init_45 : decode cX5_init 45 = .ok (.invokespecial 33, 3) := by decide +kernel
theorem dX5_init_48 : decode cX5_init 48 = .ok (.putfield 34, 3) := by decide +kernel
theorem dX5_init_51 : decode cX5_init 51 = .ok (.aload_n 0, 1) := by decide +kernel
theorem dX5_init_52 : decode cX5_init 52 = .ok (.iconst 4, 1) := by decide +kernel
theorem dX5_init_53 : decode cX5_init 53 = .ok (.newarray .int, 2) := by decide +kernel
theorem dX5_init_55 : decode cX5_init 55 = .ok (.putfield 38, 3) := by decide +kernel
theorem dX5_init_58 : decode cX5_init 58 = .ok (.aload_n 0, 1) := by decide +kernel
theorem dX5_init_59 : decode cX5_init 59 = .ok (.iconst 4, 1) := by decide +kernel
theorem dX5_init_60 : decode cX5_init 60 = .ok (.newarray .int, 2) := by decide +kernel
theorem dX5_init_62 : decode cX5_init 62 = .ok (.putfield 41, 3) := by decide +kernel
theorem dX5_init_65 : decode cX5_init 65 = .ok (.aload_n 0, 1) := by decide +kernel
theorem dX5_init_66 : decode cX5_init 66 = .ok (.bipush 50, 2) := by decide +kernel
theorem dX5_init_68 : decode cX5_init 68 = .ok (.putfield 44, 3) := by decide +kernel
theorem dX5_init_71 : decode cX5_init 71 = .ok (.aload_n 0, 1) := by decide +kernel
theorem dX5_init_72 : decode cX5_init 72 = .ok (.sipush 10000, 3) := by decide +kernel
theorem dX5_init_75 : decode cX5_init 75 = .ok (.putfield 48, 3) := by decide +kernel
theorem dX5_init_78 : decode cX5_init 78 = .ok (.return_, 1) := by decide +kernel
theorem dX6_init_0 : decode cX6_init 0 = .ok (.aload_n 0, 1) := by decide +kernel
theorem dX6_init_1 : decode cX6_init 1 = .ok (.invokespecial 1, 3) := by decide +kernel
theorem dX6_init_4 : decode cX6_init 4 = .ok (.aload_n 0, 1) := by decide +kernel
theorem dX6_init_5 : decode cX6_init 5 = .ok (.bipush 50, 2) := by decide +kernel
theorem dX6_init_7 : decode cX6_init 7 = .ok (.putfield 7, 3) := by decide +kernel
theorem dX6_init_10 : decode cX6_init 10 = .ok (.aload_n 0, 1) := by decide +kernel
theorem dX6_init_11 : decode cX6_init 11 = .ok (.bipush 8, 2) := by decide +kernel
theorem dX6_init_13 : decode cX6_init 13 = .ok (.newarray .int, 2) := by decide +kernel
theorem dX6_init_15 : decode cX6_init 15 = .ok (.putfield 13, 3) := by decide +kernel
theorem dX6_init_18 : decode cX6_init 18 = .ok (.aload_n 0, 1) := by decide +kernel
theorem dX6_init_19 : decode cX6_init 19 = .ok (.bipush 32, 2) := by decide +kernel
theorem dX6_init_21 : decode cX6_init 21 = .ok (.newarray .int, 2) := by decide +kernel
theorem dX6_init_23 : decode cX6_init 23 = .ok (.putfield 17, 3) := by decide +kernel
theorem dX6_init_26 : decode cX6_init 26 = .ok (.aload_n 0, 1) := by decide +kernel
theorem dX6_init_27 : decode cX6_init 27 = .ok (.bipush 100, 2) := by decide +kernel
theorem dX6_init_29 : decode cX6_init 29 = .ok (.newarray .int, 2) := by decide +kernel
theorem dX6_init_31 : decode cX6_init 31 = .ok (.putfield 20, 3) := by decide +kernel
theorem dX6_init_34 : decode cX6_init 34 = .ok (.aload_n 0, 1) := by decide +kernel
theorem dX6_init_35 : decode cX6_init 35 = .ok (.bipush 40, 2) := by decide +kernel
theorem dX6_init_37 : decode cX6_init 37 = .ok (.newarray .int, 2) := by decide +kernel
theorem dX6_init_39 : decode cX6_init 39 = .ok (.putfield 23, 3) := by decide +kernel
theorem dX6_init_42 : decode cX6_init 42 = .ok (.aload_n 0, 1) := by decide +kernel
theorem dX6_init_43 : decode cX6_init 43 = .ok (.bipush 40, 2) := by decide +kernel
theorem dX6_init_45 : decode cX6_init 45 = .ok (.newarray .int, 2) := by decide +kernel
theorem dX6_init_47 : decode cX6_init 47 = .ok (.putfield 26, 3) := by decide +kernel
theorem dX6_init_50 : decode cX6_init 50 = .ok (.aload_n 0, 1) := by decide +kernel
theorem dX6_init_51 : decode cX6_init 51 = .ok (.bipush 40, 2) := by decide +kernel
theorem dX6_init_53 : decode cX6_init 53 = .ok (.newarray .int, 2) := by decide +kernel
theorem dX6_init_55 : decode cX6_init 55 = .ok (.putfield 29, 3) := by decide +kernel
theorem dX6_init_58 : decode cX6_init 58 = .ok (.aload_n 0, 1) := by decide +kernel
theorem dX6_init_59 : decode cX6_init 59 = .ok (.bipush 40, 2) := by decide +kernel
theorem dX6_init_61 : decode cX6_init 61 = .ok (.newarray .int, 2) := by decide +kernel
theorem dX6_init_63 : decode cX6_init 63 = .ok (.putfield 32, 3) := by decide +kernel
theorem dX6_init_66 : decode cX6_init 66 = .ok (.aload_n 0, 1) := by decide +kernel
theorem dX6_init_67 : decode cX6_init 67 = .ok (.bipush 40, 2) := by decide +kernel
theorem dX6_init_69 : decode cX6_init 69 = .ok (.newarray .int, 2) := by decide +kernel
theorem dX6_init_71 : decode cX6_init 71 = .ok (.putfield 35, 3) := by decide +kernel
theorem dX6_init_74 : decode cX6_init 74 = .ok (.aload_n 0, 1) := by decide +kernel
theorem dX6_init_75 : decode cX6_init 75 = .ok (.bipush 40, 2) := by decide +kernel
theorem dX6_init_77 : decode cX6_init 77 = .ok (.newarray .int, 2) := by decide +kernel
theorem dX6_init_79 : decode cX6_init 79 = .ok (.putfield 38, 3) := by decide +kernel
theorem dX6_init_82 : decode cX6_init 82 = .ok (.aload_n 0, 1) := by decide +kernel
theorem dX6_init_83 : decode cX6_init 83 = .ok (.bipush 40, 2) := by decide +kernel
theorem dX6_init_85 : decode cX6_init 85 = .ok (.newarray .int, 2) := by decide +kernel
theorem dX6_init_87 : decode cX6_init 87 = .ok (.putfield 41, 3) := by decide +kernel
theorem dX6_init_90 : decode cX6_init 90 = .ok (.aload_n 0, 1) := by decide +kernel
theorem dX6_init_91 : decode cX6_init 91 = .ok (.bipush 40, 2) := by decide +kernel
theorem dX6_init_93 : decode cX6_init 93 = .ok (.newarray .int, 2) := by decide +kernel
theorem dX6_init_95 : decode cX6_init 95 = .ok (.putfield 44, 3) := by decide +kernel
theorem dX6_init_98 : decode cX6_init 98 = .ok (.aload_n 0, 1) := by decide +kernel
theorem dX6_init_99 : decode cX6_init 99 = .ok (.bipush 40, 2) := by decide +kernel
theorem dX6_init_101 : decode cX6_init 101 = .ok (.newarray .int, 2) := by decide +kernel
theorem dX6_init_103 : decode cX6_init 103 = .ok (.putfield 47, 3) := by decide +kernel
theorem dX6_init_106 : decode cX6_init 106 = .ok (.aload_n 0, 1) := by decide +kernel
theorem dX6_init_107 : decode cX6_init 107 = .ok (.bipush 40, 2) := by decide +kernel
theorem dX6_init_109 : decode cX6_init 109 = .ok (.newarray .int, 2) := by decide +kernel
theorem dX6_init_111 : decode cX6_init 111 = .ok (.putfield 50, 3) := by decide +kernel
theorem dX6_init_114 : decode cX6_init 114 = .ok (.aload_n 0, 1) := by decide +kernel
theorem dX6_init_115 : decode cX6_init 115 = .ok (.bipush 40, 2) := by decide +kernel
theorem dX6_init_117 : decode cX6_init 117 = .ok (.newarray .boolean, 2) := by decide +kernel
theorem dX6_init_119 : decode cX6_init 119 = .ok (.putfield 53, 3) := by decide +kernel
theorem dX6_init_122 : decode cX6_init 122 = .ok (.aload_n 0, 1) := by decide +kernel
theorem dX6_init_123 : decode cX6_init 123 = .ok (.sipush 1600, 3) := by decide +kernel
theorem dX6_init_126 : decode cX6_init 126 = .ok (.newarray .boolean, 2) := by decide +kernel
theorem dX6_init_128 : decode cX6_init 128 = .ok (.putfield 57, 3) := by decide +kernel
theorem dX6_init_131 : decode cX6_init 131 = .ok (.aload_n 0, 1) := by decide +kernel
theorem dX6_init_132 : decode cX6_init 132 = .ok (.bipush 40, 2) := by decide +kernel
theorem dX6_init_134 : decode cX6_init 134 = .ok (.newarray .int, 2) := by decide +kernel
theorem dX6_init_136 : decode cX6_init 136 = .ok (.putfield 60, 3) := by decide +kernel
theorem dX6_init_139 : decode cX6_init 139 = .ok (.aload_n 0, 1) := by decide +kernel
theorem dX6_init_140 : decode cX6_init 140 = .ok (.bipush 40, 2) := by decide +kernel
theorem dX6_init_142 : decode cX6_init 142 = .ok (.newarray .int, 2) := by decide +kernel
theorem dX6_init_144 : decode cX6_init 144 = .ok (.putfield 63, 3) := by decide +kernel
theorem dX6_init_147 : decode cX6_init 147 = .ok (.aload_n 0, 1) := by decide +kernel
theorem dX6_init_148 : decode cX6_init 148 = .ok (.bipush 40, 2) := by decide +kernel
theorem dX6_init_150 : decode cX6_init 150 = .ok (.newarray .int, 2) := by decide +kernel
theorem dX6_init_152 : decode cX6_init 152 = .ok (.putfield 66, 3) := by decide +kernel
theorem dX6_init_155 : decode cX6_init 155 = .ok (.aload_n 0, 1) := by decide +kernel
theorem dX6_init_156 : decode cX6_init 156 = .ok (.sipush 1000, 3) := by decide +kernel
theorem dX6_init_159 : decode cX6_init 159 = .ok (.newarray .int, 2) := by decide +kernel
theorem dX6_init_161 : decode cX6_init 161 = .ok (.putfield 69, 3) := by decide +kernel
theorem dX6_init_164 : decode cX6_init 164 = .ok (.aload_n 0, 1) := by decide +kernel
theorem dX6_init_165 : decode cX6_init 165 = .ok (.sipush 1000, 3) := by decide +kernel
theorem dX6_init_168 : decode cX6_init 168 = .ok (.newarray .int, 2) := by decide +kernel
theorem dX6_init_170 : decode cX6_init 170 = .ok (.putfield 72, 3) := by decide +kernel
theorem dX6_init_173 : decode cX6_init 173 = .ok (.aload_n 0, 1) := by decide +kernel
theorem dX6_init_174 : decode cX6_init 174 = .ok (.sipush 1000, 3) := by decide +kernel
theorem dX6_init_177 : decode cX6_init 177 = .ok (.newarray .int, 2) := by decide +kernel
theorem dX6_init_179 : decode cX6_init 179 = .ok (.putfield 75, 3) := by decide +kernel
theorem dX6_init_182 : decode cX6_init 182 = .ok (.aload_n 0, 1) := by decide +kernel
theorem dX6_init_183 : decode cX6_init 183 = .ok (.sipush 1000, 3) := by decide +kernel
theorem dX6_init_186 : decode cX6_init 186 = .ok (.newarray .int, 2) := by decide +kernel
theorem dX6_init_188 : decode cX6_init 188 = .ok (.putfield 78, 3) := by decide +kernel
theorem dX6_init_191 : decode cX6_init 191 = .ok (.aload_n 0, 1) := by decide +kernel
theorem dX6_init_192 : decode cX6_init 192 = .ok (.sipush 1000, 3) := by decide +kernel
theorem dX6_init_195 : decode cX6_init 195 = .ok (.newarray .int, 2) := by decide +kernel
theorem dX6_init_197 : decode cX6_init 197 = .ok (.putfield 81, 3) := by decide +kernel
theorem dX6_init_200 : decode cX6_init 200 = .ok (.aload_n 0, 1) := by decide +kernel
theorem dX6_init_201 : decode cX6_init 201 = .ok (.sipush 1000, 3) := by decide +kernel
theorem dX6_init_204 : decode cX6_init 204 = .ok (.newarray .int, 2) := by decide +kernel
theorem dX6_init_206 : decode cX6_init 206 = .ok (.putfield 84, 3) := by decide +kernel
theorem dX6_init_209 : decode cX6_init 209 = .ok (.aload_n 0, 1) := by decide +kernel
theorem dX6_init_210 : decode cX6_init 210 = .ok (.sipush 1000, 3) := by decide +kernel
theorem dX6_init_213 : decode cX6_init 213 = .ok (.newarray .int, 2) := by decide +kernel
theorem dX6_init_215 : decode cX6_init 215 = .ok (.putfield 87, 3) := by decide +kernel
theorem dX6_init_218 : decode cX6_init 218 = .ok (.aload_n 0, 1) := by decide +kernel
theorem dX6_init_219 : decode cX6_init 219 = .ok (.sipush 1000, 3) := by decide +kernel
theorem dX6_init_222 : decode cX6_init 222 = .ok (.newarray .int, 2) := by decide +kernel
theorem dX6_init_224 : decode cX6_init 224 = .ok (.putfield 90, 3) := by decide +kernel
theorem dX6_init_227 : decode cX6_init 227 = .ok (.aload_n 0, 1) := by decide +kernel
theorem dX6_init_228 : decode cX6_init 228 = .ok (.sipush 1000, 3) := by decide +kernel
theorem dX6_init_231 : decode cX6_init 231 = .ok (.newarray .int, 2) := by decide +kernel
theorem dX6_init_233 : decode cX6_init 233 = .ok (.putfield 93, 3) := by decide +kernel
theorem dX6_init_236 : decode cX6_init 236 = .ok (.aload_n 0, 1) := by decide +kernel
theorem dX6_init_237 : decode cX6_init 237 = .ok (.bipush 40, 2) := by decide +kernel
theorem dX6_init_239 : decode cX6_init 239 = .ok (.newarray .int, 2) := by decide +kernel
theorem dX6_init_241 : decode cX6_init 241 = .ok (.putfield 96, 3) := by decide +kernel
theorem dX6_init_244 : decode cX6_init 244 = .ok (.aload_n 0, 1) := by decide +kernel
theorem dX6_init_245 : decode cX6_init 245 = .ok (.sipush 160, 3) := by decide +kernel
theorem dX6_init_248 : decode cX6_init 248 = .ok (.newarray .long, 2) := by decide +kernel
theorem dX6_init_250 : decode cX6_init 250 = .ok (.putfield 99, 3) := by decide +kernel
theorem dX6_init_253 : decode cX6_init 253 = .ok (.aload_n 0, 1) := by decide +kernel
theorem dX6_init_254 : decode cX6_init 254 = .ok (.iconst 5, 1) := by decide +kernel
theorem dX6_init_255 : decode cX6_init 255 = .ok (.newarray .long, 2) := by decide +kernel
theorem dX6_init_257 : decode cX6_init 257 = .ok (.putfield 103, 3) := by decide +kernel
theorem dX6_init_260 : decode cX6_init 260 = .ok (.aload_n 0, 1) := by decide +kernel
theorem dX6_init_261 : decode cX6_init 261 = .ok (.iconst 5, 1) := by decide +kernel
theorem dX6_init_262 : decode cX6_init 262 = .ok (.newarray .int, 2) := by decide +kernel
theorem dX6_init_264 : decode cX6_init 264 = .ok (.putfield 106, 3) := by decide +kernel
theorem dX6_init_267 : decode cX6_init 267 = .ok (.aload_n 0, 1) := by decide +kernel
theorem dX6_init_268 : decode cX6_init 268 = .ok (.iconst 5, 1) := by decide +kernel
theorem dX6_init_269 : decode cX6_init 269 = .ok (.newarray .long, 2) := by decide +kernel
theorem dX6_init_271 : decode cX6_init 271 = .ok (.putfield 109, 3) := by decide +kernel
theorem dX6_init_274 : decode cX6_init 274 = .ok (.aload_n 0, 1) := by decide +kernel
theorem dX6_init_275 : decode cX6_init 275 = .ok (.iconst 5, 1) := by decide +kernel
theorem dX6_init_276 : decode cX6_init 276 = .ok (.newarray .int, 2) := by decide +kernel
theorem dX6_init_278 : decode cX6_init 278 = .ok (.putfield 112, 3) := by decide +kernel
theorem dX6_init_281 : decode cX6_init 281 = .ok (.aload_n 0, 1) := by decide +kernel
theorem dX6_init_282 : decode cX6_init 282 = .ok (.iconst 4, 1) := by decide +kernel
theorem dX6_init_283 : decode cX6_init 283 = .ok (.newarray .int, 2) := by decide +kernel
theorem dX6_init_285 : decode cX6_init 285 = .ok (.putfield 115, 3) := by decide +kernel
theorem dX6_init_288 : decode cX6_init 288 = .ok (.aload_n 0, 1) := by decide +kernel
theorem dX6_init_289 : decode cX6_init 289 = .ok (.bipush 40, 2) := by decide +kernel
theorem dX6_init_291 : decode cX6_init 291 = .ok (.newarray .int, 2) := by decide +kernel
theorem dX6_init_293 : decode cX6_init 293 = .ok (.putfield 118, 3) := by decide +kernel
theorem dX6_init_296 : decode cX6_init 296 = .ok (.aload_n 0, 1) := by decide +kernel
theorem dX6_init_297 : decode cX6_init 297 = .ok (.iconst 5, 1) := by decide +kernel
theorem dX6_init_298 : decode cX6_init 298 = .ok (.newarray .int, 2) := by decide +kernel
theorem dX6_init_300 : decode cX6_init 300 = .ok (.putfield 121, 3) := by decide +kernel
theorem dX6_init_303 : decode cX6_init 303 = .ok (.aload_n 0, 1) := by decide +kernel
theorem dX6_init_304 : decode cX6_init 304 = .ok (.iconst 4, 1) := by decide +kernel
theorem dX6_init_305 : decode cX6_init 305 = .ok (.newarray .int, 2) := by decide +kernel
theorem dX6_init_307 : decode cX6_init 307 = .ok (.putfield 124, 3) := by decide +kernel
theorem dX6_init_310 : decode cX6_init 310 = .ok (.aload_n 0, 1) := by decide +kernel
theorem dX6_init_311 : decode cX6_init 311 = .ok (.iconst 4, 1) := by decide +kernel
theorem dX6_init_312 : decode cX6_init 312 = .ok (.newarray .int, 2) := by decide +kernel
theorem dX6_init_314 : decode cX6_init 314 = .ok (.putfield 127, 3) := by decide +kernel
theorem dX6_init_317 : decode cX6_init 317 = .ok (.return_, 1) := by decide +kernel
theorem dL_law_0 : decode cL_law 0 = .ok (.new 7, 3) := by decide +kernel
theorem dL_law_3 : decode cL_law 3 = .ok (.dup, 1) := by decide +kernel
theorem dL_law_4 : decode cL_law 4 = .ok (.invokespecial 9, 3) := by decide +kernel
theorem dL_law_7 : decode cL_law 7 = .ok (.astore_n 1, 1) := by decide +kernel
theorem dL_law_8 : decode cL_law 8 = .ok (.new 10, 3) := by decide +kernel
theorem dL_law_11 : decode cL_law 11 = .ok (.dup, 1) := by decide +kernel
theorem dL_law_12 : decode cL_law 12 = .ok (.invokespecial 12, 3) := by decide +kernel
theorem dL_law_15 : decode cL_law 15 = .ok (.astore_n 2, 1) := by decide +kernel
theorem dL_law_16 : decode cL_law 16 = .ok (.iconst 0, 1) := by decide +kernel
theorem dL_law_17 : decode cL_law 17 = .ok (.istore_n 3, 1) := by decide +kernel
theorem dL_law_18 : decode cL_law 18 = .ok (.iload_n 3, 1) := by decide +kernel
theorem dL_law_19 : decode cL_law 19 = .ok (.aload_n 0, 1) := by decide +kernel
theorem dL_law_20 : decode cL_law 20 = .ok (.arraylength, 1) := by decide +kernel
theorem dL_law_21 : decode cL_law 21 = .ok (.iconst 4, 1) := by decide +kernel
theorem dL_law_22 : decode cL_law 22 = .ok (.isub, 1) := by decide +kernel
theorem dL_law_23 : decode cL_law 23 = .ok (.if_icmp .gt 873, 3) := by decide +kernel
theorem dL_law_26 : decode cL_law 26 = .ok (.aload_n 0, 1) := by decide +kernel
theorem dL_law_27 : decode cL_law 27 = .ok (.iload_n 3, 1) := by decide +kernel
theorem dL_law_28 : decode cL_law 28 = .ok (.iaload, 1) := by decide +kernel
theorem dL_law_29 : decode cL_law 29 = .ok (.bipush 31, 2) := by decide +kernel
theorem dL_law_31 : decode cL_law 31 = .ok (.iand, 1) := by decide +kernel
theorem dL_law_32 : decode cL_law 32 = .ok (.tableswitch 858 0 22 #[108, 131, 164, 207, 250, 293, 336, 379, 412, 435, 468, 491, 524, 567, 601, 644, 677, 700, 723, 756, 779, 812, 835], 108) := by decide +kernel
theorem dL_law_140 : decode cL_law 140 = .ok (.aload_n 1, 1) := by decide +kernel
theorem dL_law_141 : decode cL_law 141 = .ok (.aload_n 0, 1) := by decide +kernel
theorem dL_law_142 : decode cL_law 142 = .ok (.iload_n 3, 1) := by decide +kernel
theorem dL_law_143 : decode cL_law 143 = .ok (.iconst 1, 1) := by decide +kernel
theorem dL_law_144 : decode cL_law 144 = .ok (.iadd, 1) := by decide +kernel
theorem dL_law_145 : decode cL_law 145 = .ok (.iaload, 1) := by decide +kernel
theorem dL_law_146 : decode cL_law 146 = .ok (.invokevirtual 13, 3) := by decide +kernel
theorem dL_law_149 : decode cL_law 149 = .ok (.aload_n 2, 1) := by decide +kernel
theorem dL_law_150 : decode cL_law 150 = .ok (.aload_n 0, 1) := by decide +kernel
theorem dL_law_151 : decode cL_law 151 = .ok (.iload_n 3, 1) := by decide +kernel
theorem dL_law_152 : decode cL_law 152 = .ok (.iconst 1, 1) := by decide +kernel
theorem dL_law_153 : decode cL_law 153 = .ok (.iadd, 1) := by decide +kernel
theorem dL_law_154 : decode cL_law 154 = .ok (.iaload, 1) := by decide +kernel
theorem dL_law_155 : decode cL_law 155 = .ok (.invokevirtual 17, 3) := by decide +kernel
theorem dL_law_158 : decode cL_law 158 = .ok (.if_icmp .eq 732, 3) := by decide +kernel
theorem dL_law_163 : decode cL_law 163 = .ok (.aload_n 1, 1) := by decide +kernel
theorem dL_law_164 : decode cL_law 164 = .ok (.aload_n 0, 1) := by decide +kernel
theorem dL_law_165 : decode cL_law 165 = .ok (.iload_n 3, 1) := by decide +kernel
theorem dL_law_166 : decode cL_law 166 = .ok (.iconst 1, 1) := by decide +kernel
theorem dL_law_167 : decode cL_law 167 = .ok (.iadd, 1) := by decide +kernel
theorem dL_law_168 : decode cL_law 168 = .ok (.iaload, 1) := by decide +kernel
theorem dL_law_169 : decode cL_law 169 = .ok (.aload_n 0, 1) := by decide +kernel
theorem dL_law_170 : decode cL_law 170 = .ok (.iload_n 3, 1) := by decide +kernel
theorem dL_law_171 : decode cL_law 171 = .ok (.iconst 2, 1) := by decide +kernel
theorem dL_law_172 : decode cL_law 172 = .ok (.iadd, 1) := by decide +kernel
theorem dL_law_173 : decode cL_law 173 = .ok (.iaload, 1) := by decide +kernel
theorem dL_law_174 : decode cL_law 174 = .ok (.invokevirtual 18, 3) := by decide +kernel
theorem dL_law_177 : decode cL_law 177 = .ok (.aload_n 2, 1) := by decide +kernel
theorem dL_law_178 : decode cL_law 178 = .ok (.aload_n 0, 1) := by decide +kernel
theorem dL_law_179 : decode cL_law 179 = .ok (.iload_n 3, 1) := by decide +kernel
theorem dL_law_180 : decode cL_law 180 = .ok (.iconst 1, 1) := by decide +kernel
theorem dL_law_181 : decode cL_law 181 = .ok (.iadd, 1) := by decide +kernel
theorem dL_law_182 : decode cL_law 182 = .ok (.iaload, 1) := by decide +kernel
theorem dL_law_183 : decode cL_law 183 = .ok (.aload_n 0, 1) := by decide +kernel
theorem dL_law_184 : decode cL_law 184 = .ok (.iload_n 3, 1) := by decide +kernel
theorem dL_law_185 : decode cL_law 185 = .ok (.iconst 2, 1) := by decide +kernel
theorem dL_law_186 : decode cL_law 186 = .ok (.iadd, 1) := by decide +kernel
theorem dL_law_187 : decode cL_law 187 = .ok (.iaload, 1) := by decide +kernel
theorem dL_law_188 : decode cL_law 188 = .ok (.invokevirtual 22, 3) := by decide +kernel
theorem dL_law_191 : decode cL_law 191 = .ok (.if_icmp .eq 699, 3) := by decide +kernel
theorem dL_law_196 : decode cL_law 196 = .ok (.aload_n 1, 1) := by decide +kernel
theorem dL_law_197 : decode cL_law 197 = .ok (.aload_n 0, 1) := by decide +kernel
theorem dL_law_198 : decode cL_law 198 = .ok (.iload_n 3, 1) := by decide +kernel
theorem dL_law_199 : decode cL_law 199 = .ok (.iconst 1, 1) := by decide +kernel
theorem dL_law_200 : decode cL_law 200 = .ok (.iadd, 1) := by decide +kernel
theorem dL_law_201 : decode cL_law 201 = .ok (.iaload, 1) := by decide +kernel
theorem dL_law_202 : decode cL_law 202 = .ok (.aload_n 0, 1) := by decide +kernel
theorem dL_law_203 : decode cL_law 203 = .ok (.iload_n 3, 1) := by decide +kernel
theorem dL_law_204 : decode cL_law 204 = .ok (.iconst 2, 1) := by decide +kernel
theorem dL_law_205 : decode cL_law 205 = .ok (.iadd, 1) := by decide +kernel
theorem dL_law_206 : decode cL_law 206 = .ok (.iaload, 1) := by decide +kernel
theorem dL_law_207 : decode cL_law 207 = .ok (.aload_n 0, 1) := by decide +kernel
theorem dL_law_208 : decode cL_law 208 = .ok (.iload_n 3, 1) := by decide +kernel
theorem dL_law_209 : decode cL_law 209 = .ok (.iconst 3, 1) := by decide +kernel
theorem dL_law_210 : decode cL_law 210 = .ok (.iadd, 1) := by decide +kernel
theorem dL_law_211 : decode cL_law 211 = .ok (.iaload, 1) := by decide +kernel
theorem dL_law_212 : decode cL_law 212 = .ok (.invokevirtual 23, 3) := by decide +kernel
theorem dL_law_215 : decode cL_law 215 = .ok (.aload_n 2, 1) := by decide +kernel
theorem dL_law_216 : decode cL_law 216 = .ok (.aload_n 0, 1) := by decide +kernel
theorem dL_law_217 : decode cL_law 217 = .ok (.iload_n 3, 1) := by decide +kernel
theorem dL_law_218 : decode cL_law 218 = .ok (.iconst 1, 1) := by decide +kernel
theorem dL_law_219 : decode cL_law 219 = .ok (.iadd, 1) := by decide +kernel
theorem dL_law_220 : decode cL_law 220 = .ok (.iaload, 1) := by decide +kernel
theorem dL_law_221 : decode cL_law 221 = .ok (.aload_n 0, 1) := by decide +kernel
theorem dL_law_222 : decode cL_law 222 = .ok (.iload_n 3, 1) := by decide +kernel
theorem dL_law_223 : decode cL_law 223 = .ok (.iconst 2, 1) := by decide +kernel
theorem dL_law_224 : decode cL_law 224 = .ok (.iadd, 1) := by decide +kernel
theorem dL_law_225 : decode cL_law 225 = .ok (.iaload, 1) := by decide +kernel
theorem dL_law_226 : decode cL_law 226 = .ok (.aload_n 0, 1) := by decide +kernel
theorem dL_law_227 : decode cL_law 227 = .ok (.iload_n 3, 1) := by decide +kernel
theorem dL_law_228 : decode cL_law 228 = .ok (.iconst 3, 1) := by decide +kernel
theorem dL_law_229 : decode cL_law 229 = .ok (.iadd, 1) := by decide +kernel
theorem dL_law_230 : decode cL_law 230 = .ok (.iaload, 1) := by decide +kernel
theorem dL_law_231 : decode cL_law 231 = .ok (.invokevirtual 27, 3) := by decide +kernel
theorem dL_law_234 : decode cL_law 234 = .ok (.if_icmp .eq 656, 3) := by decide +kernel
theorem dL_law_239 : decode cL_law 239 = .ok (.aload_n 1, 1) := by decide +kernel
theorem dL_law_240 : decode cL_law 240 = .ok (.aload_n 0, 1) := by decide +kernel
theorem dL_law_241 : decode cL_law 241 = .ok (.iload_n 3, 1) := by decide +kernel
theorem dL_law_242 : decode cL_law 242 = .ok (.iconst 1, 1) := by decide +kernel
theorem dL_law_243 : decode cL_law 243 = .ok (.iadd, 1) := by decide +kernel
theorem dL_law_244 : decode cL_law 244 = .ok (.iaload, 1) := by decide +kernel
theorem dL_law_245 : decode cL_law 245 = .ok (.aload_n 0, 1) := by decide +kernel
theorem dL_law_246 : decode cL_law 246 = .ok (.iload_n 3, 1) := by decide +kernel
theorem dL_law_247 : decode cL_law 247 = .ok (.iconst 2, 1) := by decide +kernel
theorem dL_law_248 : decode cL_law 248 = .ok (.iadd, 1) := by decide +kernel
theorem dL_law_249 : decode cL_law 249 = .ok (.iaload, 1) := by decide +kernel
theorem dL_law_250 : decode cL_law 250 = .ok (.aload_n 0, 1) := by decide +kernel
theorem dL_law_251 : decode cL_law 251 = .ok (.iload_n 3, 1) := by decide +kernel
theorem dL_law_252 : decode cL_law 252 = .ok (.iconst 3, 1) := by decide +kernel
theorem dL_law_253 : decode cL_law 253 = .ok (.iadd, 1) := by decide +kernel
theorem dL_law_254 : decode cL_law 254 = .ok (.iaload, 1) := by decide +kernel
theorem dL_law_255 : decode cL_law 255 = .ok (.invokevirtual 28, 3) := by decide +kernel
theorem dL_law_258 : decode cL_law 258 = .ok (.aload_n 2, 1) := by decide +kernel
theorem dL_law_259 : decode cL_law 259 = .ok (.aload_n 0, 1) := by decide +kernel
theorem dL_law_260 : decode cL_law 260 = .ok (.iload_n 3, 1) := by decide +kernel
theorem dL_law_261 : decode cL_law 261 = .ok (.iconst 1, 1) := by decide +kernel
theorem dL_law_262 : decode cL_law 262 = .ok (.iadd, 1) := by decide +kernel
theorem dL_law_263 : decode cL_law 263 = .ok (.iaload, 1) := by decide +kernel
theorem dL_law_264 : decode cL_law 264 = .ok (.aload_n 0, 1) := by decide +kernel
theorem dL_law_265 : decode cL_law 265 = .ok (.iload_n 3, 1) := by decide +kernel
theorem dL_law_266 : decode cL_law 266 = .ok (.iconst 2, 1) := by decide +kernel
theorem dL_law_267 : decode cL_law 267 = .ok (.iadd, 1) := by decide +kernel
theorem dL_law_268 : decode cL_law 268 = .ok (.iaload, 1) := by decide +kernel
theorem dL_law_269 : decode cL_law 269 = .ok (.aload_n 0, 1) := by decide +kernel
theorem dL_law_270 : decode cL_law 270 = .ok (.iload_n 3, 1) := by decide +kernel
theorem dL_law_271 : decode cL_law 271 = .ok (.iconst 3, 1) := by decide +kernel
theorem dL_law_272 : decode cL_law 272 = .ok (.iadd, 1) := by decide +kernel
theorem dL_law_273 : decode cL_law 273 = .ok (.iaload, 1) := by decide +kernel
theorem dL_law_274 : decode cL_law 274 = .ok (.invokevirtual 31, 3) := by decide +kernel
theorem dL_law_277 : decode cL_law 277 = .ok (.if_icmp .eq 613, 3) := by decide +kernel
theorem dL_law_282 : decode cL_law 282 = .ok (.aload_n 1, 1) := by decide +kernel
theorem dL_law_283 : decode cL_law 283 = .ok (.aload_n 0, 1) := by decide +kernel
theorem dL_law_284 : decode cL_law 284 = .ok (.iload_n 3, 1) := by decide +kernel
theorem dL_law_285 : decode cL_law 285 = .ok (.iconst 1, 1) := by decide +kernel
theorem dL_law_286 : decode cL_law 286 = .ok (.iadd, 1) := by decide +kernel
theorem dL_law_287 : decode cL_law 287 = .ok (.iaload, 1) := by decide +kernel
theorem dL_law_288 : decode cL_law 288 = .ok (.aload_n 0, 1) := by decide +kernel
theorem dL_law_289 : decode cL_law 289 = .ok (.iload_n 3, 1) := by decide +kernel
theorem dL_law_290 : decode cL_law 290 = .ok (.iconst 2, 1) := by decide +kernel
theorem dL_law_291 : decode cL_law 291 = .ok (.iadd, 1) := by decide +kernel
theorem dL_law_292 : decode cL_law 292 = .ok (.iaload, 1) := by decide +kernel
theorem dL_law_293 : decode cL_law 293 = .ok (.aload_n 0, 1) := by decide +kernel
theorem dL_law_294 : decode cL_law 294 = .ok (.iload_n 3, 1) := by decide +kernel
theorem dL_law_295 : decode cL_law 295 = .ok (.iconst 3, 1) := by decide +kernel
theorem dL_law_296 : decode cL_law 296 = .ok (.iadd, 1) := by decide +kernel
theorem dL_law_297 : decode cL_law 297 = .ok (.iaload, 1) := by decide +kernel
theorem dL_law_298 : decode cL_law 298 = .ok (.invokevirtual 32, 3) := by decide +kernel
theorem dL_law_301 : decode cL_law 301 = .ok (.aload_n 2, 1) := by decide +kernel
theorem dL_law_302 : decode cL_law 302 = .ok (.aload_n 0, 1) := by decide +kernel
theorem dL_law_303 : decode cL_law 303 = .ok (.iload_n 3, 1) := by decide +kernel
theorem dL_law_304 : decode cL_law 304 = .ok (.iconst 1, 1) := by decide +kernel
theorem dL_law_305 : decode cL_law 305 = .ok (.iadd, 1) := by decide +kernel
theorem dL_law_306 : decode cL_law 306 = .ok (.iaload, 1) := by decide +kernel
theorem dL_law_307 : decode cL_law 307 = .ok (.aload_n 0, 1) := by decide +kernel
theorem dL_law_308 : decode cL_law 308 = .ok (.iload_n 3, 1) := by decide +kernel
theorem dL_law_309 : decode cL_law 309 = .ok (.iconst 2, 1) := by decide +kernel
theorem dL_law_310 : decode cL_law 310 = .ok (.iadd, 1) := by decide +kernel
theorem dL_law_311 : decode cL_law 311 = .ok (.iaload, 1) := by decide +kernel
theorem dL_law_312 : decode cL_law 312 = .ok (.aload_n 0, 1) := by decide +kernel
theorem dL_law_313 : decode cL_law 313 = .ok (.iload_n 3, 1) := by decide +kernel
theorem dL_law_314 : decode cL_law 314 = .ok (.iconst 3, 1) := by decide +kernel
theorem dL_law_315 : decode cL_law 315 = .ok (.iadd, 1) := by decide +kernel
theorem dL_law_316 : decode cL_law 316 = .ok (.iaload, 1) := by decide +kernel
theorem dL_law_317 : decode cL_law 317 = .ok (.invokevirtual 35, 3) := by decide +kernel
theorem dL_law_320 : decode cL_law 320 = .ok (.if_icmp .eq 570, 3) := by decide +kernel
theorem dL_law_325 : decode cL_law 325 = .ok (.aload_n 1, 1) := by decide +kernel
theorem dL_law_326 : decode cL_law 326 = .ok (.aload_n 0, 1) := by decide +kernel
theorem dL_law_327 : decode cL_law 327 = .ok (.iload_n 3, 1) := by decide +kernel
theorem dL_law_328 : decode cL_law 328 = .ok (.iconst 1, 1) := by decide +kernel
theorem dL_law_329 : decode cL_law 329 = .ok (.iadd, 1) := by decide +kernel
theorem dL_law_330 : decode cL_law 330 = .ok (.iaload, 1) := by decide +kernel
theorem dL_law_331 : decode cL_law 331 = .ok (.aload_n 0, 1) := by decide +kernel
theorem dL_law_332 : decode cL_law 332 = .ok (.iload_n 3, 1) := by decide +kernel
theorem dL_law_333 : decode cL_law 333 = .ok (.iconst 2, 1) := by decide +kernel
theorem dL_law_334 : decode cL_law 334 = .ok (.iadd, 1) := by decide +kernel
theorem dL_law_335 : decode cL_law 335 = .ok (.iaload, 1) := by decide +kernel
theorem dL_law_336 : decode cL_law 336 = .ok (.aload_n 0, 1) := by decide +kernel
theorem dL_law_337 : decode cL_law 337 = .ok (.iload_n 3, 1) := by decide +kernel
theorem dL_law_338 : decode cL_law 338 = .ok (.iconst 3, 1) := by decide +kernel
theorem dL_law_339 : decode cL_law 339 = .ok (.iadd, 1) := by decide +kernel
theorem dL_law_340 : decode cL_law 340 = .ok (.iaload, 1) := by decide +kernel
theorem dL_law_341 : decode cL_law 341 = .ok (.invokevirtual 36, 3) := by decide +kernel
theorem dL_law_344 : decode cL_law 344 = .ok (.aload_n 2, 1) := by decide +kernel
theorem dL_law_345 : decode cL_law 345 = .ok (.aload_n 0, 1) := by decide +kernel
theorem dL_law_346 : decode cL_law 346 = .ok (.iload_n 3, 1) := by decide +kernel
theorem dL_law_347 : decode cL_law 347 = .ok (.iconst 1, 1) := by decide +kernel
theorem dL_law_348 : decode cL_law 348 = .ok (.iadd, 1) := by decide +kernel
theorem dL_law_349 : decode cL_law 349 = .ok (.iaload, 1) := by decide +kernel
theorem dL_law_350 : decode cL_law 350 = .ok (.aload_n 0, 1) := by decide +kernel
theorem dL_law_351 : decode cL_law 351 = .ok (.iload_n 3, 1) := by decide +kernel
theorem dL_law_352 : decode cL_law 352 = .ok (.iconst 2, 1) := by decide +kernel
theorem dL_law_353 : decode cL_law 353 = .ok (.iadd, 1) := by decide +kernel
theorem dL_law_354 : decode cL_law 354 = .ok (.iaload, 1) := by decide +kernel
theorem dL_law_355 : decode cL_law 355 = .ok (.aload_n 0, 1) := by decide +kernel
theorem dL_law_356 : decode cL_law 356 = .ok (.iload_n 3, 1) := by decide +kernel
theorem dL_law_357 : decode cL_law 357 = .ok (.iconst 3, 1) := by decide +kernel
theorem dL_law_358 : decode cL_law 358 = .ok (.iadd, 1) := by decide +kernel
theorem dL_law_359 : decode cL_law 359 = .ok (.iaload, 1) := by decide +kernel
theorem dL_law_360 : decode cL_law 360 = .ok (.invokevirtual 39, 3) := by decide +kernel
theorem dL_law_363 : decode cL_law 363 = .ok (.if_icmp .eq 527, 3) := by decide +kernel
theorem dL_law_368 : decode cL_law 368 = .ok (.aload_n 1, 1) := by decide +kernel
theorem dL_law_369 : decode cL_law 369 = .ok (.aload_n 0, 1) := by decide +kernel
theorem dL_law_370 : decode cL_law 370 = .ok (.iload_n 3, 1) := by decide +kernel
theorem dL_law_371 : decode cL_law 371 = .ok (.iconst 1, 1) := by decide +kernel
theorem dL_law_372 : decode cL_law 372 = .ok (.iadd, 1) := by decide +kernel
theorem dL_law_373 : decode cL_law 373 = .ok (.iaload, 1) := by decide +kernel
theorem dL_law_374 : decode cL_law 374 = .ok (.aload_n 0, 1) := by decide +kernel
theorem dL_law_375 : decode cL_law 375 = .ok (.iload_n 3, 1) := by decide +kernel
theorem dL_law_376 : decode cL_law 376 = .ok (.iconst 2, 1) := by decide +kernel
theorem dL_law_377 : decode cL_law 377 = .ok (.iadd, 1) := by decide +kernel
theorem dL_law_378 : decode cL_law 378 = .ok (.iaload, 1) := by decide +kernel
theorem dL_law_379 : decode cL_law 379 = .ok (.aload_n 0, 1) := by decide +kernel
theorem dL_law_380 : decode cL_law 380 = .ok (.iload_n 3, 1) := by decide +kernel
theorem dL_law_381 : decode cL_law 381 = .ok (.iconst 3, 1) := by decide +kernel
theorem dL_law_382 : decode cL_law 382 = .ok (.iadd, 1) := by decide +kernel
theorem dL_law_383 : decode cL_law 383 = .ok (.iaload, 1) := by decide +kernel
theorem dL_law_384 : decode cL_law 384 = .ok (.invokevirtual 40, 3) := by decide +kernel
theorem dL_law_387 : decode cL_law 387 = .ok (.aload_n 2, 1) := by decide +kernel
theorem dL_law_388 : decode cL_law 388 = .ok (.aload_n 0, 1) := by decide +kernel
theorem dL_law_389 : decode cL_law 389 = .ok (.iload_n 3, 1) := by decide +kernel
theorem dL_law_390 : decode cL_law 390 = .ok (.iconst 1, 1) := by decide +kernel
theorem dL_law_391 : decode cL_law 391 = .ok (.iadd, 1) := by decide +kernel
theorem dL_law_392 : decode cL_law 392 = .ok (.iaload, 1) := by decide +kernel
theorem dL_law_393 : decode cL_law 393 = .ok (.aload_n 0, 1) := by decide +kernel
theorem dL_law_394 : decode cL_law 394 = .ok (.iload_n 3, 1) := by decide +kernel
theorem dL_law_395 : decode cL_law 395 = .ok (.iconst 2, 1) := by decide +kernel
theorem dL_law_396 : decode cL_law 396 = .ok (.iadd, 1) := by decide +kernel
theorem dL_law_397 : decode cL_law 397 = .ok (.iaload, 1) := by decide +kernel
theorem dL_law_398 : decode cL_law 398 = .ok (.aload_n 0, 1) := by decide +kernel
theorem dL_law_399 : decode cL_law 399 = .ok (.iload_n 3, 1) := by decide +kernel
theorem dL_law_400 : decode cL_law 400 = .ok (.iconst 3, 1) := by decide +kernel
theorem dL_law_401 : decode cL_law 401 = .ok (.iadd, 1) := by decide +kernel
theorem dL_law_402 : decode cL_law 402 = .ok (.iaload, 1) := by decide +kernel
theorem dL_law_403 : decode cL_law 403 = .ok (.invokevirtual 43, 3) := by decide +kernel
theorem dL_law_406 : decode cL_law 406 = .ok (.if_icmp .eq 484, 3) := by decide +kernel
theorem dL_law_411 : decode cL_law 411 = .ok (.aload_n 1, 1) := by decide +kernel
theorem dL_law_412 : decode cL_law 412 = .ok (.aload_n 0, 1) := by decide +kernel
theorem dL_law_413 : decode cL_law 413 = .ok (.iload_n 3, 1) := by decide +kernel
theorem dL_law_414 : decode cL_law 414 = .ok (.iconst 1, 1) := by decide +kernel
theorem dL_law_415 : decode cL_law 415 = .ok (.iadd, 1) := by decide +kernel
theorem dL_law_416 : decode cL_law 416 = .ok (.iaload, 1) := by decide +kernel
theorem dL_law_417 : decode cL_law 417 = .ok (.aload_n 0, 1) := by decide +kernel
theorem dL_law_418 : decode cL_law 418 = .ok (.iload_n 3, 1) := by decide +kernel
theorem dL_law_419 : decode cL_law 419 = .ok (.iconst 2, 1) := by decide +kernel
theorem dL_law_420 : decode cL_law 420 = .ok (.iadd, 1) := by decide +kernel
theorem dL_law_421 : decode cL_law 421 = .ok (.iaload, 1) := by decide +kernel
theorem dL_law_422 : decode cL_law 422 = .ok (.invokevirtual 44, 3) := by decide +kernel
theorem dL_law_425 : decode cL_law 425 = .ok (.aload_n 2, 1) := by decide +kernel
theorem dL_law_426 : decode cL_law 426 = .ok (.aload_n 0, 1) := by decide +kernel
theorem dL_law_427 : decode cL_law 427 = .ok (.iload_n 3, 1) := by decide +kernel
theorem dL_law_428 : decode cL_law 428 = .ok (.iconst 1, 1) := by decide +kernel
theorem dL_law_429 : decode cL_law 429 = .ok (.iadd, 1) := by decide +kernel
theorem dL_law_430 : decode cL_law 430 = .ok (.iaload, 1) := by decide +kernel
theorem dL_law_431 : decode cL_law 431 = .ok (.aload_n 0, 1) := by decide +kernel
theorem dL_law_432 : decode cL_law 432 = .ok (.iload_n 3, 1) := by decide +kernel
theorem dL_law_433 : decode cL_law 433 = .ok (.iconst 2, 1) := by decide +kernel
theorem dL_law_434 : decode cL_law 434 = .ok (.iadd, 1) := by decide +kernel
theorem dL_law_435 : decode cL_law 435 = .ok (.iaload, 1) := by decide +kernel
theorem dL_law_436 : decode cL_law 436 = .ok (.invokevirtual 47, 3) := by decide +kernel
theorem dL_law_439 : decode cL_law 439 = .ok (.if_icmp .eq 451, 3) := by decide +kernel
theorem dL_law_444 : decode cL_law 444 = .ok (.aload_n 1, 1) := by decide +kernel
theorem dL_law_445 : decode cL_law 445 = .ok (.aload_n 0, 1) := by decide +kernel
theorem dL_law_446 : decode cL_law 446 = .ok (.iload_n 3, 1) := by decide +kernel
theorem dL_law_447 : decode cL_law 447 = .ok (.iconst 1, 1) := by decide +kernel
theorem dL_law_448 : decode cL_law 448 = .ok (.iadd, 1) := by decide +kernel
theorem dL_law_449 : decode cL_law 449 = .ok (.iaload, 1) := by decide +kernel
theorem dL_law_450 : decode cL_law 450 = .ok (.invokevirtual 48, 3) := by decide +kernel
theorem dL_law_453 : decode cL_law 453 = .ok (.aload_n 2, 1) := by decide +kernel
theorem dL_law_454 : decode cL_law 454 = .ok (.aload_n 0, 1) := by decide +kernel
theorem dL_law_455 : decode cL_law 455 = .ok (.iload_n 3, 1) := by decide +kernel
theorem dL_law_456 : decode cL_law 456 = .ok (.iconst 1, 1) := by decide +kernel
theorem dL_law_457 : decode cL_law 457 = .ok (.iadd, 1) := by decide +kernel
theorem dL_law_458 : decode cL_law 458 = .ok (.iaload, 1) := by decide +kernel
theorem dL_law_459 : decode cL_law 459 = .ok (.invokevirtual 51, 3) := by decide +kernel
theorem dL_law_462 : decode cL_law 462 = .ok (.if_icmp .eq 428, 3) := by decide +kernel
theorem dL_law_467 : decode cL_law 467 = .ok (.aload_n 1, 1) := by decide +kernel
theorem dL_law_468 : decode cL_law 468 = .ok (.aload_n 0, 1) := by decide +kernel
theorem dL_law_469 : decode cL_law 469 = .ok (.iload_n 3, 1) := by decide +kernel
theorem dL_law_470 : decode cL_law 470 = .ok (.iconst 1, 1) := by decide +kernel
theorem dL_law_471 : decode cL_law 471 = .ok (.iadd, 1) := by decide +kernel
theorem dL_law_472 : decode cL_law 472 = .ok (.iaload, 1) := by decide +kernel
theorem dL_law_473 : decode cL_law 473 = .ok (.aload_n 0, 1) := by decide +kernel
theorem dL_law_474 : decode cL_law 474 = .ok (.iload_n 3, 1) := by decide +kernel
theorem dL_law_475 : decode cL_law 475 = .ok (.iconst 2, 1) := by decide +kernel
theorem dL_law_476 : decode cL_law 476 = .ok (.iadd, 1) := by decide +kernel
theorem dL_law_477 : decode cL_law 477 = .ok (.iaload, 1) := by decide +kernel
theorem dL_law_478 : decode cL_law 478 = .ok (.invokevirtual 52, 3) := by decide +kernel
theorem dL_law_481 : decode cL_law 481 = .ok (.aload_n 2, 1) := by decide +kernel
theorem dL_law_482 : decode cL_law 482 = .ok (.aload_n 0, 1) := by decide +kernel
theorem dL_law_483 : decode cL_law 483 = .ok (.iload_n 3, 1) := by decide +kernel
theorem dL_law_484 : decode cL_law 484 = .ok (.iconst 1, 1) := by decide +kernel
theorem dL_law_485 : decode cL_law 485 = .ok (.iadd, 1) := by decide +kernel
theorem dL_law_486 : decode cL_law 486 = .ok (.iaload, 1) := by decide +kernel
theorem dL_law_487 : decode cL_law 487 = .ok (.aload_n 0, 1) := by decide +kernel
theorem dL_law_488 : decode cL_law 488 = .ok (.iload_n 3, 1) := by decide +kernel
theorem dL_law_489 : decode cL_law 489 = .ok (.iconst 2, 1) := by decide +kernel
theorem dL_law_490 : decode cL_law 490 = .ok (.iadd, 1) := by decide +kernel
theorem dL_law_491 : decode cL_law 491 = .ok (.iaload, 1) := by decide +kernel
theorem dL_law_492 : decode cL_law 492 = .ok (.invokevirtual 55, 3) := by decide +kernel
theorem dL_law_495 : decode cL_law 495 = .ok (.if_icmp .eq 395, 3) := by decide +kernel
theorem dL_law_500 : decode cL_law 500 = .ok (.aload_n 1, 1) := by decide +kernel
theorem dL_law_501 : decode cL_law 501 = .ok (.aload_n 0, 1) := by decide +kernel
theorem dL_law_502 : decode cL_law 502 = .ok (.iload_n 3, 1) := by decide +kernel
theorem dL_law_503 : decode cL_law 503 = .ok (.iconst 1, 1) := by decide +kernel
theorem dL_law_504 : decode cL_law 504 = .ok (.iadd, 1) := by decide +kernel
theorem dL_law_505 : decode cL_law 505 = .ok (.iaload, 1) := by decide +kernel
theorem dL_law_506 : decode cL_law 506 = .ok (.invokevirtual 56, 3) := by decide +kernel
theorem dL_law_509 : decode cL_law 509 = .ok (.aload_n 2, 1) := by decide +kernel
theorem dL_law_510 : decode cL_law 510 = .ok (.aload_n 0, 1) := by decide +kernel
theorem dL_law_511 : decode cL_law 511 = .ok (.iload_n 3, 1) := by decide +kernel
theorem dL_law_512 : decode cL_law 512 = .ok (.iconst 1, 1) := by decide +kernel
theorem dL_law_513 : decode cL_law 513 = .ok (.iadd, 1) := by decide +kernel
theorem dL_law_514 : decode cL_law 514 = .ok (.iaload, 1) := by decide +kernel
theorem dL_law_515 : decode cL_law 515 = .ok (.invokevirtual 59, 3) := by decide +kernel
theorem dL_law_518 : decode cL_law 518 = .ok (.if_icmp .eq 372, 3) := by decide +kernel
theorem dL_law_523 : decode cL_law 523 = .ok (.aload_n 1, 1) := by decide +kernel
theorem dL_law_524 : decode cL_law 524 = .ok (.aload_n 0, 1) := by decide +kernel
theorem dL_law_525 : decode cL_law 525 = .ok (.iload_n 3, 1) := by decide +kernel
theorem dL_law_526 : decode cL_law 526 = .ok (.iconst 1, 1) := by decide +kernel
theorem dL_law_527 : decode cL_law 527 = .ok (.iadd, 1) := by decide +kernel
theorem dL_law_528 : decode cL_law 528 = .ok (.iaload, 1) := by decide +kernel
theorem dL_law_529 : decode cL_law 529 = .ok (.aload_n 0, 1) := by decide +kernel
theorem dL_law_530 : decode cL_law 530 = .ok (.iload_n 3, 1) := by decide +kernel
theorem dL_law_531 : decode cL_law 531 = .ok (.iconst 2, 1) := by decide +kernel
theorem dL_law_532 : decode cL_law 532 = .ok (.iadd, 1) := by decide +kernel
theorem dL_law_533 : decode cL_law 533 = .ok (.iaload, 1) := by decide +kernel
theorem dL_law_534 : decode cL_law 534 = .ok (.invokevirtual 60, 3) := by decide +kernel
theorem dL_law_537 : decode cL_law 537 = .ok (.aload_n 2, 1) := by decide +kernel
theorem dL_law_538 : decode cL_law 538 = .ok (.aload_n 0, 1) := by decide +kernel
theorem dL_law_539 : decode cL_law 539 = .ok (.iload_n 3, 1) := by decide +kernel
theorem dL_law_540 : decode cL_law 540 = .ok (.iconst 1, 1) := by decide +kernel
theorem dL_law_541 : decode cL_law 541 = .ok (.iadd, 1) := by decide +kernel
theorem dL_law_542 : decode cL_law 542 = .ok (.iaload, 1) := by decide +kernel
theorem dL_law_543 : decode cL_law 543 = .ok (.aload_n 0, 1) := by decide +kernel
theorem dL_law_544 : decode cL_law 544 = .ok (.iload_n 3, 1) := by decide +kernel
theorem dL_law_545 : decode cL_law 545 = .ok (.iconst 2, 1) := by decide +kernel
theorem dL_law_546 : decode cL_law 546 = .ok (.iadd, 1) := by decide +kernel
theorem dL_law_547 : decode cL_law 547 = .ok (.iaload, 1) := by decide +kernel
theorem dL_law_548 : decode cL_law 548 = .ok (.invokevirtual 63, 3) := by decide +kernel
theorem dL_law_551 : decode cL_law 551 = .ok (.if_icmp .eq 339, 3) := by decide +kernel
theorem dL_law_556 : decode cL_law 556 = .ok (.aload_n 1, 1) := by decide +kernel
theorem dL_law_557 : decode cL_law 557 = .ok (.aload_n 0, 1) := by decide +kernel
theorem dL_law_558 : decode cL_law 558 = .ok (.iload_n 3, 1) := by decide +kernel
theorem dL_law_559 : decode cL_law 559 = .ok (.iconst 1, 1) := by decide +kernel
theorem dL_law_560 : decode cL_law 560 = .ok (.iadd, 1) := by decide +kernel
theorem dL_law_561 : decode cL_law 561 = .ok (.iaload, 1) := by decide +kernel
theorem dL_law_562 : decode cL_law 562 = .ok (.aload_n 0, 1) := by decide +kernel
theorem dL_law_563 : decode cL_law 563 = .ok (.iload_n 3, 1) := by decide +kernel
theorem dL_law_564 : decode cL_law 564 = .ok (.iconst 2, 1) := by decide +kernel
theorem dL_law_565 : decode cL_law 565 = .ok (.iadd, 1) := by decide +kernel
theorem dL_law_566 : decode cL_law 566 = .ok (.iaload, 1) := by decide +kernel
theorem dL_law_567 : decode cL_law 567 = .ok (.aload_n 0, 1) := by decide +kernel
theorem dL_law_568 : decode cL_law 568 = .ok (.iload_n 3, 1) := by decide +kernel
theorem dL_law_569 : decode cL_law 569 = .ok (.iconst 3, 1) := by decide +kernel
theorem dL_law_570 : decode cL_law 570 = .ok (.iadd, 1) := by decide +kernel
theorem dL_law_571 : decode cL_law 571 = .ok (.iaload, 1) := by decide +kernel
theorem dL_law_572 : decode cL_law 572 = .ok (.invokevirtual 64, 3) := by decide +kernel
theorem dL_law_575 : decode cL_law 575 = .ok (.aload_n 2, 1) := by decide +kernel
theorem dL_law_576 : decode cL_law 576 = .ok (.aload_n 0, 1) := by decide +kernel
theorem dL_law_577 : decode cL_law 577 = .ok (.iload_n 3, 1) := by decide +kernel
theorem dL_law_578 : decode cL_law 578 = .ok (.iconst 1, 1) := by decide +kernel
theorem dL_law_579 : decode cL_law 579 = .ok (.iadd, 1) := by decide +kernel
theorem dL_law_580 : decode cL_law 580 = .ok (.iaload, 1) := by decide +kernel
theorem dL_law_581 : decode cL_law 581 = .ok (.aload_n 0, 1) := by decide +kernel
theorem dL_law_582 : decode cL_law 582 = .ok (.iload_n 3, 1) := by decide +kernel
theorem dL_law_583 : decode cL_law 583 = .ok (.iconst 2, 1) := by decide +kernel
theorem dL_law_584 : decode cL_law 584 = .ok (.iadd, 1) := by decide +kernel
theorem dL_law_585 : decode cL_law 585 = .ok (.iaload, 1) := by decide +kernel
theorem dL_law_586 : decode cL_law 586 = .ok (.aload_n 0, 1) := by decide +kernel
theorem dL_law_587 : decode cL_law 587 = .ok (.iload_n 3, 1) := by decide +kernel
theorem dL_law_588 : decode cL_law 588 = .ok (.iconst 3, 1) := by decide +kernel
theorem dL_law_589 : decode cL_law 589 = .ok (.iadd, 1) := by decide +kernel
theorem dL_law_590 : decode cL_law 590 = .ok (.iaload, 1) := by decide +kernel
theorem dL_law_591 : decode cL_law 591 = .ok (.invokevirtual 67, 3) := by decide +kernel
theorem dL_law_594 : decode cL_law 594 = .ok (.if_icmp .eq 296, 3) := by decide +kernel
theorem dL_law_599 : decode cL_law 599 = .ok (.aload_n 1, 1) := by decide +kernel
theorem dL_law_600 : decode cL_law 600 = .ok (.aload_n 0, 1) := by decide +kernel
theorem dL_law_601 : decode cL_law 601 = .ok (.iload_n 3, 1) := by decide +kernel
theorem dL_law_602 : decode cL_law 602 = .ok (.iconst 1, 1) := by decide +kernel
theorem dL_law_603 : decode cL_law 603 = .ok (.iadd, 1) := by decide +kernel
theorem dL_law_604 : decode cL_law 604 = .ok (.iaload, 1) := by decide +kernel
theorem dL_law_605 : decode cL_law 605 = .ok (.aload_n 0, 1) := by decide +kernel
theorem dL_law_606 : decode cL_law 606 = .ok (.iload_n 3, 1) := by decide +kernel
theorem dL_law_607 : decode cL_law 607 = .ok (.iconst 2, 1) := by decide +kernel
theorem dL_law_608 : decode cL_law 608 = .ok (.iadd, 1) := by decide +kernel
theorem dL_law_609 : decode cL_law 609 = .ok (.iaload, 1) := by decide +kernel
theorem dL_law_610 : decode cL_law 610 = .ok (.invokevirtual 68, 3) := by decide +kernel
theorem dL_law_613 : decode cL_law 613 = .ok (.aload_n 2, 1) := by decide +kernel
theorem dL_law_614 : decode cL_law 614 = .ok (.aload_n 0, 1) := by decide +kernel
theorem dL_law_615 : decode cL_law 615 = .ok (.iload_n 3, 1) := by decide +kernel
theorem dL_law_616 : decode cL_law 616 = .ok (.iconst 1, 1) := by decide +kernel
theorem dL_law_617 : decode cL_law 617 = .ok (.iadd, 1) := by decide +kernel
theorem dL_law_618 : decode cL_law 618 = .ok (.iaload, 1) := by decide +kernel
theorem dL_law_619 : decode cL_law 619 = .ok (.aload_n 0, 1) := by decide +kernel
theorem dL_law_620 : decode cL_law 620 = .ok (.iload_n 3, 1) := by decide +kernel
theorem dL_law_621 : decode cL_law 621 = .ok (.iconst 2, 1) := by decide +kernel
theorem dL_law_622 : decode cL_law 622 = .ok (.iadd, 1) := by decide +kernel
theorem dL_law_623 : decode cL_law 623 = .ok (.iaload, 1) := by decide +kernel
theorem dL_law_624 : decode cL_law 624 = .ok (.invokevirtual 72, 3) := by decide +kernel
theorem dL_law_627 : decode cL_law 627 = .ok (.lcmp, 1) := by decide +kernel
theorem dL_law_628 : decode cL_law 628 = .ok (.ifCond .eq 262, 3) := by decide +kernel
theorem dL_law_633 : decode cL_law 633 = .ok (.aload_n 1, 1) := by decide +kernel
theorem dL_law_634 : decode cL_law 634 = .ok (.aload_n 0, 1) := by decide +kernel
theorem dL_law_635 : decode cL_law 635 = .ok (.iload_n 3, 1) := by decide +kernel
theorem dL_law_636 : decode cL_law 636 = .ok (.iconst 1, 1) := by decide +kernel
theorem dL_law_637 : decode cL_law 637 = .ok (.iadd, 1) := by decide +kernel
theorem dL_law_638 : decode cL_law 638 = .ok (.iaload, 1) := by decide +kernel
theorem dL_law_639 : decode cL_law 639 = .ok (.aload_n 0, 1) := by decide +kernel
theorem dL_law_640 : decode cL_law 640 = .ok (.iload_n 3, 1) := by decide +kernel
theorem dL_law_641 : decode cL_law 641 = .ok (.iconst 2, 1) := by decide +kernel
theorem dL_law_642 : decode cL_law 642 = .ok (.iadd, 1) := by decide +kernel
theorem dL_law_643 : decode cL_law 643 = .ok (.iaload, 1) := by decide +kernel
theorem dL_law_644 : decode cL_law 644 = .ok (.aload_n 0, 1) := by decide +kernel
theorem dL_law_645 : decode cL_law 645 = .ok (.iload_n 3, 1) := by decide +kernel
theorem dL_law_646 : decode cL_law 646 = .ok (.iconst 3, 1) := by decide +kernel
theorem dL_law_647 : decode cL_law 647 = .ok (.iadd, 1) := by decide +kernel
theorem dL_law_648 : decode cL_law 648 = .ok (.iaload, 1) := by decide +kernel
theorem dL_law_649 : decode cL_law 649 = .ok (.invokevirtual 73, 3) := by decide +kernel
theorem dL_law_652 : decode cL_law 652 = .ok (.aload_n 2, 1) := by decide +kernel
theorem dL_law_653 : decode cL_law 653 = .ok (.aload_n 0, 1) := by decide +kernel
theorem dL_law_654 : decode cL_law 654 = .ok (.iload_n 3, 1) := by decide +kernel
theorem dL_law_655 : decode cL_law 655 = .ok (.iconst 1, 1) := by decide +kernel
theorem dL_law_656 : decode cL_law 656 = .ok (.iadd, 1) := by decide +kernel
theorem dL_law_657 : decode cL_law 657 = .ok (.iaload, 1) := by decide +kernel
theorem dL_law_658 : decode cL_law 658 = .ok (.aload_n 0, 1) := by decide +kernel
theorem dL_law_659 : decode cL_law 659 = .ok (.iload_n 3, 1) := by decide +kernel
theorem dL_law_660 : decode cL_law 660 = .ok (.iconst 2, 1) := by decide +kernel
theorem dL_law_661 : decode cL_law 661 = .ok (.iadd, 1) := by decide +kernel
theorem dL_law_662 : decode cL_law 662 = .ok (.iaload, 1) := by decide +kernel
theorem dL_law_663 : decode cL_law 663 = .ok (.aload_n 0, 1) := by decide +kernel
theorem dL_law_664 : decode cL_law 664 = .ok (.iload_n 3, 1) := by decide +kernel
theorem dL_law_665 : decode cL_law 665 = .ok (.iconst 3, 1) := by decide +kernel
theorem dL_law_666 : decode cL_law 666 = .ok (.iadd, 1) := by decide +kernel
theorem dL_law_667 : decode cL_law 667 = .ok (.iaload, 1) := by decide +kernel
theorem dL_law_668 : decode cL_law 668 = .ok (.invokevirtual 76, 3) := by decide +kernel
theorem dL_law_671 : decode cL_law 671 = .ok (.if_icmp .eq 219, 3) := by decide +kernel
theorem dL_law_676 : decode cL_law 676 = .ok (.aload_n 1, 1) := by decide +kernel
theorem dL_law_677 : decode cL_law 677 = .ok (.aload_n 0, 1) := by decide +kernel
theorem dL_law_678 : decode cL_law 678 = .ok (.iload_n 3, 1) := by decide +kernel
theorem dL_law_679 : decode cL_law 679 = .ok (.iconst 1, 1) := by decide +kernel
theorem dL_law_680 : decode cL_law 680 = .ok (.iadd, 1) := by decide +kernel
theorem dL_law_681 : decode cL_law 681 = .ok (.iaload, 1) := by decide +kernel
theorem dL_law_682 : decode cL_law 682 = .ok (.aload_n 0, 1) := by decide +kernel
theorem dL_law_683 : decode cL_law 683 = .ok (.iload_n 3, 1) := by decide +kernel
theorem dL_law_684 : decode cL_law 684 = .ok (.iconst 2, 1) := by decide +kernel
theorem dL_law_685 : decode cL_law 685 = .ok (.iadd, 1) := by decide +kernel
theorem dL_law_686 : decode cL_law 686 = .ok (.iaload, 1) := by decide +kernel
theorem dL_law_687 : decode cL_law 687 = .ok (.invokevirtual 77, 3) := by decide +kernel
theorem dL_law_690 : decode cL_law 690 = .ok (.aload_n 2, 1) := by decide +kernel
theorem dL_law_691 : decode cL_law 691 = .ok (.aload_n 0, 1) := by decide +kernel
theorem dL_law_692 : decode cL_law 692 = .ok (.iload_n 3, 1) := by decide +kernel
theorem dL_law_693 : decode cL_law 693 = .ok (.iconst 1, 1) := by decide +kernel
theorem dL_law_694 : decode cL_law 694 = .ok (.iadd, 1) := by decide +kernel
theorem dL_law_695 : decode cL_law 695 = .ok (.iaload, 1) := by decide +kernel
theorem dL_law_696 : decode cL_law 696 = .ok (.aload_n 0, 1) := by decide +kernel
theorem dL_law_697 : decode cL_law 697 = .ok (.iload_n 3, 1) := by decide +kernel
theorem dL_law_698 : decode cL_law 698 = .ok (.iconst 2, 1) := by decide +kernel
theorem dL_law_699 : decode cL_law 699 = .ok (.iadd, 1) := by decide +kernel
theorem dL_law_700 : decode cL_law 700 = .ok (.iaload, 1) := by decide +kernel
theorem dL_law_701 : decode cL_law 701 = .ok (.invokevirtual 80, 3) := by decide +kernel
theorem dL_law_704 : decode cL_law 704 = .ok (.if_icmp .eq 186, 3) := by decide +kernel
theorem dL_law_709 : decode cL_law 709 = .ok (.aload_n 1, 1) := by decide +kernel
theorem dL_law_710 : decode cL_law 710 = .ok (.aload_n 0, 1) := by decide +kernel
theorem dL_law_711 : decode cL_law 711 = .ok (.iload_n 3, 1) := by decide +kernel
theorem dL_law_712 : decode cL_law 712 = .ok (.iconst 1, 1) := by decide +kernel
theorem dL_law_713 : decode cL_law 713 = .ok (.iadd, 1) := by decide +kernel
theorem dL_law_714 : decode cL_law 714 = .ok (.iaload, 1) := by decide +kernel
theorem dL_law_715 : decode cL_law 715 = .ok (.invokevirtual 81, 3) := by decide +kernel
theorem dL_law_718 : decode cL_law 718 = .ok (.aload_n 2, 1) := by decide +kernel
theorem dL_law_719 : decode cL_law 719 = .ok (.aload_n 0, 1) := by decide +kernel
theorem dL_law_720 : decode cL_law 720 = .ok (.iload_n 3, 1) := by decide +kernel
theorem dL_law_721 : decode cL_law 721 = .ok (.iconst 1, 1) := by decide +kernel
theorem dL_law_722 : decode cL_law 722 = .ok (.iadd, 1) := by decide +kernel
theorem dL_law_723 : decode cL_law 723 = .ok (.iaload, 1) := by decide +kernel
theorem dL_law_724 : decode cL_law 724 = .ok (.invokevirtual 84, 3) := by decide +kernel
theorem dL_law_727 : decode cL_law 727 = .ok (.if_icmp .eq 163, 3) := by decide +kernel
theorem dL_law_732 : decode cL_law 732 = .ok (.aload_n 1, 1) := by decide +kernel
theorem dL_law_733 : decode cL_law 733 = .ok (.aload_n 0, 1) := by decide +kernel
theorem dL_law_734 : decode cL_law 734 = .ok (.iload_n 3, 1) := by decide +kernel
theorem dL_law_735 : decode cL_law 735 = .ok (.iconst 1, 1) := by decide +kernel
theorem dL_law_736 : decode cL_law 736 = .ok (.iadd, 1) := by decide +kernel
theorem dL_law_737 : decode cL_law 737 = .ok (.iaload, 1) := by decide +kernel
theorem dL_law_738 : decode cL_law 738 = .ok (.invokevirtual 85, 3) := by decide +kernel
theorem dL_law_741 : decode cL_law 741 = .ok (.aload_n 2, 1) := by decide +kernel
theorem dL_law_742 : decode cL_law 742 = .ok (.aload_n 0, 1) := by decide +kernel
theorem dL_law_743 : decode cL_law 743 = .ok (.iload_n 3, 1) := by decide +kernel
theorem dL_law_744 : decode cL_law 744 = .ok (.iconst 1, 1) := by decide +kernel
theorem dL_law_745 : decode cL_law 745 = .ok (.iadd, 1) := by decide +kernel
theorem dL_law_746 : decode cL_law 746 = .ok (.iaload, 1) := by decide +kernel
theorem dL_law_747 : decode cL_law 747 = .ok (.invokevirtual 88, 3) := by decide +kernel
theorem dL_law_750 : decode cL_law 750 = .ok (.if_icmp .eq 140, 3) := by decide +kernel
theorem dL_law_755 : decode cL_law 755 = .ok (.aload_n 1, 1) := by decide +kernel
theorem dL_law_756 : decode cL_law 756 = .ok (.aload_n 0, 1) := by decide +kernel
theorem dL_law_757 : decode cL_law 757 = .ok (.iload_n 3, 1) := by decide +kernel
theorem dL_law_758 : decode cL_law 758 = .ok (.iconst 1, 1) := by decide +kernel
theorem dL_law_759 : decode cL_law 759 = .ok (.iadd, 1) := by decide +kernel
theorem dL_law_760 : decode cL_law 760 = .ok (.iaload, 1) := by decide +kernel
theorem dL_law_761 : decode cL_law 761 = .ok (.aload_n 0, 1) := by decide +kernel
theorem dL_law_762 : decode cL_law 762 = .ok (.iload_n 3, 1) := by decide +kernel
theorem dL_law_763 : decode cL_law 763 = .ok (.iconst 2, 1) := by decide +kernel
theorem dL_law_764 : decode cL_law 764 = .ok (.iadd, 1) := by decide +kernel
theorem dL_law_765 : decode cL_law 765 = .ok (.iaload, 1) := by decide +kernel
theorem dL_law_766 : decode cL_law 766 = .ok (.invokevirtual 89, 3) := by decide +kernel
theorem dL_law_769 : decode cL_law 769 = .ok (.aload_n 2, 1) := by decide +kernel
theorem dL_law_770 : decode cL_law 770 = .ok (.aload_n 0, 1) := by decide +kernel
theorem dL_law_771 : decode cL_law 771 = .ok (.iload_n 3, 1) := by decide +kernel
theorem dL_law_772 : decode cL_law 772 = .ok (.iconst 1, 1) := by decide +kernel
theorem dL_law_773 : decode cL_law 773 = .ok (.iadd, 1) := by decide +kernel
theorem dL_law_774 : decode cL_law 774 = .ok (.iaload, 1) := by decide +kernel
theorem dL_law_775 : decode cL_law 775 = .ok (.aload_n 0, 1) := by decide +kernel
theorem dL_law_776 : decode cL_law 776 = .ok (.iload_n 3, 1) := by decide +kernel
theorem dL_law_777 : decode cL_law 777 = .ok (.iconst 2, 1) := by decide +kernel
theorem dL_law_778 : decode cL_law 778 = .ok (.iadd, 1) := by decide +kernel
theorem dL_law_779 : decode cL_law 779 = .ok (.iaload, 1) := by decide +kernel
theorem dL_law_780 : decode cL_law 780 = .ok (.invokevirtual 92, 3) := by decide +kernel
theorem dL_law_783 : decode cL_law 783 = .ok (.if_icmp .eq 107, 3) := by decide +kernel
theorem dL_law_788 : decode cL_law 788 = .ok (.aload_n 1, 1) := by decide +kernel
theorem dL_law_789 : decode cL_law 789 = .ok (.aload_n 0, 1) := by decide +kernel
theorem dL_law_790 : decode cL_law 790 = .ok (.iload_n 3, 1) := by decide +kernel
theorem dL_law_791 : decode cL_law 791 = .ok (.iconst 1, 1) := by decide +kernel
theorem dL_law_792 : decode cL_law 792 = .ok (.iadd, 1) := by decide +kernel
theorem dL_law_793 : decode cL_law 793 = .ok (.iaload, 1) := by decide +kernel
theorem dL_law_794 : decode cL_law 794 = .ok (.invokevirtual 93, 3) := by decide +kernel
theorem dL_law_797 : decode cL_law 797 = .ok (.aload_n 2, 1) := by decide +kernel
theorem dL_law_798 : decode cL_law 798 = .ok (.aload_n 0, 1) := by decide +kernel
theorem dL_law_799 : decode cL_law 799 = .ok (.iload_n 3, 1) := by decide +kernel
theorem dL_law_800 : decode cL_law 800 = .ok (.iconst 1, 1) := by decide +kernel
theorem dL_law_801 : decode cL_law 801 = .ok (.iadd, 1) := by decide +kernel
theorem dL_law_802 : decode cL_law 802 = .ok (.iaload, 1) := by decide +kernel
theorem dL_law_803 : decode cL_law 803 = .ok (.invokevirtual 96, 3) := by decide +kernel
theorem dL_law_806 : decode cL_law 806 = .ok (.if_icmp .eq 84, 3) := by decide +kernel
theorem dL_law_811 : decode cL_law 811 = .ok (.aload_n 1, 1) := by decide +kernel
theorem dL_law_812 : decode cL_law 812 = .ok (.aload_n 0, 1) := by decide +kernel
theorem dL_law_813 : decode cL_law 813 = .ok (.iload_n 3, 1) := by decide +kernel
theorem dL_law_814 : decode cL_law 814 = .ok (.iconst 1, 1) := by decide +kernel
theorem dL_law_815 : decode cL_law 815 = .ok (.iadd, 1) := by decide +kernel
theorem dL_law_816 : decode cL_law 816 = .ok (.iaload, 1) := by decide +kernel
theorem dL_law_817 : decode cL_law 817 = .ok (.aload_n 0, 1) := by decide +kernel
theorem dL_law_818 : decode cL_law 818 = .ok (.iload_n 3, 1) := by decide +kernel
theorem dL_law_819 : decode cL_law 819 = .ok (.iconst 2, 1) := by decide +kernel
theorem dL_law_820 : decode cL_law 820 = .ok (.iadd, 1) := by decide +kernel
theorem dL_law_821 : decode cL_law 821 = .ok (.iaload, 1) := by decide +kernel
theorem dL_law_822 : decode cL_law 822 = .ok (.invokevirtual 97, 3) := by decide +kernel
theorem dL_law_825 : decode cL_law 825 = .ok (.aload_n 2, 1) := by decide +kernel
theorem dL_law_826 : decode cL_law 826 = .ok (.aload_n 0, 1) := by decide +kernel
theorem dL_law_827 : decode cL_law 827 = .ok (.iload_n 3, 1) := by decide +kernel
theorem dL_law_828 : decode cL_law 828 = .ok (.iconst 1, 1) := by decide +kernel
theorem dL_law_829 : decode cL_law 829 = .ok (.iadd, 1) := by decide +kernel
theorem dL_law_830 : decode cL_law 830 = .ok (.iaload, 1) := by decide +kernel
theorem dL_law_831 : decode cL_law 831 = .ok (.aload_n 0, 1) := by decide +kernel
theorem dL_law_832 : decode cL_law 832 = .ok (.iload_n 3, 1) := by decide +kernel
theorem dL_law_833 : decode cL_law 833 = .ok (.iconst 2, 1) := by decide +kernel
theorem dL_law_834 : decode cL_law 834 = .ok (.iadd, 1) := by decide +kernel
theorem dL_law_835 : decode cL_law 835 = .ok (.iaload, 1) := by decide +kernel
theorem dL_law_836 : decode cL_law 836 = .ok (.invokevirtual 100, 3) := by decide +kernel
theorem dL_law_839 : decode cL_law 839 = .ok (.if_icmp .eq 51, 3) := by decide +kernel
theorem dL_law_844 : decode cL_law 844 = .ok (.aload_n 1, 1) := by decide +kernel
theorem dL_law_845 : decode cL_law 845 = .ok (.aload_n 0, 1) := by decide +kernel
theorem dL_law_846 : decode cL_law 846 = .ok (.iload_n 3, 1) := by decide +kernel
theorem dL_law_847 : decode cL_law 847 = .ok (.iconst 1, 1) := by decide +kernel
theorem dL_law_848 : decode cL_law 848 = .ok (.iadd, 1) := by decide +kernel
theorem dL_law_849 : decode cL_law 849 = .ok (.iaload, 1) := by decide +kernel
theorem dL_law_850 : decode cL_law 850 = .ok (.invokevirtual 101, 3) := by decide +kernel
theorem dL_law_853 : decode cL_law 853 = .ok (.aload_n 2, 1) := by decide +kernel
theorem dL_law_854 : decode cL_law 854 = .ok (.aload_n 0, 1) := by decide +kernel
theorem dL_law_855 : decode cL_law 855 = .ok (.iload_n 3, 1) := by decide +kernel
theorem dL_law_856 : decode cL_law 856 = .ok (.iconst 1, 1) := by decide +kernel
theorem dL_law_857 : decode cL_law 857 = .ok (.iadd, 1) := by decide +kernel
theorem dL_law_858 : decode cL_law 858 = .ok (.iaload, 1) := by decide +kernel
theorem dL_law_859 : decode cL_law 859 = .ok (.invokevirtual 104, 3) := by decide +kernel
theorem dL_law_862 : decode cL_law 862 = .ok (.if_icmp .eq 28, 3) := by decide +kernel
theorem dL_law_867 : decode cL_law 867 = .ok (.aload_n 1, 1) := by decide +kernel
theorem dL_law_868 : decode cL_law 868 = .ok (.aload_n 0, 1) := by decide +kernel
theorem dL_law_869 : decode cL_law 869 = .ok (.iload_n 3, 1) := by decide +kernel
theorem dL_law_870 : decode cL_law 870 = .ok (.iconst 1, 1) := by decide +kernel
theorem dL_law_871 : decode cL_law 871 = .ok (.iadd, 1) := by decide +kernel
theorem dL_law_872 : decode cL_law 872 = .ok (.iaload, 1) := by decide +kernel
theorem dL_law_873 : decode cL_law 873 = .ok (.invokevirtual 105, 3) := by decide +kernel
theorem dL_law_876 : decode cL_law 876 = .ok (.aload_n 2, 1) := by decide +kernel
theorem dL_law_877 : decode cL_law 877 = .ok (.aload_n 0, 1) := by decide +kernel
theorem dL_law_878 : decode cL_law 878 = .ok (.iload_n 3, 1) := by decide +kernel
theorem dL_law_879 : decode cL_law 879 = .ok (.iconst 1, 1) := by decide +kernel
theorem dL_law_880 : decode cL_law 880 = .ok (.iadd, 1) := by decide +kernel
theorem dL_law_881 : decode cL_law 881 = .ok (.iaload, 1) := by decide +kernel
theorem dL_law_882 : decode cL_law 882 = .ok (.invokevirtual 108, 3) := by decide +kernel
theorem dL_law_885 : decode cL_law 885 = .ok (.if_icmp .eq 5, 3) := by decide +kernel
theorem dL_law_890 : decode cL_law 890 = .ok (.iinc 3 4, 3) := by decide +kernel
theorem dL_law_893 : decode cL_law 893 = .ok (.goto (-875), 3) := by decide +kernel
theorem dL_law_896 : decode cL_law 896 = .ok (.iconst 1, 1) := by decide +kernel
theorem dL_law_897 : decode cL_law 897 = .ok (.ireturn, 1) := by decide +kernel
