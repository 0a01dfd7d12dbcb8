theorem wm_481 : Cond.methodLink RX5 51 yX5_placesIn ∈ lw_B := lb_1 120 (by decide +kernel) rfl
theorem wm_482 : Cond.static yX5_placesIn ∈ lw_B := lb_1 121 (by decide +kernel) rfl
theorem wm_483 : Cond.code yX5_placesIn cX5_placesIn 3 (some .int) ∈ lw_B := lb_1 122 (by decide +kernel) rfl
theorem wm_484 : Cond.classLink RX5 9 RX2 ∈ lw_B := lb_1 17 (by decide +kernel) rfl
theorem wm_485 : Cond.instantiable RX2 4 ∈ lw_B := lb_1 126 (by decide +kernel) rfl
theorem wm_486 : Cond.initialized RX2 ∈ lw_B := lb_1 4 (by decide +kernel) rfl
theorem wm_487 : Cond.methodLink RX5 58 yX2_init ∈ lw_B := lb_1 127 (by decide +kernel) rfl
theorem wm_488 : Cond.instanceMethod yX2_init ∈ lw_B := lb_1 128 (by decide +kernel) rfl
theorem wm_489 : Cond.code yX2_init cX2_init 5 none ∈ lw_B := lb_1 129 (by decide +kernel) rfl
theorem wm_490 : Cond.methodLink RX5 69 yX5_isSort ∈ lw_B := lb_1 160 (by decide +kernel) rfl
theorem wm_491 : Cond.static yX5_isSort ∈ lw_B := lb_1 161 (by decide +kernel) rfl
theorem wm_492 : Cond.code yX5_isSort cX5_isSort 1 (some .boolean) ∈ lw_B := lb_1 162 (by decide +kernel) rfl
theorem wm_493 : Cond.methodLink RX5 72 yX5_isWish ∈ lw_B := lb_1 163 (by decide +kernel) rfl
theorem wm_494 : Cond.static yX5_isWish ∈ lw_B := lb_1 164 (by decide +kernel) rfl
theorem wm_495 : Cond.code yX5_isWish cX5_isWish 1 (some .boolean) ∈ lw_B := lb_1 165 (by decide +kernel) rfl
theorem wm_496 : Cond.methodLink RX5 75 yX5_isBid ∈ lw_B := lb_1 166 (by decide +kernel) rfl
theorem wm_497 : Cond.static yX5_isBid ∈ lw_B := lb_1 167 (by decide +kernel) rfl
theorem wm_498 : Cond.code yX5_isBid cX5_isBid 2 (some .boolean) ∈ lw_B := lb_1 168 (by decide +kernel) rfl
theorem wm_499 : Cond.classLink RX5 15 RX0 ∈ lw_B := lb_1 19 (by decide +kernel) rfl
theorem wm_500 : Cond.instantiable RX0 16 ∈ lw_B := lb_1 169 (by decide +kernel) rfl
theorem wm_501 : Cond.methodLink RX5 82 yX0_init ∈ lw_B := lb_1 170 (by decide +kernel) rfl
theorem wm_502 : Cond.instanceMethod yX0_init ∈ lw_B := lb_1 171 (by decide +kernel) rfl
theorem wm_503 : Cond.code yX0_init cX0_init 4 none ∈ lw_B := lb_1 172 (by decide +kernel) rfl
theorem wm_504 : Cond.classLink RX5 21 RX3 ∈ lw_B := lb_1 21 (by decide +kernel) rfl
theorem wm_505 : Cond.instantiable RX3 12 ∈ lw_B := lb_3 15 (by decide +kernel) rfl
theorem wm_506 : Cond.initialized RX3 ∈ lw_B := lb_1 8 (by decide +kernel) rfl
theorem wm_507 : Cond.methodLink RX5 355 yX3_init ∈ lw_B := lb_3 16 (by decide +kernel) rfl
theorem wm_508 : Cond.instanceMethod yX3_init ∈ lw_B := lb_3 17 (by decide +kernel) rfl
theorem wm_509 : Cond.code yX3_init cX3_init 6 none ∈ lw_B := lb_3 18 (by decide +kernel) rfl
theorem wm_510 : Cond.methodLink RX5 358 yX4_addShowing ∈ lw_B := lb_3 65 (by decide +kernel) rfl
theorem wm_511 : Cond.instanceMethod yX4_addShowing ∈ lw_B := lb_3 66 (by decide +kernel) rfl
theorem wm_512 : Cond.selects RX4 yX4_addShowing yX4_addShowing ∈ lw_B := lb_3 67 (by decide +kernel) rfl
theorem wm_513 : Cond.code yX4_addShowing cX4_addShowing 2 none ∈ lw_B := lb_3 68 (by decide +kernel) rfl
theorem wm_514 : Cond.methodLink RX5 361 yX5_hold ∈ lw_B := lb_3 69 (by decide +kernel) rfl
theorem wm_515 : Cond.instanceMethod yX5_hold ∈ lw_B := lb_3 71 (by decide +kernel) rfl
theorem wm_516 : Cond.selects RX5 yX5_hold yX5_hold ∈ lw_B := lb_0 22 (by decide +kernel) rfl
theorem wm_517 : Cond.code yX5_hold cX5_hold 2 none ∈ lw_B := lb_3 72 (by decide +kernel) rfl
theorem dX5_page_0 : decode cX5_page 0 = .ok (.iload_n 1, 1) := by decide +kernel
theorem dX5_page_1 : decode cX5_page 1 = .ok (.invokestatic 51, 3) := by decide +kernel
theorem dX5_page_4 : decode cX5_page 4 = .ok (.istore_n 2, 1) := by decide +kernel
theorem dX5_page_5 : decode cX5_page 5 = .ok (.iload_n 2, 1) := by decide +kernel
theorem dX5_page_6 : decode cX5_page 6 = .ok (.ifCond .ne 5, 3) := by decide +kernel
theorem dX5_page_9 : decode cX5_page 9 = .ok (.iconst (-1), 1) := by decide +kernel
theorem dX5_page_10 : decode cX5_page 10 = .ok (.ireturn, 1) := by decide +kernel
theorem dX5_page_11 : decode cX5_page 11 = .ok (.aload_n 0, 1) := by decide +kernel
theorem dX5_page_12 : decode cX5_page 12 = .ok (.getfield 55, 3) := by decide +kernel
theorem dX5_page_15 : decode cX5_page 15 = .ok (.bipush 8, 2) := by decide +kernel
theorem dX5_page_17 : decode cX5_page 17 = .ok (.if_icmp .lt 6, 3) := by decide +kernel
theorem dX5_page_20 : decode cX5_page 20 = .ok (.bipush (-3), 2) := by decide +kernel
theorem dX5_page_22 : decode cX5_page 22 = .ok (.ireturn, 1) := by decide +kernel
theorem dX5_page_23 : decode cX5_page 23 = .ok (.aload_n 0, 1) := by decide +kernel
theorem dX5_page_24 : decode cX5_page 24 = .ok (.getfield 11, 3) := by decide +kernel
theorem dX5_page_27 : decode cX5_page 27 = .ok (.aload_n 0, 1) := by decide +kernel
theorem dX5_page_28 : decode cX5_page 28 = .ok (.getfield 55, 3) := by decide +kernel
theorem dX5_page_31 : decode cX5_page 31 = .ok (.new 9, 3) := by decide +kernel
theorem dX5_page_34 : decode cX5_page 34 = .ok (.dup, 1) := by decide +kernel
theorem dX5_page_35 : decode cX5_page 35 = .ok (.iload_n 1, 1) := by decide +kernel
theorem dX5_page_36 : decode cX5_page 36 = .ok (.iload_n 2, 1) := by decide +kernel
theorem dX5_page_37 : decode cX5_page 37 = .ok (.invokespecial 58, 3) := by decide +kernel
theorem dX5_page_40 : decode cX5_page 40 = .ok (.aastore, 1) := by decide +kernel
theorem dX5_page_41 : decode cX5_page 41 = .ok (.aload_n 0, 1) := by decide +kernel
theorem dX5_page_42 : decode cX5_page 42 = .ok (.dup, 1) := by decide +kernel
theorem dX5_page_43 : decode cX5_page 43 = .ok (.getfield 55, 3) := by decide +kernel
theorem dX5_page_46 : decode cX5_page 46 = .ok (.iconst 1, 1) := by decide +kernel
theorem dX5_page_47 : decode cX5_page 47 = .ok (.iadd, 1) := by decide +kernel
theorem dX5_page_48 : decode cX5_page 48 = .ok (.putfield 55, 3) := by decide +kernel
theorem dX5_page_51 : decode cX5_page 51 = .ok (.aload_n 0, 1) := by decide +kernel
theorem dX5_page_52 : decode cX5_page 52 = .ok (.getfield 55, 3) := by decide +kernel
theorem dX5_page_55 : decode cX5_page 55 = .ok (.iconst 1, 1) := by decide +kernel
theorem dX5_page_56 : decode cX5_page 56 = .ok (.isub, 1) := by decide +kernel
theorem dX5_page_57 : decode cX5_page 57 = .ok (.ireturn, 1) := by decide +kernel
theorem dX5_campaign_0 : decode cX5_campaign 0 = .ok (.iload_n 1, 1) := by decide +kernel
theorem dX5_campaign_1 : decode cX5_campaign 1 = .ok (.invokestatic 69, 3) := by decide +kernel
theorem dX5_campaign_4 : decode cX5_campaign 4 = .ok (.ifCond .eq 21, 3) := by decide +kernel
theorem dX5_campaign_7 : decode cX5_campaign 7 = .ok (.iload_n 2, 1) := by decide +kernel
theorem dX5_campaign_8 : decode cX5_campaign 8 = .ok (.invokestatic 72, 3) := by decide +kernel
theorem dX5_campaign_11 : decode cX5_campaign 11 = .ok (.ifCond .eq 14, 3) := by decide +kernel
theorem dX5_campaign_14 : decode cX5_campaign 14 = .ok (.iload_n 1, 1) := by decide +kernel
theorem dX5_campaign_15 : decode cX5_campaign 15 = .ok (.bipush 10, 2) := by decide +kernel
theorem dX5_campaign_17 : decode cX5_campaign 17 = .ok (.idiv, 1) := by decide +kernel
theorem dX5_campaign_18 : decode cX5_campaign 18 = .ok (.iload_n 3, 1) := by decide +kernel
theorem dX5_campaign_19 : decode cX5_campaign 19 = .ok (.invokestatic 75, 3) := by decide +kernel
theorem dX5_campaign_22 : decode cX5_campaign 22 = .ok (.ifCond .ne 5, 3) := by decide +kernel
theorem dX5_campaign_25 : decode cX5_campaign 25 = .ok (.iconst (-1), 1) := by decide +kernel
theorem dX5_campaign_26 : decode cX5_campaign 26 = .ok (.ireturn, 1) := by decide +kernel
theorem dX5_campaign_27 : decode cX5_campaign 27 = .ok (.aload_n 0, 1) := by decide +kernel
theorem dX5_campaign_28 : decode cX5_campaign 28 = .ok (.getfield 79, 3) := by decide +kernel
theorem dX5_campaign_31 : decode cX5_campaign 31 = .ok (.bipush 40, 2) := by decide +kernel
theorem dX5_campaign_33 : decode cX5_campaign 33 = .ok (.if_icmp .lt 6, 3) := by decide +kernel
theorem dX5_campaign_36 : decode cX5_campaign 36 = .ok (.bipush (-3), 2) := by decide +kernel
theorem dX5_campaign_38 : decode cX5_campaign 38 = .ok (.ireturn, 1) := by decide +kernel
theorem dX5_campaign_39 : decode cX5_campaign 39 = .ok (.aload_n 0, 1) := by decide +kernel
theorem dX5_campaign_40 : decode cX5_campaign 40 = .ok (.getfield 17, 3) := by decide +kernel
theorem dX5_campaign_43 : decode cX5_campaign 43 = .ok (.aload_n 0, 1) := by decide +kernel
theorem dX5_campaign_44 : decode cX5_campaign 44 = .ok (.getfield 79, 3) := by decide +kernel
theorem dX5_campaign_47 : decode cX5_campaign 47 = .ok (.new 15, 3) := by decide +kernel
theorem dX5_campaign_50 : decode cX5_campaign 50 = .ok (.dup, 1) := by decide +kernel
theorem dX5_campaign_51 : decode cX5_campaign 51 = .ok (.iload_n 1, 1) := by decide +kernel
theorem dX5_campaign_52 : decode cX5_campaign 52 = .ok (.iload_n 2, 1) := by decide +kernel
theorem dX5_campaign_53 : decode cX5_campaign 53 = .ok (.iload_n 3, 1) := by decide +kernel
theorem dX5_campaign_54 : decode cX5_campaign 54 = .ok (.invokespecial 82, 3) := by decide +kernel
theorem dX5_campaign_57 : decode cX5_campaign 57 = .ok (.aastore, 1) := by decide +kernel
theorem dX5_campaign_58 : decode cX5_campaign 58 = .ok (.aload_n 0, 1) := by decide +kernel
theorem dX5_campaign_59 : decode cX5_campaign 59 = .ok (.dup, 1) := by decide +kernel
theorem dX5_campaign_60 : decode cX5_campaign 60 = .ok (.getfield 79, 3) := by decide +kernel
theorem dX5_campaign_63 : decode cX5_campaign 63 = .ok (.iconst 1, 1) := by decide +kernel
theorem dX5_campaign_64 : decode cX5_campaign 64 = .ok (.iadd, 1) := by decide +kernel
theorem dX5_campaign_65 : decode cX5_campaign 65 = .ok (.putfield 79, 3) := by decide +kernel
theorem dX5_campaign_68 : decode cX5_campaign 68 = .ok (.aload_n 0, 1) := by decide +kernel
theorem dX5_campaign_69 : decode cX5_campaign 69 = .ok (.getfield 79, 3) := by decide +kernel
theorem dX5_campaign_72 : decode cX5_campaign 72 = .ok (.iconst 1, 1) := by decide +kernel
theorem dX5_campaign_73 : decode cX5_campaign 73 = .ok (.isub, 1) := by decide +kernel
theorem dX5_campaign_74 : decode cX5_campaign 74 = .ok (.ireturn, 1) := by decide +kernel
theorem dX5_sell_0 : decode cX5_sell 0 = .ok (.aload_n 0, 1) := by decide +kernel
theorem dX5_sell_1 : decode cX5_sell 1 = .ok (.getfield 38, 3) := by decide +kernel
theorem dX5_sell_4 : decode cX5_sell 4 = .ok (.iload_n 3, 1) := by decide +kernel
theorem dX5_sell_5 : decode cX5_sell 5 = .ok (.iaload, 1) := by decide +kernel
theorem dX5_sell_6 : decode cX5_sell 6 = .ok (.istore 4, 2) := by decide +kernel
theorem dX5_sell_8 : decode cX5_sell 8 = .ok (.aload_n 0, 1) := by decide +kernel
theorem dX5_sell_9 : decode cX5_sell 9 = .ok (.getfield 17, 3) := by decide +kernel
theorem dX5_sell_12 : decode cX5_sell 12 = .ok (.iload 4, 2) := by decide +kernel
theorem dX5_sell_14 : decode cX5_sell 14 = .ok (.aaload, 1) := by decide +kernel
theorem dX5_sell_15 : decode cX5_sell 15 = .ok (.astore 5, 2) := by decide +kernel
theorem dX5_sell_17 : decode cX5_sell 17 = .ok (.new 21, 3) := by decide +kernel
theorem dX5_sell_20 : decode cX5_sell 20 = .ok (.dup, 1) := by decide +kernel
theorem dX5_sell_21 : decode cX5_sell 21 = .ok (.aload_n 0, 1) := by decide +kernel
theorem dX5_sell_22 : decode cX5_sell 22 = .ok (.getfield 108, 3) := by decide +kernel
theorem dX5_sell_25 : decode cX5_sell 25 = .ok (.iload_n 1, 1) := by decide +kernel
theorem dX5_sell_26 : decode cX5_sell 26 = .ok (.iload_n 2, 1) := by decide +kernel
theorem dX5_sell_27 : decode cX5_sell 27 = .ok (.iload_n 3, 1) := by decide +kernel
theorem dX5_sell_28 : decode cX5_sell 28 = .ok (.iload 4, 2) := by decide +kernel
theorem dX5_sell_30 : decode cX5_sell 30 = .ok (.invokespecial 355, 3) := by decide +kernel
theorem dX5_sell_33 : decode cX5_sell 33 = .ok (.astore 6, 2) := by decide +kernel
theorem dX5_sell_35 : decode cX5_sell 35 = .ok (.aload 6, 2) := by decide +kernel
theorem dX5_sell_37 : decode cX5_sell 37 = .ok (.aload_n 0, 1) := by decide +kernel
theorem dX5_sell_38 : decode cX5_sell 38 = .ok (.getfield 41, 3) := by decide +kernel
theorem dX5_sell_41 : decode cX5_sell 41 = .ok (.iload_n 3, 1) := by decide +kernel
theorem dX5_sell_42 : decode cX5_sell 42 = .ok (.iaload, 1) := by decide +kernel
theorem dX5_sell_43 : decode cX5_sell 43 = .ok (.putfield 182, 3) := by decide +kernel
theorem dX5_sell_46 : decode cX5_sell 46 = .ok (.aload 6, 2) := by decide +kernel
theorem dX5_sell_48 : decode cX5_sell 48 = .ok (.aload_n 0, 1) := by decide +kernel
theorem dX5_sell_49 : decode cX5_sell 49 = .ok (.getfield 108, 3) := by decide +kernel
theorem dX5_sell_52 : decode cX5_sell 52 = .ok (.aload_n 0, 1) := by decide +kernel
theorem dX5_sell_53 : decode cX5_sell 53 = .ok (.getfield 44, 3) := by decide +kernel
theorem dX5_sell_56 : decode cX5_sell 56 = .ok (.iadd, 1) := by decide +kernel
theorem dX5_sell_57 : decode cX5_sell 57 = .ok (.putfield 192, 3) := by decide +kernel
theorem dX5_sell_60 : decode cX5_sell 60 = .ok (.aload_n 0, 1) := by decide +kernel
theorem dX5_sell_61 : decode cX5_sell 61 = .ok (.getfield 23, 3) := by decide +kernel
theorem dX5_sell_64 : decode cX5_sell 64 = .ok (.aload_n 0, 1) := by decide +kernel
theorem dX5_sell_65 : decode cX5_sell 65 = .ok (.getfield 138, 3) := by decide +kernel
theorem dX5_sell_68 : decode cX5_sell 68 = .ok (.aload 6, 2) := by decide +kernel
theorem dX5_sell_70 : decode cX5_sell 70 = .ok (.aastore, 1) := by decide +kernel
theorem dX5_sell_71 : decode cX5_sell 71 = .ok (.aload_n 0, 1) := by decide +kernel
theorem dX5_sell_72 : decode cX5_sell 72 = .ok (.dup, 1) := by decide +kernel
theorem dX5_sell_73 : decode cX5_sell 73 = .ok (.getfield 138, 3) := by decide +kernel
theorem dX5_sell_76 : decode cX5_sell 76 = .ok (.iconst 1, 1) := by decide +kernel
theorem dX5_sell_77 : decode cX5_sell 77 = .ok (.iadd, 1) := by decide +kernel
theorem dX5_sell_78 : decode cX5_sell 78 = .ok (.putfield 138, 3) := by decide +kernel
theorem dX5_sell_81 : decode cX5_sell 81 = .ok (.aload_n 0, 1) := by decide +kernel
theorem dX5_sell_82 : decode cX5_sell 82 = .ok (.getfield 11, 3) := by decide +kernel
theorem dX5_sell_85 : decode cX5_sell 85 = .ok (.iload_n 2, 1) := by decide +kernel
theorem dX5_sell_86 : decode cX5_sell 86 = .ok (.aaload, 1) := by decide +kernel
theorem dX5_sell_87 : decode cX5_sell 87 = .ok (.dup, 1) := by decide +kernel
theorem dX5_sell_88 : decode cX5_sell 88 = .ok (.getfield 279, 3) := by decide +kernel
theorem dX5_sell_91 : decode cX5_sell 91 = .ok (.lconst 1, 1) := by decide +kernel
theorem dX5_sell_92 : decode cX5_sell 92 = .ok (.iload 4, 2) := by decide +kernel
theorem dX5_sell_94 : decode cX5_sell 94 = .ok (.lshl, 1) := by decide +kernel
theorem dX5_sell_95 : decode cX5_sell 95 = .ok (.lor, 1) := by decide +kernel
theorem dX5_sell_96 : decode cX5_sell 96 = .ok (.putfield 279, 3) := by decide +kernel
theorem dX5_sell_99 : decode cX5_sell 99 = .ok (.aload 5, 2) := by decide +kernel
theorem dX5_sell_101 : decode cX5_sell 101 = .ok (.getfield 202, 3) := by decide +kernel
theorem dX5_sell_104 : decode cX5_sell 104 = .ok (.aload 6, 2) := by decide +kernel
theorem dX5_sell_106 : decode cX5_sell 106 = .ok (.invokevirtual 358, 3) := by decide +kernel
theorem dX5_sell_109 : decode cX5_sell 109 = .ok (.aload 5, 2) := by decide +kernel
theorem dX5_sell_111 : decode cX5_sell 111 = .ok (.getfield 202, 3) := by decide +kernel
theorem dX5_sell_114 : decode cX5_sell 114 = .ok (.dup, 1) := by decide +kernel
theorem dX5_sell_115 : decode cX5_sell 115 = .ok (.getfield 233, 3) := by decide +kernel
theorem dX5_sell_118 : decode cX5_sell 118 = .ok (.aload 6, 2) := by decide +kernel
theorem dX5_sell_120 : decode cX5_sell 120 = .ok (.getfield 182, 3) := by decide +kernel
theorem dX5_sell_123 : decode cX5_sell 123 = .ok (.iadd, 1) := by decide +kernel
theorem dX5_sell_124 : decode cX5_sell 124 = .ok (.putfield 233, 3) := by decide +kernel
theorem dX5_sell_127 : decode cX5_sell 127 = .ok (.aload 5, 2) := by decide +kernel
theorem dX5_sell_129 : decode cX5_sell 129 = .ok (.getfield 188, 3) := by decide +kernel
theorem dX5_sell_132 : decode cX5_sell 132 = .ok (.ifCond .eq 12, 3) := by decide +kernel
theorem dX5_sell_135 : decode cX5_sell 135 = .ok (.aload_n 0, 1) := by decide +kernel
theorem dX5_sell_136 : decode cX5_sell 136 = .ok (.aload 6, 2) := by decide +kernel
theorem dX5_sell_138 : decode cX5_sell 138 = .ok (.invokevirtual 361, 3) := by decide +kernel
theorem dX5_sell_141 : decode cX5_sell 141 = .ok (.goto 9, 3) := by decide +kernel
theorem dX5_sell_144 : decode cX5_sell 144 = .ok (.aload_n 0, 1) := by decide +kernel
theorem dX5_sell_145 : decode cX5_sell 145 = .ok (.aload 6, 2) := by decide +kernel
theorem dX5_sell_147 : decode cX5_sell 147 = .ok (.invokevirtual 364, 3) := by decide +kernel
theorem dX5_sell_150 : decode cX5_sell 150 = .ok (.return_, 1) := by decide +kernel
