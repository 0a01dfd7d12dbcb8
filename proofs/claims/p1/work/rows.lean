section
-- ===== PART A: goes FIRST, ahead of the names: the tables' words, and 'selects' of the private methods out of them =====
/-- a private method of a class that the tables say can be made, by its rows of tables_1 -/
def lw_okq (q : MethodName × Nat) : Prop := (q.1.cls ≠ "java/lang/invoke/MethodHandle" ∧ q.1.cls ≠ "java/lang/invoke/VarHandle") ∧ Cond.instantiable q.1.cls q.2 ∈ tables_1 ∧ Cond.privateMethod q.1 ∈ tables_1 ∧ Cond.instanceMethod q.1 ∈ tables_1
theorem lw_p0 : lw_okq (⟨"NoticeMarket", "isCampaign", "(I)Z"⟩, 17) := ⟨⟨by decide +kernel, by decide +kernel⟩, List.mem_of_getElem? (i := 10) (by decide +kernel), List.mem_of_getElem? (i := 277) (by decide +kernel), List.mem_of_getElem? (i := 278) (by decide +kernel)⟩
theorem lw_p1 : lw_okq (⟨"NoticeMarket", "closeTick", "()V"⟩, 17) := ⟨⟨by decide +kernel, by decide +kernel⟩, List.mem_of_getElem? (i := 10) (by decide +kernel), List.mem_of_getElem? (i := 324) (by decide +kernel), List.mem_of_getElem? (i := 325) (by decide +kernel)⟩
theorem lw_p2 : lw_okq (⟨"NoticeMarket", "goOneTick", "()V"⟩, 17) := ⟨⟨by decide +kernel, by decide +kernel⟩, List.mem_of_getElem? (i := 10) (by decide +kernel), List.mem_of_getElem? (i := 332) (by decide +kernel), List.mem_of_getElem? (i := 333) (by decide +kernel)⟩
theorem lw_p3 : lw_okq (⟨"NoticeMarket", "closeDay", "()V"⟩, 17) := ⟨⟨by decide +kernel, by decide +kernel⟩, List.mem_of_getElem? (i := 10) (by decide +kernel), List.mem_of_getElem? (i := 336) (by decide +kernel), List.mem_of_getElem? (i := 337) (by decide +kernel)⟩
theorem lw_p4 : lw_okq (⟨"NoticeMarket", "freeLateSales", "()V"⟩, 17) := ⟨⟨by decide +kernel, by decide +kernel⟩, List.mem_of_getElem? (i := 10) (by decide +kernel), List.mem_of_getElem? (i := 340) (by decide +kernel), List.mem_of_getElem? (i := 341) (by decide +kernel)⟩
theorem lw_p5 : lw_okq (⟨"NoticeMarket", "freeHeld", "(LNoticeMarket$Sale;)V"⟩, 17) := ⟨⟨by decide +kernel, by decide +kernel⟩, List.mem_of_getElem? (i := 10) (by decide +kernel), List.mem_of_getElem? (i := 344) (by decide +kernel), List.mem_of_getElem? (i := 345) (by decide +kernel)⟩
theorem lw_p6 : lw_okq (⟨"NoticeMarket", "lessenDay", "(LNoticeMarket$Sale;I)V"⟩, 17) := ⟨⟨by decide +kernel, by decide +kernel⟩, List.mem_of_getElem? (i := 10) (by decide +kernel), List.mem_of_getElem? (i := 348) (by decide +kernel), List.mem_of_getElem? (i := 349) (by decide +kernel)⟩
theorem lw_p7 : lw_okq (⟨"NoticeMarket", "setThrottles", "()V"⟩, 17) := ⟨⟨by decide +kernel, by decide +kernel⟩, List.mem_of_getElem? (i := 10) (by decide +kernel), List.mem_of_getElem? (i := 353) (by decide +kernel), List.mem_of_getElem? (i := 354) (by decide +kernel)⟩
theorem lw_p8 : lw_okq (⟨"NoticeMarket", "isPage", "(I)Z"⟩, 17) := ⟨⟨by decide +kernel, by decide +kernel⟩, List.mem_of_getElem? (i := 10) (by decide +kernel), List.mem_of_getElem? (i := 370) (by decide +kernel), List.mem_of_getElem? (i := 371) (by decide +kernel)⟩
theorem lw_p9 : lw_okq (⟨"NoticeMarket", "seekBest", "(ILNoticeMarket$Page;)J"⟩, 17) := ⟨⟨by decide +kernel, by decide +kernel⟩, List.mem_of_getElem? (i := 10) (by decide +kernel), List.mem_of_getElem? (i := 374) (by decide +kernel), List.mem_of_getElem? (i := 375) (by decide +kernel)⟩
theorem lw_p10 : lw_okq (⟨"NoticeMarket", "hindrance", "(IILNoticeMarket$Page;)I"⟩, 17) := ⟨⟨by decide +kernel, by decide +kernel⟩, List.mem_of_getElem? (i := 10) (by decide +kernel), List.mem_of_getElem? (i := 383) (by decide +kernel), List.mem_of_getElem? (i := 384) (by decide +kernel)⟩
theorem lw_p11 : lw_okq (⟨"NoticeMarket", "drawn", "(II)I"⟩, 17) := ⟨⟨by decide +kernel, by decide +kernel⟩, List.mem_of_getElem? (i := 10) (by decide +kernel), List.mem_of_getElem? (i := 403) (by decide +kernel), List.mem_of_getElem? (i := 404) (by decide +kernel)⟩
theorem lw_p12 : lw_okq (⟨"NoticeMarket", "offer", "(ILNoticeMarket$Page;)V"⟩, 17) := ⟨⟨by decide +kernel, by decide +kernel⟩, List.mem_of_getElem? (i := 10) (by decide +kernel), List.mem_of_getElem? (i := 409) (by decide +kernel), List.mem_of_getElem? (i := 410) (by decide +kernel)⟩
theorem lw_p13 : lw_okq (⟨"NoticeMarket$Campaign", "dueBy", "(I)J"⟩, 16) := ⟨⟨by decide +kernel, by decide +kernel⟩, List.mem_of_getElem? (i := 169) (by decide +kernel), List.mem_of_getElem? (i := 417) (by decide +kernel), List.mem_of_getElem? (i := 418) (by decide +kernel)⟩
theorem lw_p14 : lw_okq (⟨"NoticeMarket$Giver", "fillFrom", "(IJJ)V"⟩, 9) := ⟨⟨by decide +kernel, by decide +kernel⟩, List.mem_of_getElem? (i := 24) (by decide +kernel), List.mem_of_getElem? (i := 447) (by decide +kernel), List.mem_of_getElem? (i := 448) (by decide +kernel)⟩
theorem lw_p15 : lw_okq (⟨"NoticeMarket$Giver", "keepIfBetter", "(J)V"⟩, 9) := ⟨⟨by decide +kernel, by decide +kernel⟩, List.mem_of_getElem? (i := 24) (by decide +kernel), List.mem_of_getElem? (i := 451) (by decide +kernel), List.mem_of_getElem? (i := 452) (by decide +kernel)⟩
def lw_privs_1 : List (MethodName × Nat) := [(⟨"NoticeMarket", "isCampaign", "(I)Z"⟩, 17), (⟨"NoticeMarket", "closeTick", "()V"⟩, 17), (⟨"NoticeMarket", "goOneTick", "()V"⟩, 17), (⟨"NoticeMarket", "closeDay", "()V"⟩, 17), (⟨"NoticeMarket", "freeLateSales", "()V"⟩, 17), (⟨"NoticeMarket", "freeHeld", "(LNoticeMarket$Sale;)V"⟩, 17), (⟨"NoticeMarket", "lessenDay", "(LNoticeMarket$Sale;I)V"⟩, 17), (⟨"NoticeMarket", "setThrottles", "()V"⟩, 17), (⟨"NoticeMarket", "isPage", "(I)Z"⟩, 17), (⟨"NoticeMarket", "seekBest", "(ILNoticeMarket$Page;)J"⟩, 17), (⟨"NoticeMarket", "hindrance", "(IILNoticeMarket$Page;)I"⟩, 17), (⟨"NoticeMarket", "drawn", "(II)I"⟩, 17), (⟨"NoticeMarket", "offer", "(ILNoticeMarket$Page;)V"⟩, 17), (⟨"NoticeMarket$Campaign", "dueBy", "(I)J"⟩, 16), (⟨"NoticeMarket$Giver", "fillFrom", "(IJJ)V"⟩, 9), (⟨"NoticeMarket$Giver", "keepIfBetter", "(J)V"⟩, 9)]
theorem lw_r1 : ∀ q ∈ lw_privs_1, lw_okq q := List.forall_mem_cons.mpr ⟨lw_p0, List.forall_mem_cons.mpr ⟨lw_p1, List.forall_mem_cons.mpr ⟨lw_p2, List.forall_mem_cons.mpr ⟨lw_p3, List.forall_mem_cons.mpr ⟨lw_p4, List.forall_mem_cons.mpr ⟨lw_p5, List.forall_mem_cons.mpr ⟨lw_p6, List.forall_mem_cons.mpr ⟨lw_p7, List.forall_mem_cons.mpr ⟨lw_p8, List.forall_mem_cons.mpr ⟨lw_p9, List.forall_mem_cons.mpr ⟨lw_p10, List.forall_mem_cons.mpr ⟨lw_p11, List.forall_mem_cons.mpr ⟨lw_p12, List.forall_mem_cons.mpr ⟨lw_p13, List.forall_mem_cons.mpr ⟨lw_p14, List.forall_mem_cons.mpr ⟨lw_p15, fun _ h => absurd h List.not_mem_nil⟩⟩⟩⟩⟩⟩⟩⟩⟩⟩⟩⟩⟩⟩⟩⟩
theorem lw_p16 : lw_okq (⟨"NoticeMarket$Giver", "mostFrom", "(IJ)J"⟩, 9) := ⟨⟨by decide +kernel, by decide +kernel⟩, List.mem_of_getElem? (i := 24) (by decide +kernel), List.mem_of_getElem? (i := 455) (by decide +kernel), List.mem_of_getElem? (i := 456) (by decide +kernel)⟩
theorem lw_p17 : lw_okq (⟨"NoticeMarket$Giver", "greatestAt", "(IJ)J"⟩, 9) := ⟨⟨by decide +kernel, by decide +kernel⟩, List.mem_of_getElem? (i := 24) (by decide +kernel), List.mem_of_getElem? (i := 459) (by decide +kernel), List.mem_of_getElem? (i := 460) (by decide +kernel)⟩
theorem lw_p18 : lw_okq (⟨"NoticeMarket$Giver", "tryAt", "(IIJJ)V"⟩, 9) := ⟨⟨by decide +kernel, by decide +kernel⟩, List.mem_of_getElem? (i := 24) (by decide +kernel), List.mem_of_getElem? (i := 463) (by decide +kernel), List.mem_of_getElem? (i := 464) (by decide +kernel)⟩
theorem lw_p19 : lw_okq (⟨"NoticeMarket", "keepGivenAndPrices", "(LNoticeMarket$Page;)V"⟩, 17) := ⟨⟨by decide +kernel, by decide +kernel⟩, List.mem_of_getElem? (i := 10) (by decide +kernel), List.mem_of_getElem? (i := 471) (by decide +kernel), List.mem_of_getElem? (i := 472) (by decide +kernel)⟩
theorem lw_p20 : lw_okq (⟨"NoticeMarket", "priceAt", "(ILNoticeMarket$Page;J)I"⟩, 17) := ⟨⟨by decide +kernel, by decide +kernel⟩, List.mem_of_getElem? (i := 10) (by decide +kernel), List.mem_of_getElem? (i := 476) (by decide +kernel), List.mem_of_getElem? (i := 477) (by decide +kernel)⟩
theorem lw_p21 : lw_okq (⟨"NoticeMarket", "sell", "(III)V"⟩, 17) := ⟨⟨by decide +kernel, by decide +kernel⟩, List.mem_of_getElem? (i := 10) (by decide +kernel), List.mem_of_getElem? (i := 492) (by decide +kernel), List.mem_of_getElem? (i := 493) (by decide +kernel)⟩
theorem lw_p22 : lw_okq (⟨"NoticeMarket", "hold", "(LNoticeMarket$Sale;)V"⟩, 17) := ⟨⟨by decide +kernel, by decide +kernel⟩, List.mem_of_getElem? (i := 10) (by decide +kernel), List.mem_of_getElem? (i := 550) (by decide +kernel), List.mem_of_getElem? (i := 551) (by decide +kernel)⟩
theorem lw_p23 : lw_okq (⟨"NoticeMarket", "spend", "(LNoticeMarket$Sale;)V"⟩, 17) := ⟨⟨by decide +kernel, by decide +kernel⟩, List.mem_of_getElem? (i := 10) (by decide +kernel), List.mem_of_getElem? (i := 554) (by decide +kernel), List.mem_of_getElem? (i := 555) (by decide +kernel)⟩
theorem lw_p24 : lw_okq (⟨"NoticeMarket", "addSpent", "(LNoticeMarket$Sale;I)V"⟩, 17) := ⟨⟨by decide +kernel, by decide +kernel⟩, List.mem_of_getElem? (i := 10) (by decide +kernel), List.mem_of_getElem? (i := 558) (by decide +kernel), List.mem_of_getElem? (i := 559) (by decide +kernel)⟩
theorem lw_p25 : lw_okq (⟨"NoticeMarket", "isSale", "(I)Z"⟩, 17) := ⟨⟨by decide +kernel, by decide +kernel⟩, List.mem_of_getElem? (i := 10) (by decide +kernel), List.mem_of_getElem? (i := 579) (by decide +kernel), List.mem_of_getElem? (i := 580) (by decide +kernel)⟩
theorem lw_p26 : lw_okq (⟨"NoticeMarket", "spendHeld", "(LNoticeMarket$Sale;)V"⟩, 17) := ⟨⟨by decide +kernel, by decide +kernel⟩, List.mem_of_getElem? (i := 10) (by decide +kernel), List.mem_of_getElem? (i := 587) (by decide +kernel), List.mem_of_getElem? (i := 588) (by decide +kernel)⟩
theorem lw_p27 : lw_okq (⟨"NoticeMarket", "givePaidBack", "(LNoticeMarket$Sale;)V"⟩, 17) := ⟨⟨by decide +kernel, by decide +kernel⟩, List.mem_of_getElem? (i := 10) (by decide +kernel), List.mem_of_getElem? (i := 595) (by decide +kernel), List.mem_of_getElem? (i := 596) (by decide +kernel)⟩
theorem lw_p28 : lw_okq (⟨"NoticeMarket", "uncount", "(LNoticeMarket$Sale;)V"⟩, 17) := ⟨⟨by decide +kernel, by decide +kernel⟩, List.mem_of_getElem? (i := 10) (by decide +kernel), List.mem_of_getElem? (i := 599) (by decide +kernel), List.mem_of_getElem? (i := 600) (by decide +kernel)⟩
theorem lw_p29 : lw_okq (⟨"NoticeMarketModel", "isCampaign", "(I)Z"⟩, 51) := ⟨⟨by decide +kernel, by decide +kernel⟩, List.mem_of_getElem? (i := 625) (by decide +kernel), List.mem_of_getElem? (i := 808) (by decide +kernel), List.mem_of_getElem? (i := 809) (by decide +kernel)⟩
theorem lw_p30 : lw_okq (⟨"NoticeMarketModel", "goesBy", "()V"⟩, 51) := ⟨⟨by decide +kernel, by decide +kernel⟩, List.mem_of_getElem? (i := 625) (by decide +kernel), List.mem_of_getElem? (i := 841) (by decide +kernel), List.mem_of_getElem? (i := 842) (by decide +kernel)⟩
theorem lw_p31 : lw_okq (⟨"NoticeMarketModel", "sum", "(IIZZ)I"⟩, 51) := ⟨⟨by decide +kernel, by decide +kernel⟩, List.mem_of_getElem? (i := 625) (by decide +kernel), List.mem_of_getElem? (i := 845) (by decide +kernel), List.mem_of_getElem? (i := 846) (by decide +kernel)⟩
def lw_privs_2 : List (MethodName × Nat) := [(⟨"NoticeMarket$Giver", "mostFrom", "(IJ)J"⟩, 9), (⟨"NoticeMarket$Giver", "greatestAt", "(IJ)J"⟩, 9), (⟨"NoticeMarket$Giver", "tryAt", "(IIJJ)V"⟩, 9), (⟨"NoticeMarket", "keepGivenAndPrices", "(LNoticeMarket$Page;)V"⟩, 17), (⟨"NoticeMarket", "priceAt", "(ILNoticeMarket$Page;J)I"⟩, 17), (⟨"NoticeMarket", "sell", "(III)V"⟩, 17), (⟨"NoticeMarket", "hold", "(LNoticeMarket$Sale;)V"⟩, 17), (⟨"NoticeMarket", "spend", "(LNoticeMarket$Sale;)V"⟩, 17), (⟨"NoticeMarket", "addSpent", "(LNoticeMarket$Sale;I)V"⟩, 17), (⟨"NoticeMarket", "isSale", "(I)Z"⟩, 17), (⟨"NoticeMarket", "spendHeld", "(LNoticeMarket$Sale;)V"⟩, 17), (⟨"NoticeMarket", "givePaidBack", "(LNoticeMarket$Sale;)V"⟩, 17), (⟨"NoticeMarket", "uncount", "(LNoticeMarket$Sale;)V"⟩, 17), (⟨"NoticeMarketModel", "isCampaign", "(I)Z"⟩, 51), (⟨"NoticeMarketModel", "goesBy", "()V"⟩, 51), (⟨"NoticeMarketModel", "sum", "(IIZZ)I"⟩, 51)]
theorem lw_r2 : ∀ q ∈ lw_privs_2, lw_okq q := List.forall_mem_cons.mpr ⟨lw_p16, List.forall_mem_cons.mpr ⟨lw_p17, List.forall_mem_cons.mpr ⟨lw_p18, List.forall_mem_cons.mpr ⟨lw_p19, List.forall_mem_cons.mpr ⟨lw_p20, List.forall_mem_cons.mpr ⟨lw_p21, List.forall_mem_cons.mpr ⟨lw_p22, List.forall_mem_cons.mpr ⟨lw_p23, List.forall_mem_cons.mpr ⟨lw_p24, List.forall_mem_cons.mpr ⟨lw_p25, List.forall_mem_cons.mpr ⟨lw_p26, List.forall_mem_cons.mpr ⟨lw_p27, List.forall_mem_cons.mpr ⟨lw_p28, List.forall_mem_cons.mpr ⟨lw_p29, List.forall_mem_cons.mpr ⟨lw_p30, List.forall_mem_cons.mpr ⟨lw_p31, fun _ h => absurd h List.not_mem_nil⟩⟩⟩⟩⟩⟩⟩⟩⟩⟩⟩⟩⟩⟩⟩⟩
theorem lw_p32 : lw_okq (⟨"NoticeMarketModel", "coins", "(IZ)I"⟩, 51) := ⟨⟨by decide +kernel, by decide +kernel⟩, List.mem_of_getElem? (i := 625) (by decide +kernel), List.mem_of_getElem? (i := 849) (by decide +kernel), List.mem_of_getElem? (i := 850) (by decide +kernel)⟩
theorem lw_p33 : lw_okq (⟨"NoticeMarketModel", "isPage", "(I)Z"⟩, 51) := ⟨⟨by decide +kernel, by decide +kernel⟩, List.mem_of_getElem? (i := 625) (by decide +kernel), List.mem_of_getElem? (i := 858) (by decide +kernel), List.mem_of_getElem? (i := 859) (by decide +kernel)⟩
theorem lw_p34 : lw_okq (⟨"NoticeMarketModel", "find", "(II)J"⟩, 51) := ⟨⟨by decide +kernel, by decide +kernel⟩, List.mem_of_getElem? (i := 625) (by decide +kernel), List.mem_of_getElem? (i := 862) (by decide +kernel), List.mem_of_getElem? (i := 863) (by decide +kernel)⟩
theorem lw_p35 : lw_okq (⟨"NoticeMarketModel", "gather", "(II)V"⟩, 51) := ⟨⟨by decide +kernel, by decide +kernel⟩, List.mem_of_getElem? (i := 625) (by decide +kernel), List.mem_of_getElem? (i := 866) (by decide +kernel), List.mem_of_getElem? (i := 867) (by decide +kernel)⟩
theorem lw_p36 : lw_okq (⟨"NoticeMarketModel", "hinders", "(III)I"⟩, 51) := ⟨⟨by decide +kernel, by decide +kernel⟩, List.mem_of_getElem? (i := 625) (by decide +kernel), List.mem_of_getElem? (i := 870) (by decide +kernel), List.mem_of_getElem? (i := 871) (by decide +kernel)⟩
theorem lw_p37 : lw_okq (⟨"NoticeMarketModel", "leftOfDay", "(I)I"⟩, 51) := ⟨⟨by decide +kernel, by decide +kernel⟩, List.mem_of_getElem? (i := 625) (by decide +kernel), List.mem_of_getElem? (i := 874) (by decide +kernel), List.mem_of_getElem? (i := 875) (by decide +kernel)⟩
theorem lw_p38 : lw_okq (⟨"NoticeMarketModel", "leftInAll", "(I)I"⟩, 51) := ⟨⟨by decide +kernel, by decide +kernel⟩, List.mem_of_getElem? (i := 625) (by decide +kernel), List.mem_of_getElem? (i := 878) (by decide +kernel), List.mem_of_getElem? (i := 879) (by decide +kernel)⟩
theorem lw_p39 : lw_okq (⟨"NoticeMarketModel", "drawOf", "(II)I"⟩, 51) := ⟨⟨by decide +kernel, by decide +kernel⟩, List.mem_of_getElem? (i := 625) (by decide +kernel), List.mem_of_getElem? (i := 882) (by decide +kernel), List.mem_of_getElem? (i := 883) (by decide +kernel)⟩
theorem lw_p40 : lw_okq (⟨"NoticeMarketModel", "worthOf", "(II)J"⟩, 51) := ⟨⟨by decide +kernel, by decide +kernel⟩, List.mem_of_getElem? (i := 625) (by decide +kernel), List.mem_of_getElem? (i := 888) (by decide +kernel), List.mem_of_getElem? (i := 889) (by decide +kernel)⟩
theorem lw_p41 : lw_okq (⟨"NoticeMarketModel", "presses", "(II)I"⟩, 51) := ⟨⟨by decide +kernel, by decide +kernel⟩, List.mem_of_getElem? (i := 625) (by decide +kernel), List.mem_of_getElem? (i := 893) (by decide +kernel), List.mem_of_getElem? (i := 894) (by decide +kernel)⟩
theorem lw_p42 : lw_okq (⟨"NoticeMarketModel", "showings", "(II)I"⟩, 51) := ⟨⟨by decide +kernel, by decide +kernel⟩, List.mem_of_getElem? (i := 625) (by decide +kernel), List.mem_of_getElem? (i := 897) (by decide +kernel), List.mem_of_getElem? (i := 898) (by decide +kernel)⟩
theorem lw_p43 : lw_okq (⟨"NoticeMarketModel", "isBehind", "(I)Z"⟩, 51) := ⟨⟨by decide +kernel, by decide +kernel⟩, List.mem_of_getElem? (i := 625) (by decide +kernel), List.mem_of_getElem? (i := 901) (by decide +kernel), List.mem_of_getElem? (i := 902) (by decide +kernel)⟩
theorem lw_p44 : lw_okq (⟨"NoticeMarketModel", "reckon", "(I)V"⟩, 51) := ⟨⟨by decide +kernel, by decide +kernel⟩, List.mem_of_getElem? (i := 625) (by decide +kernel), List.mem_of_getElem? (i := 906) (by decide +kernel), List.mem_of_getElem? (i := 907) (by decide +kernel)⟩
theorem lw_p45 : lw_okq (⟨"NoticeMarketModel", "go", "(ZI)V"⟩, 51) := ⟨⟨by decide +kernel, by decide +kernel⟩, List.mem_of_getElem? (i := 625) (by decide +kernel), List.mem_of_getElem? (i := 910) (by decide +kernel), List.mem_of_getElem? (i := 911) (by decide +kernel)⟩
theorem lw_p46 : lw_okq (⟨"NoticeMarketModel", "fits", "(III)Z"⟩, 51) := ⟨⟨by decide +kernel, by decide +kernel⟩, List.mem_of_getElem? (i := 625) (by decide +kernel), List.mem_of_getElem? (i := 914) (by decide +kernel), List.mem_of_getElem? (i := 915) (by decide +kernel)⟩
theorem lw_p47 : lw_okq (⟨"NoticeMarketModel", "priceOf", "(IIIJ)I"⟩, 51) := ⟨⟨by decide +kernel, by decide +kernel⟩, List.mem_of_getElem? (i := 625) (by decide +kernel), List.mem_of_getElem? (i := 918) (by decide +kernel), List.mem_of_getElem? (i := 919) (by decide +kernel)⟩
def lw_privs_3 : List (MethodName × Nat) := [(⟨"NoticeMarketModel", "coins", "(IZ)I"⟩, 51), (⟨"NoticeMarketModel", "isPage", "(I)Z"⟩, 51), (⟨"NoticeMarketModel", "find", "(II)J"⟩, 51), (⟨"NoticeMarketModel", "gather", "(II)V"⟩, 51), (⟨"NoticeMarketModel", "hinders", "(III)I"⟩, 51), (⟨"NoticeMarketModel", "leftOfDay", "(I)I"⟩, 51), (⟨"NoticeMarketModel", "leftInAll", "(I)I"⟩, 51), (⟨"NoticeMarketModel", "drawOf", "(II)I"⟩, 51), (⟨"NoticeMarketModel", "worthOf", "(II)J"⟩, 51), (⟨"NoticeMarketModel", "presses", "(II)I"⟩, 51), (⟨"NoticeMarketModel", "showings", "(II)I"⟩, 51), (⟨"NoticeMarketModel", "isBehind", "(I)Z"⟩, 51), (⟨"NoticeMarketModel", "reckon", "(I)V"⟩, 51), (⟨"NoticeMarketModel", "go", "(ZI)V"⟩, 51), (⟨"NoticeMarketModel", "fits", "(III)Z"⟩, 51), (⟨"NoticeMarketModel", "priceOf", "(IIIJ)I"⟩, 51)]
theorem lw_r3 : ∀ q ∈ lw_privs_3, lw_okq q := List.forall_mem_cons.mpr ⟨lw_p32, List.forall_mem_cons.mpr ⟨lw_p33, List.forall_mem_cons.mpr ⟨lw_p34, List.forall_mem_cons.mpr ⟨lw_p35, List.forall_mem_cons.mpr ⟨lw_p36, List.forall_mem_cons.mpr ⟨lw_p37, List.forall_mem_cons.mpr ⟨lw_p38, List.forall_mem_cons.mpr ⟨lw_p39, List.forall_mem_cons.mpr ⟨lw_p40, List.forall_mem_cons.mpr ⟨lw_p41, List.forall_mem_cons.mpr ⟨lw_p42, List.forall_mem_cons.mpr ⟨lw_p43, List.forall_mem_cons.mpr ⟨lw_p44, List.forall_mem_cons.mpr ⟨lw_p45, List.forall_mem_cons.mpr ⟨lw_p46, List.forall_mem_cons.mpr ⟨lw_p47, fun _ h => absurd h List.not_mem_nil⟩⟩⟩⟩⟩⟩⟩⟩⟩⟩⟩⟩⟩⟩⟩⟩
theorem lw_p48 : lw_okq (⟨"NoticeMarketModel", "sumWithout", "(I)J"⟩, 51) := ⟨⟨by decide +kernel, by decide +kernel⟩, List.mem_of_getElem? (i := 625) (by decide +kernel), List.mem_of_getElem? (i := 922) (by decide +kernel), List.mem_of_getElem? (i := 923) (by decide +kernel)⟩
theorem lw_p49 : lw_okq (⟨"NoticeMarketModel", "sell", "(III)V"⟩, 51) := ⟨⟨by decide +kernel, by decide +kernel⟩, List.mem_of_getElem? (i := 625) (by decide +kernel), List.mem_of_getElem? (i := 927) (by decide +kernel), List.mem_of_getElem? (i := 928) (by decide +kernel)⟩
theorem lw_p50 : lw_okq (⟨"NoticeMarketModel", "isSale", "(I)Z"⟩, 51) := ⟨⟨by decide +kernel, by decide +kernel⟩, List.mem_of_getElem? (i := 625) (by decide +kernel), List.mem_of_getElem? (i := 948) (by decide +kernel), List.mem_of_getElem? (i := 949) (by decide +kernel)⟩
def lw_privs_4 : List (MethodName × Nat) := [(⟨"NoticeMarketModel", "sumWithout", "(I)J"⟩, 51), (⟨"NoticeMarketModel", "sell", "(III)V"⟩, 51), (⟨"NoticeMarketModel", "isSale", "(I)Z"⟩, 51)]
theorem lw_r4 : ∀ q ∈ lw_privs_4, lw_okq q := List.forall_mem_cons.mpr ⟨lw_p48, List.forall_mem_cons.mpr ⟨lw_p49, List.forall_mem_cons.mpr ⟨lw_p50, fun _ h => absurd h List.not_mem_nil⟩⟩⟩
def lw_privs : List (MethodName × Nat) := lw_privs_1 ++ (lw_privs_2 ++ (lw_privs_3 ++ (lw_privs_4)))
def lw_tbl : List Cond := k2_sels lw_privs ++ tables_1
theorem lw_privs_ok : ∀ q ∈ lw_privs, lw_okq q := by
  show ∀ q ∈ lw_privs_1 ++ (lw_privs_2 ++ (lw_privs_3 ++ (lw_privs_4))), lw_okq q
  exact List.forall_mem_append.mpr ⟨lw_r1, List.forall_mem_append.mpr ⟨lw_r2, List.forall_mem_append.mpr ⟨lw_r3, lw_r4⟩⟩⟩
end
section
def RX0 : String := "NoticeMarket$Campaign"
def TX0 : u_T := fun k => match k with
  | 0 => ("NoticeMarket$Campaign", "sort", "I", true)
  | 1 => ("NoticeMarket$Campaign", "paysByPress", "Z", true)
  | 2 => ("NoticeMarket$Campaign", "mustHave", "I", true)
  | 3 => ("NoticeMarket$Campaign", "mustLack", "I", true)
  | 4 => ("NoticeMarket$Campaign", "bid", "I", true)
  | 5 => ("NoticeMarket$Campaign", "tally", "LNoticeMarket$Tally;", true)
  | 6 => ("NoticeMarket$Campaign", "dayBudget", "I", false)
  | 7 => ("NoticeMarket$Campaign", "allBudget", "I", false)
  | 8 => ("NoticeMarket$Campaign", "mostShowings", "I", false)
  | 9 => ("NoticeMarket$Campaign", "capSpan", "I", false)
  | 10 => ("NoticeMarket$Campaign", "throttle", "I", false)
  | 11 => ("NoticeMarket$Campaign", "stopped", "I", false)
  | 12 => ("NoticeMarket$Campaign", "apartFrom", "J", false)
  | 13 => ("NoticeMarket$Campaign", "promisedMany", "I", false)
  | 14 => ("NoticeMarket$Campaign", "promisedAt", "I", false)
  | _ => ("NoticeMarket$Campaign", "promiseEnd", "J", false)
def tyX0 : Nat → FieldType := fun k => match k with
  | 0 => .int
  | 1 => .boolean
  | 2 => .int
  | 3 => .int
  | 4 => .int
  | 5 => .object "NoticeMarket$Tally"
  | 6 => .int
  | 7 => .int
  | 8 => .int
  | 9 => .int
  | 10 => .int
  | 11 => .int
  | 12 => .long
  | 13 => .int
  | 14 => .int
  | _ => .long
abbrev wsX00 : List Cond := u_ws RX0 TX0 16
theorem nmX0 : ∀ a, a < 16 → ∀ b, b < 16 → a ≠ b → (TX0 a).2.1 ≠ (TX0 b).2.1 := by decide +kernel
theorem tyX0_ok : ∀ k, k < 16 → parseFieldDescriptor (TX0 k).2.2.1 = some (tyX0 k) := by decide +kernel
abbrev cX0_init : ByteArray := prog_2_method_1_code
def yX0_init : MethodName := ⟨RX0, "<init>", "(III)V"⟩
abbrev cX0_isApartFrom : ByteArray := prog_2_method_2_code
def yX0_isApartFrom : MethodName := ⟨RX0, "isApartFrom", "(I)Z"⟩
abbrev cX0_setApart : ByteArray := prog_2_method_3_code
def yX0_setApart : MethodName := ⟨RX0, "setApart", "(IZ)V"⟩
abbrev cX0_takePromise : ByteArray := prog_2_method_4_code
def yX0_takePromise : MethodName := ⟨RX0, "takePromise", "(IIJ)V"⟩
abbrev cX0_wants : ByteArray := prog_2_method_5_code
def yX0_wants : MethodName := ⟨RX0, "wants", "(I)Z"⟩
abbrev cX0_leftToday : ByteArray := prog_2_method_6_code
def yX0_leftToday : MethodName := ⟨RX0, "leftToday", "()I"⟩
abbrev cX0_leftInAll : ByteArray := prog_2_method_7_code
def yX0_leftInAll : MethodName := ⟨RX0, "leftInAll", "()I"⟩
abbrev cX0_isBehind : ByteArray := prog_2_method_8_code
def yX0_isBehind : MethodName := ⟨RX0, "isBehind", "(I)Z"⟩
abbrev cX0_dueBy : ByteArray := prog_2_method_9_code
def yX0_dueBy : MethodName := ⟨RX0, "dueBy", "(I)J"⟩
abbrev cX0_worthAt : ByteArray := prog_2_method_10_code
def yX0_worthAt : MethodName := ⟨RX0, "worthAt", "(IZ)J"⟩
abbrev cX0_setThrottle : ByteArray := prog_2_method_11_code
def yX0_setThrottle : MethodName := ⟨RX0, "setThrottle", "(I)V"⟩
def RX1 : String := "NoticeMarket$Giver"
def TX1 : u_T := fun k => match k with
  | 0 => ("NoticeMarket$Giver", "chosen", "[I", true)
  | 1 => ("NoticeMarket$Giver", "trial", "[I", true)
  | 2 => ("NoticeMarket$Giver", "weights", "[[J", true)
  | 3 => ("NoticeMarket$Giver", "order", "[[I", true)
  | 4 => ("NoticeMarket$Giver", "apartFrom", "[J", true)
  | 5 => ("NoticeMarket$Giver", "places", "I", false)
  | 6 => ("NoticeMarket$Giver", "offered", "I", false)
  | 7 => ("NoticeMarket$Giver", "offeredSet", "J", false)
  | _ => ("NoticeMarket$Giver", "bestWeight", "J", false)
def tyX1 : Nat → FieldType := fun k => match k with
  | 0 => .array .int
  | 1 => .array .int
  | 2 => .array (.array .long)
  | 3 => .array (.array .int)
  | 4 => .array .long
  | 5 => .int
  | 6 => .int
  | 7 => .long
  | _ => .long
abbrev wsX10 : List Cond := u_ws RX1 TX1 9
theorem nmX1 : ∀ a, a < 9 → ∀ b, b < 9 → a ≠ b → (TX1 a).2.1 ≠ (TX1 b).2.1 := by decide +kernel
theorem tyX1_ok : ∀ k, k < 9 → parseFieldDescriptor (TX1 k).2.2.1 = some (tyX1 k) := by decide +kernel
abbrev cX1_init : ByteArray := prog_3_method_1_code
def yX1_init : MethodName := ⟨RX1, "<init>", "()V"⟩
abbrev cX1_startFor : ByteArray := prog_3_method_2_code
def yX1_startFor : MethodName := ⟨RX1, "startFor", "(I)V"⟩
abbrev cX1_addWorth : ByteArray := prog_3_method_3_code
def yX1_addWorth : MethodName := ⟨RX1, "addWorth", "(IIJ)V"⟩
abbrev cX1_addCampaign : ByteArray := prog_3_method_4_code
def yX1_addCampaign : MethodName := ⟨RX1, "addCampaign", "(IJ)V"⟩
abbrev cX1_worthOf : ByteArray := prog_3_method_5_code
def yX1_worthOf : MethodName := ⟨RX1, "worthOf", "(II)J"⟩
abbrev cX1_bestSum : ByteArray := prog_3_method_6_code
def yX1_bestSum : MethodName := ⟨RX1, "bestSum", "()J"⟩
abbrev cX1_seek : ByteArray := prog_3_method_7_code
def yX1_seek : MethodName := ⟨RX1, "seek", "(I)J"⟩
abbrev cX1_fillFrom : ByteArray := prog_3_method_8_code
def yX1_fillFrom : MethodName := ⟨RX1, "fillFrom", "(IJJ)V"⟩
abbrev cX1_tryAt : ByteArray := prog_3_method_9_code
def yX1_tryAt : MethodName := ⟨RX1, "tryAt", "(IIJJ)V"⟩
abbrev cX1_keepIfBetter : ByteArray := prog_3_method_10_code
def yX1_keepIfBetter : MethodName := ⟨RX1, "keepIfBetter", "(J)V"⟩
abbrev cX1_mostFrom : ByteArray := prog_3_method_11_code
def yX1_mostFrom : MethodName := ⟨RX1, "mostFrom", "(IJ)J"⟩
abbrev cX1_greatestAt : ByteArray := prog_3_method_12_code
def yX1_greatestAt : MethodName := ⟨RX1, "greatestAt", "(IJ)J"⟩
def RX2 : String := "NoticeMarket$Page"
def TX2 : u_T := fun k => match k with
  | 0 => ("NoticeMarket$Page", "sizes", "[I", true)
  | 1 => ("NoticeMarket$Page", "places", "I", true)
  | 2 => ("NoticeMarket$Page", "earned", "I", false)
  | _ => ("NoticeMarket$Page", "shownNow", "J", false)
def tyX2 : Nat → FieldType := fun k => match k with
  | 0 => .array .int
  | 1 => .int
  | 2 => .int
  | _ => .long
abbrev wsX20 : List Cond := u_ws RX2 TX2 4
theorem nmX2 : ∀ a, a < 4 → ∀ b, b < 4 → a ≠ b → (TX2 a).2.1 ≠ (TX2 b).2.1 := by decide +kernel
theorem tyX2_ok : ∀ k, k < 4 → parseFieldDescriptor (TX2 k).2.2.1 = some (tyX2 k) := by decide +kernel
abbrev cX2_init : ByteArray := prog_4_method_1_code
def yX2_init : MethodName := ⟨RX2, "<init>", "(II)V"⟩
def RX3 : String := "NoticeMarket$Sale"
def TX3 : u_T := fun k => match k with
  | 0 => ("NoticeMarket$Sale", "soldAt", "I", true)
  | 1 => ("NoticeMarket$Sale", "reader", "I", true)
  | 2 => ("NoticeMarket$Sale", "page", "I", true)
  | 3 => ("NoticeMarket$Sale", "place", "I", true)
  | 4 => ("NoticeMarket$Sale", "campaign", "I", true)
  | 5 => ("NoticeMarket$Sale", "price", "I", false)
  | 6 => ("NoticeMarket$Sale", "state", "I", false)
  | 7 => ("NoticeMarket$Sale", "lastPress", "I", false)
  | 8 => ("NoticeMarket$Sale", "pressedAt", "I", false)
  | 9 => ("NoticeMarket$Sale", "paid", "I", false)
  | 10 => ("NoticeMarket$Sale", "held", "I", false)
  | _ => ("NoticeMarket$Sale", "earlier", "LNoticeMarket$Sale;", false)
def tyX3 : Nat → FieldType := fun k => match k with
  | 0 => .int
  | 1 => .int
  | 2 => .int
  | 3 => .int
  | 4 => .int
  | 5 => .int
  | 6 => .int
  | 7 => .int
  | 8 => .int
  | 9 => .int
  | 10 => .int
  | _ => .object "NoticeMarket$Sale"
abbrev wsX30 : List Cond := u_ws RX3 TX3 12
theorem nmX3 : ∀ a, a < 12 → ∀ b, b < 12 → a ≠ b → (TX3 a).2.1 ≠ (TX3 b).2.1 := by decide +kernel
theorem tyX3_ok : ∀ k, k < 12 → parseFieldDescriptor (TX3 k).2.2.1 = some (tyX3 k) := by decide +kernel
abbrev cX3_init : ByteArray := prog_5_method_1_code
def yX3_init : MethodName := ⟨RX3, "<init>", "(IIIII)V"⟩
def RX4 : String := "NoticeMarket$Tally"
def TX4 : u_T := fun k => match k with
  | 0 => ("NoticeMarket$Tally", "spent", "I", false)
  | 1 => ("NoticeMarket$Tally", "held", "I", false)
  | 2 => ("NoticeMarket$Tally", "usedToday", "I", false)
  | 3 => ("NoticeMarket$Tally", "shows", "I", false)
  | 4 => ("NoticeMarket$Tally", "showsNow", "I", false)
  | 5 => ("NoticeMarket$Tally", "presses", "I", false)
  | 6 => ("NoticeMarket$Tally", "pressesNow", "I", false)
  | _ => ("NoticeMarket$Tally", "newest", "LNoticeMarket$Sale;", false)
def tyX4 : Nat → FieldType := fun k => match k with
  | 0 => .int
  | 1 => .int
  | 2 => .int
  | 3 => .int
  | 4 => .int
  | 5 => .int
  | 6 => .int
  | _ => .object "NoticeMarket$Sale"
abbrev wsX40 : List Cond := u_ws RX4 TX4 8
theorem nmX4 : ∀ a, a < 8 → ∀ b, b < 8 → a ≠ b → (TX4 a).2.1 ≠ (TX4 b).2.1 := by decide +kernel
theorem tyX4_ok : ∀ k, k < 8 → parseFieldDescriptor (TX4 k).2.2.1 = some (tyX4 k) := by decide +kernel
abbrev cX4_init : ByteArray := prog_6_method_1_code
def yX4_init : MethodName := ⟨RX4, "<init>", "()V"⟩
abbrev cX4_addShowing : ByteArray := prog_6_method_2_code
def yX4_addShowing : MethodName := ⟨RX4, "addShowing", "(LNoticeMarket$Sale;)V"⟩
abbrev cX4_endTick : ByteArray := prog_6_method_3_code
def yX4_endTick : MethodName := ⟨RX4, "endTick", "()V"⟩
abbrev cX4_chanceOf : ByteArray := prog_6_method_4_code
def yX4_chanceOf : MethodName := ⟨RX4, "chanceOf", "(J)J"⟩
abbrev cX4_showsTo : ByteArray := prog_6_method_5_code
def yX4_showsTo : MethodName := ⟨RX4, "showsTo", "(II)I"⟩
def RX5 : String := "NoticeMarket"
def TX5 : u_T := fun k => match k with
  | 0 => ("NoticeMarket", "pages", "[LNoticeMarket$Page;", true)
  | 1 => ("NoticeMarket", "campaigns", "[LNoticeMarket$Campaign;", true)
  | 2 => ("NoticeMarket", "sales", "[LNoticeMarket$Sale;", true)
  | 3 => ("NoticeMarket", "readerMarks", "[I", true)
  | 4 => ("NoticeMarket", "giver", "LNoticeMarket$Giver;", true)
  | 5 => ("NoticeMarket", "given", "[I", true)
  | 6 => ("NoticeMarket", "prices", "[I", true)
  | 7 => ("NoticeMarket", "pageCount", "I", false)
  | 8 => ("NoticeMarket", "campaignCount", "I", false)
  | 9 => ("NoticeMarket", "saleCount", "I", false)
  | 10 => ("NoticeMarket", "backCount", "I", false)
  | 11 => ("NoticeMarket", "spentInAll", "I", false)
  | 12 => ("NoticeMarket", "now", "I", false)
  | 13 => ("NoticeMarket", "priceRule", "I", false)
  | 14 => ("NoticeMarket", "paceTicks", "I", false)
  | 15 => ("NoticeMarket", "pressWait", "I", false)
  | _ => ("NoticeMarket", "noneFreeBy", "I", false)
def tyX5 : Nat → FieldType := fun k => match k with
  | 0 => .array (.object "NoticeMarket$Page")
  | 1 => .array (.object "NoticeMarket$Campaign")
  | 2 => .array (.object "NoticeMarket$Sale")
  | 3 => .array .int
  | 4 => .object "NoticeMarket$Giver"
  | 5 => .array .int
  | 6 => .array .int
  | 7 => .int
  | 8 => .int
  | 9 => .int
  | 10 => .int
  | 11 => .int
  | 12 => .int
  | 13 => .int
  | 14 => .int
  | 15 => .int
  | _ => .int
abbrev wsX50 : List Cond := u_ws RX5 TX5 17
theorem nmX5 : ∀ a, a < 17 → ∀ b, b < 17 → a ≠ b → (TX5 a).2.1 ≠ (TX5 b).2.1 := by decide +kernel
theorem tyX5_ok : ∀ k, k < 17 → parseFieldDescriptor (TX5 k).2.2.1 = some (tyX5 k) := by decide +kernel
abbrev cX5_init : ByteArray := prog_1_method_1_code
def yX5_init : MethodName := ⟨RX5, "<init>", "()V"⟩
abbrev cX5_page : ByteArray := prog_1_method_2_code
def yX5_page : MethodName := ⟨RX5, "page", "(I)I"⟩
abbrev cX5_marks : ByteArray := prog_1_method_3_code
def yX5_marks : MethodName := ⟨RX5, "marks", "(II)I"⟩
abbrev cX5_campaign : ByteArray := prog_1_method_4_code
def yX5_campaign : MethodName := ⟨RX5, "campaign", "(III)I"⟩
abbrev cX5_budget : ByteArray := prog_1_method_5_code
def yX5_budget : MethodName := ⟨RX5, "budget", "(III)I"⟩
abbrev cX5_cap : ByteArray := prog_1_method_6_code
def yX5_cap : MethodName := ⟨RX5, "cap", "(III)I"⟩
abbrev cX5_apart : ByteArray := prog_1_method_7_code
def yX5_apart : MethodName := ⟨RX5, "apart", "(III)I"⟩
abbrev cX5_promise : ByteArray := prog_1_method_8_code
def yX5_promise : MethodName := ⟨RX5, "promise", "(III)I"⟩
abbrev cX5_stop : ByteArray := prog_1_method_9_code
def yX5_stop : MethodName := ⟨RX5, "stop", "(II)I"⟩
abbrev cX5_rule : ByteArray := prog_1_method_10_code
def yX5_rule : MethodName := ⟨RX5, "rule", "(I)I"⟩
abbrev cX5_pace : ByteArray := prog_1_method_11_code
def yX5_pace : MethodName := ⟨RX5, "pace", "(II)I"⟩
abbrev cX5_tick : ByteArray := prog_1_method_12_code
def yX5_tick : MethodName := ⟨RX5, "tick", "(I)I"⟩
abbrev cX5_come : ByteArray := prog_1_method_13_code
def yX5_come : MethodName := ⟨RX5, "come", "(II)I"⟩
abbrev cX5_why : ByteArray := prog_1_method_14_code
def yX5_why : MethodName := ⟨RX5, "why", "(III)I"⟩
abbrev cX5_best : ByteArray := prog_1_method_15_code
def yX5_best : MethodName := ⟨RX5, "best", "(II)J"⟩
abbrev cX5_give : ByteArray := prog_1_method_16_code
def yX5_give : MethodName := ⟨RX5, "give", "(III)I"⟩
abbrev cX5_sale : ByteArray := prog_1_method_17_code
def yX5_sale : MethodName := ⟨RX5, "sale", "(II)I"⟩
abbrev cX5_press : ByteArray := prog_1_method_18_code
def yX5_press : MethodName := ⟨RX5, "press", "(I)I"⟩
abbrev cX5_refund : ByteArray := prog_1_method_19_code
def yX5_refund : MethodName := ⟨RX5, "refund", "(I)I"⟩
abbrev cX5_told : ByteArray := prog_1_method_20_code
def yX5_told : MethodName := ⟨RX5, "told", "(II)I"⟩
abbrev cX5_chance : ByteArray := prog_1_method_21_code
def yX5_chance : MethodName := ⟨RX5, "chance", "(I)I"⟩
abbrev cX5_draw : ByteArray := prog_1_method_22_code
def yX5_draw : MethodName := ⟨RX5, "draw", "(II)I"⟩
abbrev cX5_income : ByteArray := prog_1_method_23_code
def yX5_income : MethodName := ⟨RX5, "income", "(I)I"⟩
abbrev cX5_count : ByteArray := prog_1_method_24_code
def yX5_count : MethodName := ⟨RX5, "count", "(I)I"⟩
abbrev cX5_isWithin : ByteArray := prog_1_method_25_code
def yX5_isWithin : MethodName := ⟨RX5, "isWithin", "(III)Z"⟩
abbrev cX5_isPage : ByteArray := prog_1_method_26_code
def yX5_isPage : MethodName := ⟨RX5, "isPage", "(I)Z"⟩
abbrev cX5_isReader : ByteArray := prog_1_method_27_code
def yX5_isReader : MethodName := ⟨RX5, "isReader", "(I)Z"⟩
abbrev cX5_isCampaign : ByteArray := prog_1_method_28_code
def yX5_isCampaign : MethodName := ⟨RX5, "isCampaign", "(I)Z"⟩
abbrev cX5_isSale : ByteArray := prog_1_method_29_code
def yX5_isSale : MethodName := ⟨RX5, "isSale", "(I)Z"⟩
abbrev cX5_isSort : ByteArray := prog_1_method_30_code
def yX5_isSort : MethodName := ⟨RX5, "isSort", "(I)Z"⟩
abbrev cX5_isWish : ByteArray := prog_1_method_31_code
def yX5_isWish : MethodName := ⟨RX5, "isWish", "(I)Z"⟩
abbrev cX5_isBid : ByteArray := prog_1_method_32_code
def yX5_isBid : MethodName := ⟨RX5, "isBid", "(II)Z"⟩
abbrev cX5_placesIn : ByteArray := prog_1_method_33_code
def yX5_placesIn : MethodName := ⟨RX5, "placesIn", "(I)I"⟩
abbrev cX5_closeTick : ByteArray := prog_1_method_34_code
def yX5_closeTick : MethodName := ⟨RX5, "closeTick", "()V"⟩
abbrev cX5_goOneTick : ByteArray := prog_1_method_35_code
def yX5_goOneTick : MethodName := ⟨RX5, "goOneTick", "()V"⟩
abbrev cX5_closeDay : ByteArray := prog_1_method_36_code
def yX5_closeDay : MethodName := ⟨RX5, "closeDay", "()V"⟩
abbrev cX5_freeLateSales : ByteArray := prog_1_method_37_code
def yX5_freeLateSales : MethodName := ⟨RX5, "freeLateSales", "()V"⟩
abbrev cX5_setThrottles : ByteArray := prog_1_method_38_code
def yX5_setThrottles : MethodName := ⟨RX5, "setThrottles", "()V"⟩
abbrev cX5_drawn : ByteArray := prog_1_method_39_code
def yX5_drawn : MethodName := ⟨RX5, "drawn", "(II)I"⟩
abbrev cX5_hindrance : ByteArray := prog_1_method_40_code
def yX5_hindrance : MethodName := ⟨RX5, "hindrance", "(IILNoticeMarket$Page;)I"⟩
abbrev cX5_seekBest : ByteArray := prog_1_method_41_code
def yX5_seekBest : MethodName := ⟨RX5, "seekBest", "(ILNoticeMarket$Page;)J"⟩
abbrev cX5_offer : ByteArray := prog_1_method_42_code
def yX5_offer : MethodName := ⟨RX5, "offer", "(ILNoticeMarket$Page;)V"⟩
abbrev cX5_keepGivenAndPrices : ByteArray := prog_1_method_43_code
def yX5_keepGivenAndPrices : MethodName := ⟨RX5, "keepGivenAndPrices", "(LNoticeMarket$Page;)V"⟩
abbrev cX5_priceAt : ByteArray := prog_1_method_44_code
def yX5_priceAt : MethodName := ⟨RX5, "priceAt", "(ILNoticeMarket$Page;J)I"⟩
abbrev cX5_sell : ByteArray := prog_1_method_45_code
def yX5_sell : MethodName := ⟨RX5, "sell", "(III)V"⟩
abbrev cX5_hold : ByteArray := prog_1_method_46_code
def yX5_hold : MethodName := ⟨RX5, "hold", "(LNoticeMarket$Sale;)V"⟩
abbrev cX5_spend : ByteArray := prog_1_method_47_code
def yX5_spend : MethodName := ⟨RX5, "spend", "(LNoticeMarket$Sale;)V"⟩
abbrev cX5_addSpent : ByteArray := prog_1_method_48_code
def yX5_addSpent : MethodName := ⟨RX5, "addSpent", "(LNoticeMarket$Sale;I)V"⟩
abbrev cX5_spendHeld : ByteArray := prog_1_method_49_code
def yX5_spendHeld : MethodName := ⟨RX5, "spendHeld", "(LNoticeMarket$Sale;)V"⟩
abbrev cX5_freeHeld : ByteArray := prog_1_method_50_code
def yX5_freeHeld : MethodName := ⟨RX5, "freeHeld", "(LNoticeMarket$Sale;)V"⟩
abbrev cX5_givePaidBack : ByteArray := prog_1_method_51_code
def yX5_givePaidBack : MethodName := ⟨RX5, "givePaidBack", "(LNoticeMarket$Sale;)V"⟩
abbrev cX5_lessenDay : ByteArray := prog_1_method_52_code
def yX5_lessenDay : MethodName := ⟨RX5, "lessenDay", "(LNoticeMarket$Sale;I)V"⟩
abbrev cX5_uncount : ByteArray := prog_1_method_53_code
def yX5_uncount : MethodName := ⟨RX5, "uncount", "(LNoticeMarket$Sale;)V"⟩
def RX6 : String := "NoticeMarketModel"
def TX6 : u_T := fun k => match k with
  | 0 => ("NoticeMarketModel", "code", "I", false)
  | 1 => ("NoticeMarketModel", "tick", "I", false)
  | 2 => ("NoticeMarketModel", "rule", "I", false)
  | 3 => ("NoticeMarketModel", "pace", "I", false)
  | 4 => ("NoticeMarketModel", "wait", "I", false)
  | 5 => ("NoticeMarketModel", "pages", "I", false)
  | 6 => ("NoticeMarketModel", "places", "[I", true)
  | 7 => ("NoticeMarketModel", "sizes", "[I", true)
  | 8 => ("NoticeMarketModel", "marks", "[I", true)
  | 9 => ("NoticeMarketModel", "campaigns", "I", false)
  | 10 => ("NoticeMarketModel", "sort", "[I", true)
  | 11 => ("NoticeMarketModel", "pays", "[I", true)
  | 12 => ("NoticeMarketModel", "must", "[I", true)
  | 13 => ("NoticeMarketModel", "never", "[I", true)
  | 14 => ("NoticeMarketModel", "bid", "[I", true)
  | 15 => ("NoticeMarketModel", "dayBudget", "[I", true)
  | 16 => ("NoticeMarketModel", "allBudget", "[I", true)
  | 17 => ("NoticeMarketModel", "cap", "[I", true)
  | 18 => ("NoticeMarketModel", "span", "[I", true)
  | 19 => ("NoticeMarketModel", "throttle", "[I", true)
  | 20 => ("NoticeMarketModel", "stopped", "[Z", true)
  | 21 => ("NoticeMarketModel", "apart", "[Z", true)
  | 22 => ("NoticeMarketModel", "promised", "[I", true)
  | 23 => ("NoticeMarketModel", "promiseDay", "[I", true)
  | 24 => ("NoticeMarketModel", "promiseFrom", "[I", true)
  | 25 => ("NoticeMarketModel", "sales", "I", false)
  | 26 => ("NoticeMarketModel", "saleTick", "[I", true)
  | 27 => ("NoticeMarketModel", "saleReader", "[I", true)
  | 28 => ("NoticeMarketModel", "salePage", "[I", true)
  | 29 => ("NoticeMarketModel", "salePlace", "[I", true)
  | 30 => ("NoticeMarketModel", "saleOf", "[I", true)
  | 31 => ("NoticeMarketModel", "price", "[I", true)
  | 32 => ("NoticeMarketModel", "state", "[I", true)
  | 33 => ("NoticeMarketModel", "saleWait", "[I", true)
  | 34 => ("NoticeMarketModel", "pressTick", "[I", true)
  | 35 => ("NoticeMarketModel", "may", "I", false)
  | 36 => ("NoticeMarketModel", "mayBe", "[I", true)
  | 37 => ("NoticeMarketModel", "worth", "[J", true)
  | 38 => ("NoticeMarketModel", "mostAt", "[J", true)
  | 39 => ("NoticeMarketModel", "spots", "I", false)
  | 40 => ("NoticeMarketModel", "at", "[I", true)
  | 41 => ("NoticeMarketModel", "upTo", "[J", true)
  | 42 => ("NoticeMarketModel", "filledTo", "[I", true)
  | 43 => ("NoticeMarketModel", "bestSum", "J", false)
  | 44 => ("NoticeMarketModel", "bestFilled", "I", false)
  | 45 => ("NoticeMarketModel", "hasBest", "Z", false)
  | 46 => ("NoticeMarketModel", "given", "[I", true)
  | 47 => ("NoticeMarketModel", "order", "[I", true)
  | 48 => ("NoticeMarketModel", "next", "[I", true)
  | 49 => ("NoticeMarketModel", "toSell", "[I", true)
  | _ => ("NoticeMarketModel", "toPay", "[I", true)
def tyX6 : Nat → FieldType := fun k => match k with
  | 0 => .int
  | 1 => .int
  | 2 => .int
  | 3 => .int
  | 4 => .int
  | 5 => .int
  | 6 => .array .int
  | 7 => .array .int
  | 8 => .array .int
  | 9 => .int
  | 10 => .array .int
  | 11 => .array .int
  | 12 => .array .int
  | 13 => .array .int
  | 14 => .array .int
  | 15 => .array .int
  | 16 => .array .int
  | 17 => .array .int
  | 18 => .array .int
  | 19 => .array .int
  | 20 => .array .boolean
  | 21 => .array .boolean
  | 22 => .array .int
  | 23 => .array .int
  | 24 => .array .int
  | 25 => .int
  | 26 => .array .int
  | 27 => .array .int
  | 28 => .array .int
  | 29 => .array .int
  | 30 => .array .int
  | 31 => .array .int
  | 32 => .array .int
  | 33 => .array .int
  | 34 => .array .int
  | 35 => .int
  | 36 => .array .int
  | 37 => .array .long
  | 38 => .array .long
  | 39 => .int
  | 40 => .array .int
  | 41 => .array .long
  | 42 => .array .int
  | 43 => .long
  | 44 => .int
  | 45 => .boolean
  | 46 => .array .int
  | 47 => .array .int
  | 48 => .array .int
  | 49 => .array .int
  | _ => .array .int
abbrev wsX60 : List Cond := u_ws RX6 TX6 51
theorem nmX6 : ∀ a, a < 51 → ∀ b, b < 51 → a ≠ b → (TX6 a).2.1 ≠ (TX6 b).2.1 := by decide +kernel
theorem tyX6_ok : ∀ k, k < 51 → parseFieldDescriptor (TX6 k).2.2.1 = some (tyX6 k) := by decide +kernel
abbrev cX6_init : ByteArray := prog_8_method_1_code
def yX6_init : MethodName := ⟨RX6, "<init>", "()V"⟩
abbrev cX6_in : ByteArray := prog_8_method_3_code
def yX6_in : MethodName := ⟨RX6, "in", "(III)Z"⟩
abbrev cX6_isPage : ByteArray := prog_8_method_4_code
def yX6_isPage : MethodName := ⟨RX6, "isPage", "(I)Z"⟩
abbrev cX6_isReader : ByteArray := prog_8_method_5_code
def yX6_isReader : MethodName := ⟨RX6, "isReader", "(I)Z"⟩
abbrev cX6_isCampaign : ByteArray := prog_8_method_6_code
def yX6_isCampaign : MethodName := ⟨RX6, "isCampaign", "(I)Z"⟩
abbrev cX6_page : ByteArray := prog_8_method_7_code
def yX6_page : MethodName := ⟨RX6, "page", "(I)I"⟩
abbrev cX6_marks : ByteArray := prog_8_method_8_code
def yX6_marks : MethodName := ⟨RX6, "marks", "(II)I"⟩
abbrev cX6_campaign : ByteArray := prog_8_method_9_code
def yX6_campaign : MethodName := ⟨RX6, "campaign", "(III)I"⟩
abbrev cX6_budget : ByteArray := prog_8_method_10_code
def yX6_budget : MethodName := ⟨RX6, "budget", "(III)I"⟩
abbrev cX6_cap : ByteArray := prog_8_method_11_code
def yX6_cap : MethodName := ⟨RX6, "cap", "(III)I"⟩
abbrev cX6_apart : ByteArray := prog_8_method_12_code
def yX6_apart : MethodName := ⟨RX6, "apart", "(III)I"⟩
abbrev cX6_promise : ByteArray := prog_8_method_13_code
def yX6_promise : MethodName := ⟨RX6, "promise", "(III)I"⟩
abbrev cX6_stop : ByteArray := prog_8_method_14_code
def yX6_stop : MethodName := ⟨RX6, "stop", "(II)I"⟩
abbrev cX6_rule : ByteArray := prog_8_method_15_code
def yX6_rule : MethodName := ⟨RX6, "rule", "(I)I"⟩
abbrev cX6_pace : ByteArray := prog_8_method_16_code
def yX6_pace : MethodName := ⟨RX6, "pace", "(II)I"⟩
abbrev cX6_coins : ByteArray := prog_8_method_17_code
def yX6_coins : MethodName := ⟨RX6, "coins", "(IZ)I"⟩
abbrev cX6_sum : ByteArray := prog_8_method_18_code
def yX6_sum : MethodName := ⟨RX6, "sum", "(IIZZ)I"⟩
abbrev cX6_leftOfDay : ByteArray := prog_8_method_19_code
def yX6_leftOfDay : MethodName := ⟨RX6, "leftOfDay", "(I)I"⟩
abbrev cX6_leftInAll : ByteArray := prog_8_method_20_code
def yX6_leftInAll : MethodName := ⟨RX6, "leftInAll", "(I)I"⟩
abbrev cX6_showings : ByteArray := prog_8_method_21_code
def yX6_showings : MethodName := ⟨RX6, "showings", "(II)I"⟩
abbrev cX6_presses : ByteArray := prog_8_method_22_code
def yX6_presses : MethodName := ⟨RX6, "presses", "(II)I"⟩
abbrev cX6_isBehind : ByteArray := prog_8_method_23_code
def yX6_isBehind : MethodName := ⟨RX6, "isBehind", "(I)Z"⟩
abbrev cX6_drawOf : ByteArray := prog_8_method_24_code
def yX6_drawOf : MethodName := ⟨RX6, "drawOf", "(II)I"⟩
abbrev cX6_hinders : ByteArray := prog_8_method_25_code
def yX6_hinders : MethodName := ⟨RX6, "hinders", "(III)I"⟩
abbrev cX6_worthOf : ByteArray := prog_8_method_26_code
def yX6_worthOf : MethodName := ⟨RX6, "worthOf", "(II)J"⟩
abbrev cX6_gather : ByteArray := prog_8_method_27_code
def yX6_gather : MethodName := ⟨RX6, "gather", "(II)V"⟩
abbrev cX6_reckon : ByteArray := prog_8_method_28_code
def yX6_reckon : MethodName := ⟨RX6, "reckon", "(I)V"⟩
abbrev cX6_fits : ByteArray := prog_8_method_29_code
def yX6_fits : MethodName := ⟨RX6, "fits", "(III)Z"⟩
abbrev cX6_go : ByteArray := prog_8_method_30_code
def yX6_go : MethodName := ⟨RX6, "go", "(ZI)V"⟩
abbrev cX6_find : ByteArray := prog_8_method_31_code
def yX6_find : MethodName := ⟨RX6, "find", "(II)J"⟩
abbrev cX6_sumWithout : ByteArray := prog_8_method_32_code
def yX6_sumWithout : MethodName := ⟨RX6, "sumWithout", "(I)J"⟩
abbrev cX6_tick : ByteArray := prog_8_method_33_code
def yX6_tick : MethodName := ⟨RX6, "tick", "(I)I"⟩
abbrev cX6_goesBy : ByteArray := prog_8_method_34_code
def yX6_goesBy : MethodName := ⟨RX6, "goesBy", "()V"⟩
abbrev cX6_come : ByteArray := prog_8_method_35_code
def yX6_come : MethodName := ⟨RX6, "come", "(II)I"⟩
abbrev cX6_priceOf : ByteArray := prog_8_method_36_code
def yX6_priceOf : MethodName := ⟨RX6, "priceOf", "(IIIJ)I"⟩
abbrev cX6_sell : ByteArray := prog_8_method_37_code
def yX6_sell : MethodName := ⟨RX6, "sell", "(III)V"⟩
abbrev cX6_why : ByteArray := prog_8_method_38_code
def yX6_why : MethodName := ⟨RX6, "why", "(III)I"⟩
abbrev cX6_best : ByteArray := prog_8_method_39_code
def yX6_best : MethodName := ⟨RX6, "best", "(II)J"⟩
abbrev cX6_give : ByteArray := prog_8_method_40_code
def yX6_give : MethodName := ⟨RX6, "give", "(III)I"⟩
abbrev cX6_isSale : ByteArray := prog_8_method_41_code
def yX6_isSale : MethodName := ⟨RX6, "isSale", "(I)Z"⟩
abbrev cX6_sale : ByteArray := prog_8_method_42_code
def yX6_sale : MethodName := ⟨RX6, "sale", "(II)I"⟩
abbrev cX6_press : ByteArray := prog_8_method_43_code
def yX6_press : MethodName := ⟨RX6, "press", "(I)I"⟩
abbrev cX6_refund : ByteArray := prog_8_method_44_code
def yX6_refund : MethodName := ⟨RX6, "refund", "(I)I"⟩
abbrev cX6_told : ByteArray := prog_8_method_45_code
def yX6_told : MethodName := ⟨RX6, "told", "(II)I"⟩
abbrev cX6_chance : ByteArray := prog_8_method_46_code
def yX6_chance : MethodName := ⟨RX6, "chance", "(I)I"⟩
abbrev cX6_draw : ByteArray := prog_8_method_47_code
def yX6_draw : MethodName := ⟨RX6, "draw", "(II)I"⟩
abbrev cX6_income : ByteArray := prog_8_method_48_code
def yX6_income : MethodName := ⟨RX6, "income", "(I)I"⟩
abbrev cX6_count : ByteArray := prog_8_method_49_code
def yX6_count : MethodName := ⟨RX6, "count", "(I)I"⟩
def RJ9 : String := "java/lang/Math"
def TJ9 : u_T := fun k => match k with
  | _ => ("", "", "", false)
def tyJ9 : Nat → FieldType := fun k => match k with
  | _ => .int
abbrev wsJ90 : List Cond := u_ws RJ9 TJ9 0
theorem nmJ9 : ∀ a, a < 0 → ∀ b, b < 0 → a ≠ b → (TJ9 a).2.1 ≠ (TJ9 b).2.1 := by decide +kernel
theorem tyJ9_ok : ∀ k, k < 0 → parseFieldDescriptor (TJ9 k).2.2.1 = some (tyJ9 k) := by decide +kernel
abbrev cJ9_max_7cf53 : ByteArray := prog_9_method_65_code
def yJ9_max_7cf53 : MethodName := ⟨RJ9, "max", "(II)I"⟩
abbrev cJ9_max_f86c9 : ByteArray := prog_9_method_66_code
def yJ9_max_f86c9 : MethodName := ⟨RJ9, "max", "(JJ)J"⟩
abbrev cJ9_min_7cf53 : ByteArray := prog_9_method_69_code
def yJ9_min_7cf53 : MethodName := ⟨RJ9, "min", "(II)I"⟩
abbrev cJ9_min_f86c9 : ByteArray := prog_9_method_70_code
def yJ9_min_f86c9 : MethodName := ⟨RJ9, "min", "(JJ)J"⟩
def RL : String := "NoticeMarketLaw"
abbrev cL_law : ByteArray := code
def yL_law : MethodName := ⟨RL, "law", "([I)Z"⟩
abbrev vwCl : List vw_C := [(RX0, TX0, 16), (RX1, TX1, 9), (RX2, TX2, 4), (RX3, TX3, 12), (RX4, TX4, 8), (RX5, TX5, 17), (RX6, TX6, 51)]
end
section
/-! the words: all good words of the tables, one list for every method -/
def lw_B : List Cond := lw_tbl.filter goodWord
theorem lb_m {w : Cond} (h : w ∈ lw_tbl) (g : goodWord w = true) : w ∈ lw_B := List.mem_filter.mpr ⟨h, g⟩
theorem lb_t {w : Cond} (h : w ∈ tables_1) (g : goodWord w = true) : w ∈ lw_B := lb_m (List.mem_append_right _ h) g
theorem lb_0 (i : Nat) {w : Cond} (h : (k2_sels lw_privs)[i]? = some w) (g : goodWord w = true) : w ∈ lw_B := lb_m (List.mem_append_left _ (List.mem_of_getElem? h)) g
theorem lb_1 (i : Nat) {w : Cond} (h : tables_1_1[i]? = some w) (g : goodWord w = true) : w ∈ lw_B := lb_t (List.mem_append_left _ (List.mem_of_getElem? h)) g
theorem lb_2 (i : Nat) {w : Cond} (h : tables_1_2[i]? = some w) (g : goodWord w = true) : w ∈ lw_B := lb_t (List.mem_append_right _ (List.mem_append_left _ (List.mem_of_getElem? h))) g
theorem lb_3 (i : Nat) {w : Cond} (h : tables_1_3[i]? = some w) (g : goodWord w = true) : w ∈ lw_B := lb_t (List.mem_append_right _ (List.mem_append_right _ (List.mem_append_left _ (List.mem_of_getElem? h)))) g
theorem lb_4 (i : Nat) {w : Cond} (h : tables_1_4[i]? = some w) (g : goodWord w = true) : w ∈ lw_B := lb_t (List.mem_append_right _ (List.mem_append_right _ (List.mem_append_right _ (List.mem_append_left _ (List.mem_of_getElem? h))))) g
theorem lb_5 (i : Nat) {w : Cond} (h : tables_1_5[i]? = some w) (g : goodWord w = true) : w ∈ lw_B := lb_t (List.mem_append_right _ (List.mem_append_right _ (List.mem_append_right _ (List.mem_append_right _ (List.mem_of_getElem? h))))) g
theorem lb_gd {w : Cond} (h : w ∈ lw_B) : (w.onTables && w.keeps) = true ∨ ∃ ty, w = .arrayClass ty := good_of_word (List.mem_filter.mp h).2
theorem lb_GI {ws : List Cond} (h : ∀ w ∈ ws, w ∈ lw_B) : GoodIn lw_B ws := fun w hw => ⟨h w hw, lb_gd (h w hw)⟩
theorem lb_c {c2 : Cond} (h : c2 ∈ lw_B) : ∀ w ∈ c2 :: lw_B, w ∈ lw_B := fun w hw => (List.mem_cons.mp hw).elim (fun e => by rw [e]; exact h) id
theorem lb_ps {ws : List Cond} (ps : List Nat) (hp : ws = ps.filterMap (fun i => tables_1[i]?)) (hg : ws.all goodWord = true) : ∀ w ∈ ws, w ∈ lw_B := by
  intro w hw
  have h1 := List.all_eq_true.mp hg w hw
  rw [hp] at hw
  obtain ⟨i, -, hi⟩ := List.mem_filterMap.mp hw
  exact lb_t (List.mem_of_getElem? hi) h1
theorem lb_V {own : String} {index : Nat} {C : String} {y : MethodName} {c2 : Cond} (w1 : Cond.methodLink own index y ∈ lw_B) (w2 : Cond.instanceMethod y ∈ lw_B) (w3 : Cond.selects C y y ∈ lw_B) (w4 : Cond.initialized C ∈ lw_B) (w5 : c2 ∈ lw_B) : GoodIn lw_B (wsV own index C y (c2 :: lw_B)) := lb_GI (fun w hw => by
  rcases List.mem_append.mp hw with h | h
  · simp only [List.mem_cons, List.not_mem_nil, or_false] at h
    rcases h with rfl | rfl | rfl | rfl <;> assumption
  · exact lb_c w5 w h)
theorem lb_S {own : String} {index : Nat} {y : MethodName} {c2 : Cond} (w1 : Cond.methodLink own index y ∈ lw_B) (w2 : Cond.static y ∈ lw_B) (w3 : Cond.initialized y.cls ∈ lw_B) (w5 : c2 ∈ lw_B) : GoodIn lw_B (va_wsS own index y (c2 :: lw_B)) := lb_GI (fun w hw => by
  rcases List.mem_append.mp hw with h | h
  · simp only [List.mem_cons, List.not_mem_nil, or_false] at h
    rcases h with rfl | rfl | rfl <;> assumption
  · exact lb_c w5 w h)
/-- a room by the depth of calls below -/
abbrev rmD (d cells slots : Nat) : Room := { frames := d, cells := cells, slots := slots, locals := 40 * d }
/-- methods that change nothing: their end -/
abbrev qR (post : Int32 → Prop) : Array Value → State → Outcome → State → Prop := va_Qi (fun r (_ : Unit) => post r) (fun _ _ => True) (fun _ => False)
abbrev qRl (post : Int64 → Prop) : Array Value → State → Outcome → State → Prop := va_Ql (fun r (_ : Unit) => post r) (fun _ _ => True) (fun _ => False)
/-- a static method that changes nothing -/
abbrev mS (l : Launch) (y : MethodName) (bytes : ByteArray) (maxL : Nat) (ret : FieldType) (d : Nat) (As : List Value) (post : Int32 → Prop) : Prop :=
  Met l y (Cond.code y bytes maxL (some ret) :: lw_B) (rmD d 0 0) (va_Pc As (fun _ => True)) (qR post) 0 0 (fun _ => False)
/-- a method of an object that changes nothing -/
abbrev mV (l : Launch) (y : MethodName) (bytes : ByteArray) (maxL : Nat) (ret : FieldType) (d : Nat) (D : va_G) (wc : va_W) (tc : List (ClassId × FieldType)) (As : List Value) (post : Int32 → Prop) : Prop :=
  Met l y (Cond.code y bytes maxL (some ret) :: lw_B) (rmD d 0 0) (va_Pc As (fun U => va_P D vwCl wc U.heap ∧ va_K D vwCl tc U)) (qR post) 0 0 (fun _ => False)
abbrev mVl (l : Launch) (y : MethodName) (bytes : ByteArray) (maxL : Nat) (ret : FieldType) (d : Nat) (D : va_G) (wc : va_W) (tc : List (ClassId × FieldType)) (As : List Value) (post : Int64 → Prop) : Prop :=
  Met l y (Cond.code y bytes maxL (some ret) :: lw_B) (rmD d 0 0) (va_Pc As (fun U => va_P D vwCl wc U.heap ∧ va_K D vwCl tc U)) (qRl post) 0 0 (fun _ => False)
theorem k_no1 (x : Int32) : ¬ (0 ≤ x ∧ x ≤ 0 - 1) := by
  rw [show (0 : Int32) - 1 = -1 from rfl]; simp only [Int32.le_iff_toInt_le, Int32.reduceToInt]; have := (show (-1 : Int32).toInt = -1 from rfl); omega
theorem k_ite {P Q : Prop} [Decidable P] [Decidable Q] (h : P ↔ Q) (a b : Int32) : (if P then a else b) = (if Q then a else b) := by
  by_cases hp : P
  · rw [if_pos hp, if_pos (h.mp hp)]
  · rw [if_neg hp, if_neg (fun q => hp (h.mpr q))]
theorem k_ff {P : Prop} [Decidable P] {r : Int32} (h : r = if P then 1 else 0) (c : r = 0) : ¬ P := fun q => by rw [h, if_pos q] at c; exact absurd c (by decide)
theorem k_ft {P : Prop} [Decidable P] {r : Int32} (h : r = if P then 1 else 0) (c : ¬ r = 0) : P := Classical.byContradiction (fun q => c (by rw [h, if_neg q]))
theorem k_sw5 (x : Int32) : (x.toInt < 0 ∨ 5 < x.toInt) ∨ x = 0 ∨ x = 1 ∨ x = 2 ∨ x = 3 ∨ x = 4 ∨ x = 5 := by
  simp only [← Int32.toInt_inj, Int32.reduceToInt]; omega
theorem k_sw22 (x : Int32) : (x.toInt < 0 ∨ 22 < x.toInt) ∨ x = 0 ∨ x = 1 ∨ x = 2 ∨ x = 3 ∨ x = 4 ∨ x = 5 ∨ x = 6 ∨ x = 7 ∨ x = 8 ∨ x = 9 ∨ x = 10 ∨ x = 11 ∨ x = 12 ∨ x = 13 ∨ x = 14 ∨ x = 15 ∨ x = 16 ∨ x = 17 ∨ x = 18 ∨ x = 19 ∨ x = 20 ∨ x = 21 ∨ x = 22 := by
  simp only [← Int32.toInt_inj, Int32.reduceToInt]; omega
theorem k_no0 (x : Int32) : ¬ (0 ≤ x ∧ x < 0) := by
  simp only [Int32.lt_iff_toInt_lt, Int32.le_iff_toInt_le]; omega
section KC
variable {p : Program} {l : Launch} {e : Env} {R : Room} {s : State} {m : MethodId} {args : Array Value} {below : List Frame} {meth : Method} {c : Code} {H : Heap} {locs : List Loc} {cells slots : Nat} {Q : State → Prop}
variable {A0 : Nat → Prop} {H0 : Heap} {D : va_G} {cl : List vw_C} {ws : va_W} {pc : Nat} {ls : Array Slot} {st0 rest : List Value} {y : MethodName} {bytes cc : ByteArray} {maxL nL index d n : Nat} {ret : FieldType} {own : String} {As : List Value} {post : Int32 → Prop}
theorem k_ro {a : Array Value} (hr : va_Run p l e R s m args below meth c H locs cells slots 0 0 (F0 m pc ls st0) rest (qR post a) (fun _ => False)) (hS : va_S A0 H0 H locs) (hP : va_P D cl ws H)
    (kk : ∀ (r : Int32) (H1 : Heap) (locs1 : List Loc), post r → va_P D cl ws H1 → va_S A0 H0 H1 locs1 → W p l e R s m args below meth c H1 locs1 cells slots Q (F0 m (pc + 3) ls (.int r :: rest))) : W p l e R s m args below meth c H locs cells slots Q (F0 m pc ls st0) :=
  va_calli hr hS (fun _ _ h => h.elim) (fun _ h => h.elim) (fun r _ _ H1 locs1 _ _ hp _ _ hk hS1 => kk r H1 locs1 hp (hP.kept fun k q hq => hk q.1 (hP k q hq).lt id) hS1)
/-- a call of a static method that changes nothing -/
theorem k_S (S : CallFix p m c cc nL s args lw_B own) (hM : mS l y bytes maxL ret d As post) (n : Nat) (w1 : Cond.methodLink own index y ∈ lw_B) (w2 : Cond.static y ∈ lw_B) (w3 : Cond.initialized y.cls ∈ lw_B) (w4 : Cond.code y bytes maxL (some ret) ∈ lw_B)
    (hd : y.cls ≠ "java/lang/invoke/MethodHandle" ∧ y.cls ≠ "java/lang/invoke/VarHandle" ∧ (parseMethodDescriptor y.desc).map (fun d => d.parameters.length) = some n) (hR : d + 1 ≤ R.frames ∧ 8 + (maxL + 11) + 40 * d ≤ R.locals)
    (hn : As.length = n) (hls : ls.size = nL) (hst : st0 = As.reverse ++ rest) (hW : (rest.map fun v => v.category).sum ≤ 8) (hdg : decode cc pc = .ok (.invokestatic index, 3)) (hf : cells + 0 ≤ R.cells ∧ slots + 0 ≤ R.slots)
    (hS : va_S A0 H0 H locs) (hP : va_P D cl ws H)
    (kk : ∀ (r : Int32) (H1 : Heap) (locs1 : List Loc), post r → va_P D cl ws H1 → va_S A0 H0 H1 locs1 → W p l e R s m args below meth c H1 locs1 cells slots Q (F0 m (pc + 3) ls (.int r :: rest))) : W p l e R s m args below meth c H locs cells slots Q (F0 m pc ls st0) :=
  k_ro (va_runS (As := As) (rest := rest) S hM (va_cwS n S.2.2.2.2 (lb_S w1 w2 w3 w4) rfl rfl rfl hd hR) ⟨fun _ _ _ _ q => q, fun _ _ _ => ⟨rfl, trivial⟩⟩ rfl hn hls hst (lv_room hW) hdg hf) hS hP kk
/-- a call of a method of an object that changes nothing -/
theorem k_V {wc : va_W} {tc : List (ClassId × FieldType)} {b ci q0 : Nat} {fs : List Value} {q : vw_C} (S : CallFix p m c cc nL s args lw_B own) (hM : mV l y bytes maxL ret d D wc tc (.ref b :: As) post) (n : Nat) (w1 : Cond.methodLink own index y ∈ lw_B) (w2 : Cond.instanceMethod y ∈ lw_B) (w3 : Cond.selects q.1 y y ∈ lw_B) (w4 : Cond.initialized q.1 ∈ lw_B) (w5 : Cond.code y bytes maxL (some ret) ∈ lw_B)
    (hd : y.cls = q.1 ∧ y.cls ≠ "java/lang/invoke/MethodHandle" ∧ y.cls ≠ "java/lang/invoke/VarHandle" ∧ (parseMethodDescriptor y.desc).map (fun d => d.parameters.length) = some n) (hR : d + 1 ≤ R.frames ∧ 8 + (maxL + 11) + 40 * d ≤ R.locals)
    (hPc : va_P D vwCl wc H) (hKc : va_K D vwCl tc s) (hc : vwCl[ci]? = some q) (he : wc[q0]? = some (b, .inr (ci, fs)))
    (hn : As.length = n) (hls : ls.size = nL) (hst : st0 = As.reverse ++ .ref b :: rest) (hW : (rest.map fun v => v.category).sum ≤ 8) (hdg : decode cc pc = .ok (.invokevirtual index, 3)) (hf : cells + 0 ≤ R.cells ∧ slots + 0 ≤ R.slots)
    (hS : va_S A0 H0 H locs) (hP : va_P D cl ws H)
    (kk : ∀ (r : Int32) (H1 : Heap) (locs1 : List Loc), post r → va_P D cl ws H1 → va_S A0 H0 H1 locs1 → W p l e R s m args below meth c H1 locs1 cells slots Q (F0 m (pc + 3) ls (.int r :: rest))) : W p l e R s m args below meth c H locs cells slots Q (F0 m pc ls st0) :=
  k_ro (va_runV (As := As) (rest := rest) S hM (cwV n S.2.2.2.2 (lb_V w1 w2 w3 w4 w5) rfl rfl rfl hd hR) ⟨fun a U g mk q => ⟨q.1, q.2.1, va_K.moved (u := U) (U := U.calling g mk a) (Vm.Alike.refl U.vm) q.2.2⟩, va_recv hKc hPc hc he, fun U hU hW => ⟨rfl, by rw [hU]; exact hPc, va_K.moved hW.alike hKc⟩⟩ rfl hn hls hst (lv_room hW) hdg hf) hS hP kk
end KC
set_option maxRecDepth 20000 in
theorem uB0 : ∀ w ∈ wsX00, w ∈ lw_B := lb_ps [239, 241, 243, 245, 247, 249, 251, 253, 255, 257, 259, 261, 263, 265, 267, 269] (by decide +kernel) (by decide +kernel)
set_option maxRecDepth 20000 in
theorem uB1 : ∀ w ∈ wsX10, w ∈ lw_B := lb_ps [43, 45, 47, 49, 51, 53, 55, 57, 59] (by decide +kernel) (by decide +kernel)
set_option maxRecDepth 20000 in
theorem uB2 : ∀ w ∈ wsX20, w ∈ lw_B := lb_ps [140, 142, 144, 146] (by decide +kernel) (by decide +kernel)
set_option maxRecDepth 20000 in
theorem uB3 : ∀ w ∈ wsX30, w ∈ lw_B := lb_ps [520, 522, 524, 526, 528, 530, 532, 534, 536, 538, 540, 542] (by decide +kernel) (by decide +kernel)
set_option maxRecDepth 20000 in
theorem uB4 : ∀ w ∈ wsX40, w ∈ lw_B := lb_ps [196, 198, 200, 202, 204, 206, 208, 210] (by decide +kernel) (by decide +kernel)
set_option maxRecDepth 20000 in
theorem uB5 : ∀ w ∈ wsX50, w ∈ lw_B := lb_ps [81, 83, 85, 87, 89, 91, 93, 95, 97, 99, 101, 103, 105, 107, 109, 111, 113] (by decide +kernel) (by decide +kernel)
set_option maxRecDepth 20000 in
theorem uB6 : ∀ w ∈ wsX60, w ∈ lw_B := lb_ps [680, 682, 684, 686, 688, 690, 692, 694, 696, 698, 700, 702, 704, 706, 708, 710, 712, 714, 716, 718, 720, 722, 724, 726, 728, 730, 732, 734, 736, 738, 740, 742, 744, 746, 748, 750, 752, 754, 756, 758, 760, 762, 764, 766, 768, 770, 772, 774, 776, 778, 780] (by decide +kernel) (by decide +kernel)
end
section
theorem wm_0 : Cond.methodLink RX5 65 yX5_isWithin ∈ lw_B := lb_1 123 (by decide +kernel) rfl
theorem wm_1 : Cond.static yX5_isWithin ∈ lw_B := lb_1 124 (by decide +kernel) rfl
theorem wm_2 : Cond.initialized RX5 ∈ lw_B := lb_1 1 (by decide +kernel) rfl
theorem wm_3 : Cond.code yX5_isWithin cX5_isWithin 3 (some .boolean) ∈ lw_B := lb_1 125 (by decide +kernel) rfl
theorem wm_4 : Cond.methodLink RX6 136 yX6_in ∈ lw_B := lb_4 68 (by decide +kernel) rfl
theorem wm_5 : Cond.static yX6_in ∈ lw_B := lb_4 69 (by decide +kernel) rfl
theorem wm_6 : Cond.initialized RX6 ∈ lw_B := lb_1 3 (by decide +kernel) rfl
theorem wm_7 : Cond.code yX6_in cX6_in 3 (some .boolean) ∈ lw_B := lb_4 70 (by decide +kernel) rfl
theorem wm_8 : Cond.fieldLink RX5 55 "NoticeMarket" "pageCount" "I" ∈ lw_B := lb_1 71 (by decide +kernel) rfl
theorem wm_9 : Cond.fieldLink RX5 79 "NoticeMarket" "campaignCount" "I" ∈ lw_B := lb_1 72 (by decide +kernel) rfl
theorem wm_10 : Cond.fieldLink RX5 138 "NoticeMarket" "saleCount" "I" ∈ lw_B := lb_1 73 (by decide +kernel) rfl
theorem wm_11 : Cond.fieldLink RX6 133 "NoticeMarketModel" "pages" "I" ∈ lw_B := lb_3 154 (by decide +kernel) rfl
theorem wm_12 : Cond.fieldLink RX6 140 "NoticeMarketModel" "campaigns" "I" ∈ lw_B := lb_3 158 (by decide +kernel) rfl
theorem wm_13 : Cond.fieldLink RX6 161 "NoticeMarketModel" "sales" "I" ∈ lw_B := lb_3 174 (by decide +kernel) rfl
theorem wm_14 : Cond.methodLink RX5 85 yX5_isCampaign ∈ lw_B := lb_2 36 (by decide +kernel) rfl
theorem wm_15 : Cond.instanceMethod yX5_isCampaign ∈ lw_B := lb_2 38 (by decide +kernel) rfl
theorem wm_16 : Cond.selects RX5 yX5_isCampaign yX5_isCampaign ∈ lw_B := lb_0 0 (by decide +kernel) rfl
theorem wm_17 : Cond.code yX5_isCampaign cX5_isCampaign 2 (some .boolean) ∈ lw_B := lb_2 39 (by decide +kernel) rfl
theorem wm_18 : Cond.methodLink RX6 148 yX6_isCampaign ∈ lw_B := lb_4 87 (by decide +kernel) rfl
theorem wm_19 : Cond.instanceMethod yX6_isCampaign ∈ lw_B := lb_4 89 (by decide +kernel) rfl
theorem wm_20 : Cond.selects RX6 yX6_isCampaign yX6_isCampaign ∈ lw_B := lb_0 29 (by decide +kernel) rfl
theorem wm_21 : Cond.code yX6_isCampaign cX6_isCampaign 2 (some .boolean) ∈ lw_B := lb_4 90 (by decide +kernel) rfl
theorem wm_22 : Cond.methodLink RX5 61 yX5_isReader ∈ lw_B := lb_1 153 (by decide +kernel) rfl
theorem wm_23 : Cond.static yX5_isReader ∈ lw_B := lb_1 154 (by decide +kernel) rfl
theorem wm_24 : Cond.code yX5_isReader cX5_isReader 1 (some .boolean) ∈ lw_B := lb_1 155 (by decide +kernel) rfl
theorem wm_25 : Cond.methodLink RX5 135 yX5_isPage ∈ lw_B := lb_2 129 (by decide +kernel) rfl
theorem wm_26 : Cond.instanceMethod yX5_isPage ∈ lw_B := lb_2 131 (by decide +kernel) rfl
theorem wm_27 : Cond.selects RX5 yX5_isPage yX5_isPage ∈ lw_B := lb_0 8 (by decide +kernel) rfl
theorem wm_28 : Cond.code yX5_isPage cX5_isPage 2 (some .boolean) ∈ lw_B := lb_2 132 (by decide +kernel) rfl
theorem wm_29 : Cond.methodLink RX6 143 yX6_isReader ∈ lw_B := lb_4 75 (by decide +kernel) rfl
theorem wm_30 : Cond.static yX6_isReader ∈ lw_B := lb_4 76 (by decide +kernel) rfl
theorem wm_31 : Cond.code yX6_isReader cX6_isReader 1 (some .boolean) ∈ lw_B := lb_4 77 (by decide +kernel) rfl
theorem wm_32 : Cond.methodLink RX6 243 yX6_isPage ∈ lw_B := lb_4 137 (by decide +kernel) rfl
theorem wm_33 : Cond.instanceMethod yX6_isPage ∈ lw_B := lb_4 139 (by decide +kernel) rfl
theorem wm_34 : Cond.selects RX6 yX6_isPage yX6_isPage ∈ lw_B := lb_0 33 (by decide +kernel) rfl
theorem wm_35 : Cond.code yX6_isPage cX6_isPage 2 (some .boolean) ∈ lw_B := lb_4 140 (by decide +kernel) rfl
theorem wm_36 : Cond.constantLong RX5 159 (-1) ∈ lw_B := lb_3 89 (by decide +kernel) rfl
theorem wm_37 : Cond.constantLong RX6 263 (-1) ∈ lw_B := lb_4 218 (by decide +kernel) rfl
theorem wm_38 : Cond.methodLink RX5 164 yX5_isSale ∈ lw_B := lb_3 98 (by decide +kernel) rfl
theorem wm_39 : Cond.instanceMethod yX5_isSale ∈ lw_B := lb_3 100 (by decide +kernel) rfl
theorem wm_40 : Cond.selects RX5 yX5_isSale yX5_isSale ∈ lw_B := lb_0 25 (by decide +kernel) rfl
theorem wm_41 : Cond.code yX5_isSale cX5_isSale 2 (some .boolean) ∈ lw_B := lb_3 101 (by decide +kernel) rfl
theorem wm_42 : Cond.methodLink RX6 265 yX6_isSale ∈ lw_B := lb_4 227 (by decide +kernel) rfl
theorem wm_43 : Cond.instanceMethod yX6_isSale ∈ lw_B := lb_4 229 (by decide +kernel) rfl
theorem wm_44 : Cond.selects RX6 yX6_isSale yX6_isSale ∈ lw_B := lb_0 50 (by decide +kernel) rfl
theorem wm_45 : Cond.code yX6_isSale cX6_isSale 2 (some .boolean) ∈ lw_B := lb_4 230 (by decide +kernel) rfl
theorem wm_46 : Cond.constant RX5 229 (-2000000) ∈ lw_B := lb_3 126 (by decide +kernel) rfl
theorem wm_47 : Cond.constant RX6 268 (-2000000) ∈ lw_B := lb_5 3 (by decide +kernel) rfl
theorem wm_48 : Cond.fieldLink RX5 123 "NoticeMarket" "priceRule" "I" ∈ lw_B := lb_1 77 (by decide +kernel) rfl
theorem wm_49 : Cond.fieldLink RX6 155 "NoticeMarketModel" "rule" "I" ∈ lw_B := lb_3 151 (by decide +kernel) rfl
theorem wm_50 : Cond.fieldLink RX5 126 "NoticeMarket" "paceTicks" "I" ∈ lw_B := lb_1 78 (by decide +kernel) rfl
theorem wm_51 : Cond.fieldLink RX5 44 "NoticeMarket" "pressWait" "I" ∈ lw_B := lb_1 79 (by decide +kernel) rfl
theorem wm_52 : Cond.fieldLink RX6 158 "NoticeMarketModel" "pace" "I" ∈ lw_B := lb_3 152 (by decide +kernel) rfl
theorem wm_53 : Cond.fieldLink RX6 7 "NoticeMarketModel" "wait" "I" ∈ lw_B := lb_3 153 (by decide +kernel) rfl
theorem wm_54 : Cond.fieldLink RX5 108 "NoticeMarket" "now" "I" ∈ lw_B := lb_1 76 (by decide +kernel) rfl
theorem wm_55 : Cond.fieldLink RX5 226 "NoticeMarket" "backCount" "I" ∈ lw_B := lb_1 74 (by decide +kernel) rfl
theorem wm_56 : Cond.fieldLink RX5 273 "NoticeMarket" "spentInAll" "I" ∈ lw_B := lb_1 75 (by decide +kernel) rfl
theorem wm_57 : Cond.fieldLink RX6 152 "NoticeMarketModel" "tick" "I" ∈ lw_B := lb_3 150 (by decide +kernel) rfl
theorem wm_58 : Cond.fieldLink RX5 48 "NoticeMarket" "noneFreeBy" "I" ∈ lw_B := lb_1 80 (by decide +kernel) rfl
theorem wm_59 : Cond.methodLink RX5 283 yX5_closeDay ∈ lw_B := lb_2 95 (by decide +kernel) rfl
theorem wm_60 : Cond.instanceMethod yX5_closeDay ∈ lw_B := lb_2 97 (by decide +kernel) rfl
theorem wm_61 : Cond.selects RX5 yX5_closeDay yX5_closeDay ∈ lw_B := lb_0 3 (by decide +kernel) rfl
theorem wm_62 : Cond.code yX5_closeDay cX5_closeDay 2 none ∈ lw_B := lb_2 98 (by decide +kernel) rfl
theorem wm_63 : Cond.methodLink RX5 129 yX5_closeTick ∈ lw_B := lb_2 83 (by decide +kernel) rfl
theorem wm_64 : Cond.instanceMethod yX5_closeTick ∈ lw_B := lb_2 85 (by decide +kernel) rfl
theorem wm_65 : Cond.selects RX5 yX5_closeTick yX5_closeTick ∈ lw_B := lb_0 1 (by decide +kernel) rfl
theorem wm_66 : Cond.code yX5_closeTick cX5_closeTick 2 none ∈ lw_B := lb_2 86 (by decide +kernel) rfl
theorem wm_67 : Cond.methodLink RX5 132 yX5_goOneTick ∈ lw_B := lb_2 91 (by decide +kernel) rfl
theorem wm_68 : Cond.instanceMethod yX5_goOneTick ∈ lw_B := lb_2 93 (by decide +kernel) rfl
theorem wm_69 : Cond.selects RX5 yX5_goOneTick yX5_goOneTick ∈ lw_B := lb_0 2 (by decide +kernel) rfl
theorem wm_70 : Cond.code yX5_goOneTick cX5_goOneTick 1 none ∈ lw_B := lb_2 94 (by decide +kernel) rfl
theorem wm_71 : Cond.methodLink RX6 238 yX6_goesBy ∈ lw_B := lb_4 120 (by decide +kernel) rfl
theorem wm_72 : Cond.instanceMethod yX6_goesBy ∈ lw_B := lb_4 122 (by decide +kernel) rfl
theorem wm_73 : Cond.selects RX6 yX6_goesBy yX6_goesBy ∈ lw_B := lb_0 30 (by decide +kernel) rfl
theorem wm_74 : Cond.code yX6_goesBy cX6_goesBy 6 none ∈ lw_B := lb_4 123 (by decide +kernel) rfl
theorem wm_75 : Cond.fieldLink RX5 27 "NoticeMarket" "readerMarks" "[I" ∈ lw_B := lb_1 67 (by decide +kernel) rfl
theorem wm_76 : Cond.fieldLink RX6 20 "NoticeMarketModel" "marks" "[I" ∈ lw_B := lb_3 157 (by decide +kernel) rfl
theorem wm_77 : Cond.methodLink RX2 3 objectInit ∈ lw_B := lb_1 130 (by decide +kernel) rfl
theorem wm_78 : Cond.instanceMethod objectInit ∈ lw_B := lb_1 15 (by decide +kernel) rfl
theorem wm_79 : Cond.code objectInit ⟨#[0xb1]⟩ 1 none ∈ lw_B := lb_1 16 (by decide +kernel) rfl
theorem wm_80 : Cond.arrayClass .int ∈ lw_B := lb_1 62 (by decide +kernel) rfl
theorem wm_81 : Cond.fieldLink RX2 9 "NoticeMarket$Page" "sizes" "[I" ∈ lw_B := lb_1 134 (by decide +kernel) rfl
theorem wm_82 : Cond.fieldLink RX2 15 "NoticeMarket$Page" "places" "I" ∈ lw_B := lb_1 136 (by decide +kernel) rfl
theorem wm_83 : Cond.methodLink RX2 19 Lib.Math.min.name ∈ lw_B := lb_1 131 (by decide +kernel) rfl
theorem wm_84 : Cond.static Lib.Math.min.name ∈ lw_B := lb_1 132 (by decide +kernel) rfl
theorem wm_85 : Cond.initialized RJ9 ∈ lw_B := lb_1 5 (by decide +kernel) rfl
theorem wm_86 : Cond.code Lib.Math.min.name Lib.Math.min.code 2 (some .int) ∈ lw_B := lb_1 133 (by decide +kernel) rfl
theorem wm_87 : Cond.methodLink RX5 51 yX5_placesIn ∈ lw_B := lb_1 120 (by decide +kernel) rfl
theorem wm_88 : Cond.static yX5_placesIn ∈ lw_B := lb_1 121 (by decide +kernel) rfl
theorem wm_89 : Cond.code yX5_placesIn cX5_placesIn 3 (some .int) ∈ lw_B := lb_1 122 (by decide +kernel) rfl
theorem wm_90 : Cond.fieldLink RX5 11 "NoticeMarket" "pages" "[LNoticeMarket$Page;" ∈ lw_B := lb_1 64 (by decide +kernel) rfl
theorem wm_91 : Cond.classLink RX5 9 RX2 ∈ lw_B := lb_1 17 (by decide +kernel) rfl
theorem wm_92 : Cond.instantiable RX2 4 ∈ lw_B := lb_1 126 (by decide +kernel) rfl
theorem wm_93 : Cond.initialized RX2 ∈ lw_B := lb_1 4 (by decide +kernel) rfl
theorem wm_94 : Cond.methodLink RX5 58 yX2_init ∈ lw_B := lb_1 127 (by decide +kernel) rfl
theorem wm_95 : Cond.instanceMethod yX2_init ∈ lw_B := lb_1 128 (by decide +kernel) rfl
theorem wm_96 : Cond.code yX2_init cX2_init 5 none ∈ lw_B := lb_1 129 (by decide +kernel) rfl
theorem wm_97 : Cond.methodLink RX4 3 objectInit ∈ lw_B := lb_1 179 (by decide +kernel) rfl
theorem wm_98 : Cond.methodLink RX0 3 objectInit ∈ lw_B := lb_1 173 (by decide +kernel) rfl
theorem wm_99 : Cond.classLink RX0 9 RX4 ∈ lw_B := lb_1 174 (by decide +kernel) rfl
theorem wm_100 : Cond.instantiable RX4 8 ∈ lw_B := lb_1 175 (by decide +kernel) rfl
theorem wm_101 : Cond.initialized RX4 ∈ lw_B := lb_1 7 (by decide +kernel) rfl
theorem wm_102 : Cond.instanceMethod yX4_init ∈ lw_B := lb_1 177 (by decide +kernel) rfl
theorem wm_103 : Cond.code yX4_init cX4_init 1 none ∈ lw_B := lb_1 178 (by decide +kernel) rfl
theorem wm_104 : Cond.fieldLink RX0 12 "NoticeMarket$Campaign" "tally" "LNoticeMarket$Tally;" ∈ lw_B := lb_1 221 (by decide +kernel) rfl
theorem wm_105 : Cond.fieldLink RX0 18 "NoticeMarket$Campaign" "mostShowings" "I" ∈ lw_B := lb_1 227 (by decide +kernel) rfl
theorem wm_106 : Cond.fieldLink RX0 22 "NoticeMarket$Campaign" "capSpan" "I" ∈ lw_B := lb_1 229 (by decide +kernel) rfl
theorem wm_107 : Cond.fieldLink RX0 25 "NoticeMarket$Campaign" "throttle" "I" ∈ lw_B := lb_1 231 (by decide +kernel) rfl
theorem wm_108 : Cond.fieldLink RX0 28 "NoticeMarket$Campaign" "sort" "I" ∈ lw_B := lb_1 213 (by decide +kernel) rfl
theorem wm_109 : Cond.fieldLink RX0 31 "NoticeMarket$Campaign" "paysByPress" "Z" ∈ lw_B := lb_1 215 (by decide +kernel) rfl
theorem wm_110 : Cond.fieldLink RX0 35 "NoticeMarket$Campaign" "mustHave" "I" ∈ lw_B := lb_1 217 (by decide +kernel) rfl
theorem wm_111 : Cond.fieldLink RX0 38 "NoticeMarket$Campaign" "mustLack" "I" ∈ lw_B := lb_1 218 (by decide +kernel) rfl
theorem wm_112 : Cond.fieldLink RX0 41 "NoticeMarket$Campaign" "bid" "I" ∈ lw_B := lb_1 219 (by decide +kernel) rfl
theorem wm_113 : Cond.methodLink RX5 69 yX5_isSort ∈ lw_B := lb_1 160 (by decide +kernel) rfl
theorem wm_114 : Cond.static yX5_isSort ∈ lw_B := lb_1 161 (by decide +kernel) rfl
theorem wm_115 : Cond.code yX5_isSort cX5_isSort 1 (some .boolean) ∈ lw_B := lb_1 162 (by decide +kernel) rfl
theorem wm_116 : Cond.methodLink RX5 72 yX5_isWish ∈ lw_B := lb_1 163 (by decide +kernel) rfl
theorem wm_117 : Cond.static yX5_isWish ∈ lw_B := lb_1 164 (by decide +kernel) rfl
theorem wm_118 : Cond.code yX5_isWish cX5_isWish 1 (some .boolean) ∈ lw_B := lb_1 165 (by decide +kernel) rfl
theorem wm_119 : Cond.methodLink RX5 75 yX5_isBid ∈ lw_B := lb_1 166 (by decide +kernel) rfl
theorem wm_120 : Cond.static yX5_isBid ∈ lw_B := lb_1 167 (by decide +kernel) rfl
theorem wm_121 : Cond.code yX5_isBid cX5_isBid 2 (some .boolean) ∈ lw_B := lb_1 168 (by decide +kernel) rfl
theorem wm_122 : Cond.fieldLink RX5 17 "NoticeMarket" "campaigns" "[LNoticeMarket$Campaign;" ∈ lw_B := lb_1 65 (by decide +kernel) rfl
theorem wm_123 : Cond.classLink RX5 15 RX0 ∈ lw_B := lb_1 19 (by decide +kernel) rfl
theorem wm_124 : Cond.instantiable RX0 16 ∈ lw_B := lb_1 169 (by decide +kernel) rfl
theorem wm_125 : Cond.initialized RX0 ∈ lw_B := lb_1 6 (by decide +kernel) rfl
theorem wm_126 : Cond.methodLink RX5 82 yX0_init ∈ lw_B := lb_1 170 (by decide +kernel) rfl
theorem wm_127 : Cond.instanceMethod yX0_init ∈ lw_B := lb_1 171 (by decide +kernel) rfl
theorem wm_128 : Cond.code yX0_init cX0_init 4 none ∈ lw_B := lb_1 172 (by decide +kernel) rfl
theorem wm_129 : Cond.constant RX6 147 (16777215) ∈ lw_B := lb_4 82 (by decide +kernel) rfl
theorem wm_130 : Cond.fieldLink RX6 23 "NoticeMarketModel" "sort" "[I" ∈ lw_B := lb_3 159 (by decide +kernel) rfl
theorem wm_131 : Cond.fieldLink RX6 26 "NoticeMarketModel" "pays" "[I" ∈ lw_B := lb_3 160 (by decide +kernel) rfl
theorem wm_132 : Cond.fieldLink RX6 29 "NoticeMarketModel" "must" "[I" ∈ lw_B := lb_3 161 (by decide +kernel) rfl
theorem wm_133 : Cond.fieldLink RX6 32 "NoticeMarketModel" "never" "[I" ∈ lw_B := lb_3 162 (by decide +kernel) rfl
theorem wm_134 : Cond.fieldLink RX6 35 "NoticeMarketModel" "bid" "[I" ∈ lw_B := lb_3 163 (by decide +kernel) rfl
theorem wm_135 : Cond.fieldLink RX6 44 "NoticeMarketModel" "cap" "[I" ∈ lw_B := lb_3 166 (by decide +kernel) rfl
theorem wm_136 : Cond.fieldLink RX6 47 "NoticeMarketModel" "span" "[I" ∈ lw_B := lb_3 167 (by decide +kernel) rfl
theorem wm_137 : Cond.fieldLink RX6 50 "NoticeMarketModel" "throttle" "[I" ∈ lw_B := lb_3 168 (by decide +kernel) rfl
theorem wm_138 : Cond.fieldLink RX6 60 "NoticeMarketModel" "promised" "[I" ∈ lw_B := lb_3 171 (by decide +kernel) rfl
theorem wm_139 : Cond.fieldLink RX6 13 "NoticeMarketModel" "places" "[I" ∈ lw_B := lb_3 155 (by decide +kernel) rfl
theorem wm_140 : Cond.fieldLink RX6 17 "NoticeMarketModel" "sizes" "[I" ∈ lw_B := lb_3 156 (by decide +kernel) rfl
theorem dX5_isWithin_0 : decode cX5_isWithin 0 = .ok (.iload_n 0, 1) := by decide +kernel
theorem dX5_isWithin_1 : decode cX5_isWithin 1 = .ok (.iload_n 1, 1) := by decide +kernel
theorem dX5_isWithin_2 : decode cX5_isWithin 2 = .ok (.if_icmp .lt 12, 3) := by decide +kernel
theorem dX5_isWithin_5 : decode cX5_isWithin 5 = .ok (.iload_n 0, 1) := by decide +kernel
theorem dX5_isWithin_6 : decode cX5_isWithin 6 = .ok (.iload_n 2, 1) := by decide +kernel
theorem dX5_isWithin_7 : decode cX5_isWithin 7 = .ok (.if_icmp .gt 7, 3) := by decide +kernel
theorem dX5_isWithin_10 : decode cX5_isWithin 10 = .ok (.iconst 1, 1) := by decide +kernel
theorem dX5_isWithin_11 : decode cX5_isWithin 11 = .ok (.goto 4, 3) := by decide +kernel
theorem dX5_isWithin_14 : decode cX5_isWithin 14 = .ok (.iconst 0, 1) := by decide +kernel
theorem dX5_isWithin_15 : decode cX5_isWithin 15 = .ok (.ireturn, 1) := by decide +kernel
theorem dX6_in_0 : decode cX6_in 0 = .ok (.iload_n 0, 1) := by decide +kernel
theorem dX6_in_1 : decode cX6_in 1 = .ok (.iload_n 1, 1) := by decide +kernel
theorem dX6_in_2 : decode cX6_in 2 = .ok (.if_icmp .lt 12, 3) := by decide +kernel
theorem dX6_in_5 : decode cX6_in 5 = .ok (.iload_n 0, 1) := by decide +kernel
theorem dX6_in_6 : decode cX6_in 6 = .ok (.iload_n 2, 1) := by decide +kernel
theorem dX6_in_7 : decode cX6_in 7 = .ok (.if_icmp .gt 7, 3) := by decide +kernel
theorem dX6_in_10 : decode cX6_in 10 = .ok (.iconst 1, 1) := by decide +kernel
theorem dX6_in_11 : decode cX6_in 11 = .ok (.goto 4, 3) := by decide +kernel
theorem dX6_in_14 : decode cX6_in 14 = .ok (.iconst 0, 1) := by decide +kernel
theorem dX6_in_15 : decode cX6_in 15 = .ok (.ireturn, 1) := by decide +kernel
theorem dX5_isReader_0 : decode cX5_isReader 0 = .ok (.iload_n 0, 1) := by decide +kernel
theorem dX5_isReader_1 : decode cX5_isReader 1 = .ok (.ifCond .lt 13, 3) := by decide +kernel
theorem dX5_isReader_4 : decode cX5_isReader 4 = .ok (.iload_n 0, 1) := by decide +kernel
theorem dX5_isReader_5 : decode cX5_isReader 5 = .ok (.bipush 100, 2) := by decide +kernel
theorem dX5_isReader_7 : decode cX5_isReader 7 = .ok (.if_icmp .ge 7, 3) := by decide +kernel
theorem dX5_isReader_10 : decode cX5_isReader 10 = .ok (.iconst 1, 1) := by decide +kernel
theorem dX5_isReader_11 : decode cX5_isReader 11 = .ok (.goto 4, 3) := by decide +kernel
theorem dX5_isReader_14 : decode cX5_isReader 14 = .ok (.iconst 0, 1) := by decide +kernel
theorem dX5_isReader_15 : decode cX5_isReader 15 = .ok (.ireturn, 1) := by decide +kernel
theorem dX5_isSort_0 : decode cX5_isSort 0 = .ok (.iload_n 0, 1) := by decide +kernel
theorem dX5_isSort_1 : decode cX5_isSort 1 = .ok (.ifCond .eq 20, 3) := by decide +kernel
theorem dX5_isSort_4 : decode cX5_isSort 4 = .ok (.iload_n 0, 1) := by decide +kernel
theorem dX5_isSort_5 : decode cX5_isSort 5 = .ok (.iconst 1, 1) := by decide +kernel
theorem dX5_isSort_6 : decode cX5_isSort 6 = .ok (.if_icmp .eq 15, 3) := by decide +kernel
theorem dX5_isSort_9 : decode cX5_isSort 9 = .ok (.iload_n 0, 1) := by decide +kernel
theorem dX5_isSort_10 : decode cX5_isSort 10 = .ok (.bipush 10, 2) := by decide +kernel
theorem dX5_isSort_12 : decode cX5_isSort 12 = .ok (.if_icmp .eq 9, 3) := by decide +kernel
theorem dX5_isSort_15 : decode cX5_isSort 15 = .ok (.iload_n 0, 1) := by decide +kernel
theorem dX5_isSort_16 : decode cX5_isSort 16 = .ok (.bipush 20, 2) := by decide +kernel
theorem dX5_isSort_18 : decode cX5_isSort 18 = .ok (.if_icmp .ne 7, 3) := by decide +kernel
theorem dX5_isSort_21 : decode cX5_isSort 21 = .ok (.iconst 1, 1) := by decide +kernel
theorem dX5_isSort_22 : decode cX5_isSort 22 = .ok (.goto 4, 3) := by decide +kernel
theorem dX5_isSort_25 : decode cX5_isSort 25 = .ok (.iconst 0, 1) := by decide +kernel
theorem dX5_isSort_26 : decode cX5_isSort 26 = .ok (.ireturn, 1) := by decide +kernel
theorem dX5_isWish_0 : decode cX5_isWish 0 = .ok (.iload_n 0, 1) := by decide +kernel
theorem dX5_isWish_1 : decode cX5_isWish 1 = .ok (.ifCond .lt 14, 3) := by decide +kernel
theorem dX5_isWish_4 : decode cX5_isWish 4 = .ok (.iload_n 0, 1) := by decide +kernel
theorem dX5_isWish_5 : decode cX5_isWish 5 = .ok (.sipush 4096, 3) := by decide +kernel
theorem dX5_isWish_8 : decode cX5_isWish 8 = .ok (.idiv, 1) := by decide +kernel
theorem dX5_isWish_9 : decode cX5_isWish 9 = .ok (.sipush 4095, 3) := by decide +kernel
theorem dX5_isWish_12 : decode cX5_isWish 12 = .ok (.if_icmp .le 5, 3) := by decide +kernel
theorem dX5_isWish_15 : decode cX5_isWish 15 = .ok (.iconst 0, 1) := by decide +kernel
theorem dX5_isWish_16 : decode cX5_isWish 16 = .ok (.ireturn, 1) := by decide +kernel
theorem dX5_isWish_17 : decode cX5_isWish 17 = .ok (.iload_n 0, 1) := by decide +kernel
theorem dX5_isWish_18 : decode cX5_isWish 18 = .ok (.sipush 4096, 3) := by decide +kernel
theorem dX5_isWish_21 : decode cX5_isWish 21 = .ok (.idiv, 1) := by decide +kernel
theorem dX5_isWish_22 : decode cX5_isWish 22 = .ok (.iload_n 0, 1) := by decide +kernel
theorem dX5_isWish_23 : decode cX5_isWish 23 = .ok (.sipush 4096, 3) := by decide +kernel
theorem dX5_isWish_26 : decode cX5_isWish 26 = .ok (.irem, 1) := by decide +kernel
theorem dX5_isWish_27 : decode cX5_isWish 27 = .ok (.iand, 1) := by decide +kernel
theorem dX5_isWish_28 : decode cX5_isWish 28 = .ok (.ifCond .ne 7, 3) := by decide +kernel
theorem dX5_isWish_31 : decode cX5_isWish 31 = .ok (.iconst 1, 1) := by decide +kernel
theorem dX5_isWish_32 : decode cX5_isWish 32 = .ok (.goto 4, 3) := by decide +kernel
theorem dX5_isWish_35 : decode cX5_isWish 35 = .ok (.iconst 0, 1) := by decide +kernel
theorem dX5_isWish_36 : decode cX5_isWish 36 = .ok (.ireturn, 1) := by decide +kernel
theorem dX5_isBid_0 : decode cX5_isBid 0 = .ok (.iload_n 0, 1) := by decide +kernel
theorem dX5_isBid_1 : decode cX5_isBid 1 = .ok (.iconst 2, 1) := by decide +kernel
theorem dX5_isBid_2 : decode cX5_isBid 2 = .ok (.if_icmp .ne 15, 3) := by decide +kernel
theorem dX5_isBid_5 : decode cX5_isBid 5 = .ok (.iload_n 1, 1) := by decide +kernel
theorem dX5_isBid_6 : decode cX5_isBid 6 = .ok (.ifCond .ne 7, 3) := by decide +kernel
theorem dX5_isBid_9 : decode cX5_isBid 9 = .ok (.iconst 1, 1) := by decide +kernel
theorem dX5_isBid_10 : decode cX5_isBid 10 = .ok (.goto 15, 3) := by decide +kernel
theorem dX5_isBid_13 : decode cX5_isBid 13 = .ok (.iconst 0, 1) := by decide +kernel
theorem dX5_isBid_14 : decode cX5_isBid 14 = .ok (.goto 11, 3) := by decide +kernel
theorem dX5_isBid_17 : decode cX5_isBid 17 = .ok (.iload_n 1, 1) := by decide +kernel
theorem dX5_isBid_18 : decode cX5_isBid 18 = .ok (.iconst 1, 1) := by decide +kernel
theorem dX5_isBid_19 : decode cX5_isBid 19 = .ok (.sipush 1000, 3) := by decide +kernel
theorem dX5_isBid_22 : decode cX5_isBid 22 = .ok (.invokestatic 65, 3) := by decide +kernel
theorem dX5_isBid_25 : decode cX5_isBid 25 = .ok (.ireturn, 1) := by decide +kernel
theorem dX6_isReader_0 : decode cX6_isReader 0 = .ok (.iload_n 0, 1) := by decide +kernel
theorem dX6_isReader_1 : decode cX6_isReader 1 = .ok (.iconst 0, 1) := by decide +kernel
theorem dX6_isReader_2 : decode cX6_isReader 2 = .ok (.bipush 99, 2) := by decide +kernel
theorem dX6_isReader_4 : decode cX6_isReader 4 = .ok (.invokestatic 136, 3) := by decide +kernel
theorem dX6_isReader_7 : decode cX6_isReader 7 = .ok (.ireturn, 1) := by decide +kernel
theorem dX5_isPage_0 : decode cX5_isPage 0 = .ok (.iload_n 1, 1) := by decide +kernel
theorem dX5_isPage_1 : decode cX5_isPage 1 = .ok (.ifCond .lt 15, 3) := by decide +kernel
theorem dX5_isPage_4 : decode cX5_isPage 4 = .ok (.iload_n 1, 1) := by decide +kernel
theorem dX5_isPage_5 : decode cX5_isPage 5 = .ok (.aload_n 0, 1) := by decide +kernel
theorem dX5_isPage_6 : decode cX5_isPage 6 = .ok (.getfield 55, 3) := by decide +kernel
theorem dX5_isPage_9 : decode cX5_isPage 9 = .ok (.if_icmp .ge 7, 3) := by decide +kernel
theorem dX5_isPage_12 : decode cX5_isPage 12 = .ok (.iconst 1, 1) := by decide +kernel
theorem dX5_isPage_13 : decode cX5_isPage 13 = .ok (.goto 4, 3) := by decide +kernel
theorem dX5_isPage_16 : decode cX5_isPage 16 = .ok (.iconst 0, 1) := by decide +kernel
theorem dX5_isPage_17 : decode cX5_isPage 17 = .ok (.ireturn, 1) := by decide +kernel
theorem dX5_isCampaign_0 : decode cX5_isCampaign 0 = .ok (.iload_n 1, 1) := by decide +kernel
theorem dX5_isCampaign_1 : decode cX5_isCampaign 1 = .ok (.ifCond .lt 15, 3) := by decide +kernel
theorem dX5_isCampaign_4 : decode cX5_isCampaign 4 = .ok (.iload_n 1, 1) := by decide +kernel
theorem dX5_isCampaign_5 : decode cX5_isCampaign 5 = .ok (.aload_n 0, 1) := by decide +kernel
theorem dX5_isCampaign_6 : decode cX5_isCampaign 6 = .ok (.getfield 79, 3) := by decide +kernel
theorem dX5_isCampaign_9 : decode cX5_isCampaign 9 = .ok (.if_icmp .ge 7, 3) := by decide +kernel
theorem dX5_isCampaign_12 : decode cX5_isCampaign 12 = .ok (.iconst 1, 1) := by decide +kernel
theorem dX5_isCampaign_13 : decode cX5_isCampaign 13 = .ok (.goto 4, 3) := by decide +kernel
theorem dX5_isCampaign_16 : decode cX5_isCampaign 16 = .ok (.iconst 0, 1) := by decide +kernel
theorem dX5_isCampaign_17 : decode cX5_isCampaign 17 = .ok (.ireturn, 1) := by decide +kernel
theorem dX5_isSale_0 : decode cX5_isSale 0 = .ok (.iload_n 1, 1) := by decide +kernel
theorem dX5_isSale_1 : decode cX5_isSale 1 = .ok (.ifCond .lt 15, 3) := by decide +kernel
theorem dX5_isSale_4 : decode cX5_isSale 4 = .ok (.iload_n 1, 1) := by decide +kernel
theorem dX5_isSale_5 : decode cX5_isSale 5 = .ok (.aload_n 0, 1) := by decide +kernel
theorem dX5_isSale_6 : decode cX5_isSale 6 = .ok (.getfield 138, 3) := by decide +kernel
theorem dX5_isSale_9 : decode cX5_isSale 9 = .ok (.if_icmp .ge 7, 3) := by decide +kernel
theorem dX5_isSale_12 : decode cX5_isSale 12 = .ok (.iconst 1, 1) := by decide +kernel
theorem dX5_isSale_13 : decode cX5_isSale 13 = .ok (.goto 4, 3) := by decide +kernel
theorem dX5_isSale_16 : decode cX5_isSale 16 = .ok (.iconst 0, 1) := by decide +kernel
theorem dX5_isSale_17 : decode cX5_isSale 17 = .ok (.ireturn, 1) := by decide +kernel
theorem dX6_isPage_0 : decode cX6_isPage 0 = .ok (.iload_n 1, 1) := by decide +kernel
theorem dX6_isPage_1 : decode cX6_isPage 1 = .ok (.iconst 0, 1) := by decide +kernel
theorem dX6_isPage_2 : decode cX6_isPage 2 = .ok (.aload_n 0, 1) := by decide +kernel
theorem dX6_isPage_3 : decode cX6_isPage 3 = .ok (.getfield 133, 3) := by decide +kernel
theorem dX6_isPage_6 : decode cX6_isPage 6 = .ok (.iconst 1, 1) := by decide +kernel
theorem dX6_isPage_7 : decode cX6_isPage 7 = .ok (.isub, 1) := by decide +kernel
theorem dX6_isPage_8 : decode cX6_isPage 8 = .ok (.invokestatic 136, 3) := by decide +kernel
theorem dX6_isPage_11 : decode cX6_isPage 11 = .ok (.ireturn, 1) := by decide +kernel
theorem dX6_isCampaign_0 : decode cX6_isCampaign 0 = .ok (.iload_n 1, 1) := by decide +kernel
theorem dX6_isCampaign_1 : decode cX6_isCampaign 1 = .ok (.iconst 0, 1) := by decide +kernel
theorem dX6_isCampaign_2 : decode cX6_isCampaign 2 = .ok (.aload_n 0, 1) := by decide +kernel
theorem dX6_isCampaign_3 : decode cX6_isCampaign 3 = .ok (.getfield 140, 3) := by decide +kernel
theorem dX6_isCampaign_6 : decode cX6_isCampaign 6 = .ok (.iconst 1, 1) := by decide +kernel
theorem dX6_isCampaign_7 : decode cX6_isCampaign 7 = .ok (.isub, 1) := by decide +kernel
theorem dX6_isCampaign_8 : decode cX6_isCampaign 8 = .ok (.invokestatic 136, 3) := by decide +kernel
theorem dX6_isCampaign_11 : decode cX6_isCampaign 11 = .ok (.ireturn, 1) := by decide +kernel
theorem dX6_isSale_0 : decode cX6_isSale 0 = .ok (.iload_n 1, 1) := by decide +kernel
theorem dX6_isSale_1 : decode cX6_isSale 1 = .ok (.iconst 0, 1) := by decide +kernel
theorem dX6_isSale_2 : decode cX6_isSale 2 = .ok (.aload_n 0, 1) := by decide +kernel
theorem dX6_isSale_3 : decode cX6_isSale 3 = .ok (.getfield 161, 3) := by decide +kernel
theorem dX6_isSale_6 : decode cX6_isSale 6 = .ok (.iconst 1, 1) := by decide +kernel
theorem dX6_isSale_7 : decode cX6_isSale 7 = .ok (.isub, 1) := by decide +kernel
theorem dX6_isSale_8 : decode cX6_isSale 8 = .ok (.invokestatic 136, 3) := by decide +kernel
theorem dX6_isSale_11 : decode cX6_isSale 11 = .ok (.ireturn, 1) := by decide +kernel
theorem dX5_budget_0 : decode cX5_budget 0 = .ok (.aload_n 0, 1) := by decide +kernel
theorem dX5_budget_1 : decode cX5_budget 1 = .ok (.iload_n 1, 1) := by decide +kernel
theorem dX5_budget_2 : decode cX5_budget 2 = .ok (.invokevirtual 85, 3) := by decide +kernel
theorem dX5_budget_5 : decode cX5_budget 5 = .ok (.ifCond .eq 23, 3) := by decide +kernel
theorem dX5_budget_28 : decode cX5_budget 28 = .ok (.iconst (-1), 1) := by decide +kernel
theorem dX5_budget_29 : decode cX5_budget 29 = .ok (.ireturn, 1) := by decide +kernel
theorem dX6_budget_0 : decode cX6_budget 0 = .ok (.aload_n 0, 1) := by decide +kernel
theorem dX6_budget_1 : decode cX6_budget 1 = .ok (.iload_n 1, 1) := by decide +kernel
theorem dX6_budget_2 : decode cX6_budget 2 = .ok (.invokevirtual 148, 3) := by decide +kernel
theorem dX6_budget_5 : decode cX6_budget 5 = .ok (.ifCond .eq 23, 3) := by decide +kernel
theorem dX6_budget_28 : decode cX6_budget 28 = .ok (.iconst (-1), 1) := by decide +kernel
theorem dX6_budget_29 : decode cX6_budget 29 = .ok (.ireturn, 1) := by decide +kernel
theorem dX5_cap_0 : decode cX5_cap 0 = .ok (.aload_n 0, 1) := by decide +kernel
theorem dX5_cap_1 : decode cX5_cap 1 = .ok (.iload_n 1, 1) := by decide +kernel
theorem dX5_cap_2 : decode cX5_cap 2 = .ok (.invokevirtual 85, 3) := by decide +kernel
theorem dX5_cap_5 : decode cX5_cap 5 = .ok (.ifCond .eq 24, 3) := by decide +kernel
theorem dX5_cap_29 : decode cX5_cap 29 = .ok (.iconst (-1), 1) := by decide +kernel
theorem dX5_cap_30 : decode cX5_cap 30 = .ok (.ireturn, 1) := by decide +kernel
theorem dX6_cap_0 : decode cX6_cap 0 = .ok (.aload_n 0, 1) := by decide +kernel
theorem dX6_cap_1 : decode cX6_cap 1 = .ok (.iload_n 1, 1) := by decide +kernel
theorem dX6_cap_2 : decode cX6_cap 2 = .ok (.invokevirtual 148, 3) := by decide +kernel
theorem dX6_cap_5 : decode cX6_cap 5 = .ok (.ifCond .eq 24, 3) := by decide +kernel
theorem dX6_cap_29 : decode cX6_cap 29 = .ok (.iconst (-1), 1) := by decide +kernel
theorem dX6_cap_30 : decode cX6_cap 30 = .ok (.ireturn, 1) := by decide +kernel
theorem dX5_apart_0 : decode cX5_apart 0 = .ok (.aload_n 0, 1) := by decide +kernel
theorem dX5_apart_1 : decode cX5_apart 1 = .ok (.iload_n 1, 1) := by decide +kernel
theorem dX5_apart_2 : decode cX5_apart 2 = .ok (.invokevirtual 85, 3) := by decide +kernel
theorem dX5_apart_5 : decode cX5_apart 5 = .ok (.ifCond .eq 25, 3) := by decide +kernel
theorem dX5_apart_30 : decode cX5_apart 30 = .ok (.iconst (-1), 1) := by decide +kernel
theorem dX5_apart_31 : decode cX5_apart 31 = .ok (.ireturn, 1) := by decide +kernel
theorem dX6_apart_0 : decode cX6_apart 0 = .ok (.aload_n 0, 1) := by decide +kernel
theorem dX6_apart_1 : decode cX6_apart 1 = .ok (.iload_n 1, 1) := by decide +kernel
theorem dX6_apart_2 : decode cX6_apart 2 = .ok (.invokevirtual 148, 3) := by decide +kernel
theorem dX6_apart_5 : decode cX6_apart 5 = .ok (.ifCond .eq 25, 3) := by decide +kernel
theorem dX6_apart_30 : decode cX6_apart 30 = .ok (.iconst (-1), 1) := by decide +kernel
theorem dX6_apart_31 : decode cX6_apart 31 = .ok (.ireturn, 1) := by decide +kernel
theorem dX5_promise_0 : decode cX5_promise 0 = .ok (.aload_n 0, 1) := by decide +kernel
theorem dX5_promise_1 : decode cX5_promise 1 = .ok (.iload_n 1, 1) := by decide +kernel
theorem dX5_promise_2 : decode cX5_promise 2 = .ok (.invokevirtual 85, 3) := by decide +kernel
theorem dX5_promise_5 : decode cX5_promise 5 = .ok (.ifCond .eq 25, 3) := by decide +kernel
theorem dX5_promise_30 : decode cX5_promise 30 = .ok (.iconst (-1), 1) := by decide +kernel
theorem dX5_promise_31 : decode cX5_promise 31 = .ok (.ireturn, 1) := by decide +kernel
theorem dX6_promise_0 : decode cX6_promise 0 = .ok (.aload_n 0, 1) := by decide +kernel
theorem dX6_promise_1 : decode cX6_promise 1 = .ok (.iload_n 1, 1) := by decide +kernel
theorem dX6_promise_2 : decode cX6_promise 2 = .ok (.invokevirtual 148, 3) := by decide +kernel
theorem dX6_promise_5 : decode cX6_promise 5 = .ok (.ifCond .eq 35, 3) := by decide +kernel
theorem dX6_promise_40 : decode cX6_promise 40 = .ok (.iconst (-1), 1) := by decide +kernel
theorem dX6_promise_41 : decode cX6_promise 41 = .ok (.ireturn, 1) := by decide +kernel
theorem dX5_stop_0 : decode cX5_stop 0 = .ok (.aload_n 0, 1) := by decide +kernel
theorem dX5_stop_1 : decode cX5_stop 1 = .ok (.iload_n 1, 1) := by decide +kernel
theorem dX5_stop_2 : decode cX5_stop 2 = .ok (.invokevirtual 85, 3) := by decide +kernel
theorem dX5_stop_5 : decode cX5_stop 5 = .ok (.ifCond .eq 12, 3) := by decide +kernel
theorem dX5_stop_17 : decode cX5_stop 17 = .ok (.iconst (-1), 1) := by decide +kernel
theorem dX5_stop_18 : decode cX5_stop 18 = .ok (.ireturn, 1) := by decide +kernel
theorem dX6_stop_0 : decode cX6_stop 0 = .ok (.aload_n 0, 1) := by decide +kernel
theorem dX6_stop_1 : decode cX6_stop 1 = .ok (.iload_n 1, 1) := by decide +kernel
theorem dX6_stop_2 : decode cX6_stop 2 = .ok (.invokevirtual 148, 3) := by decide +kernel
theorem dX6_stop_5 : decode cX6_stop 5 = .ok (.ifCond .eq 12, 3) := by decide +kernel
theorem dX6_stop_17 : decode cX6_stop 17 = .ok (.iconst (-1), 1) := by decide +kernel
theorem dX6_stop_18 : decode cX6_stop 18 = .ok (.ireturn, 1) := by decide +kernel
theorem dX5_come_0 : decode cX5_come 0 = .ok (.iload_n 1, 1) := by decide +kernel
theorem dX5_come_1 : decode cX5_come 1 = .ok (.invokestatic 61, 3) := by decide +kernel
theorem dX5_come_4 : decode cX5_come 4 = .ok (.ifCond .eq 11, 3) := by decide +kernel
theorem dX5_come_7 : decode cX5_come 7 = .ok (.aload_n 0, 1) := by decide +kernel
theorem dX5_come_8 : decode cX5_come 8 = .ok (.iload_n 2, 1) := by decide +kernel
theorem dX5_come_9 : decode cX5_come 9 = .ok (.invokevirtual 135, 3) := by decide +kernel
theorem dX5_come_12 : decode cX5_come 12 = .ok (.ifCond .ne 5, 3) := by decide +kernel
theorem dX5_come_15 : decode cX5_come 15 = .ok (.iconst (-1), 1) := by decide +kernel
theorem dX5_come_16 : decode cX5_come 16 = .ok (.ireturn, 1) := by decide +kernel
theorem dX6_come_0 : decode cX6_come 0 = .ok (.iload_n 1, 1) := by decide +kernel
theorem dX6_come_1 : decode cX6_come 1 = .ok (.invokestatic 143, 3) := by decide +kernel
theorem dX6_come_4 : decode cX6_come 4 = .ok (.ifCond .eq 11, 3) := by decide +kernel
theorem dX6_come_7 : decode cX6_come 7 = .ok (.aload_n 0, 1) := by decide +kernel
theorem dX6_come_8 : decode cX6_come 8 = .ok (.iload_n 2, 1) := by decide +kernel
theorem dX6_come_9 : decode cX6_come 9 = .ok (.invokevirtual 243, 3) := by decide +kernel
theorem dX6_come_12 : decode cX6_come 12 = .ok (.ifCond .ne 5, 3) := by decide +kernel
theorem dX6_come_15 : decode cX6_come 15 = .ok (.iconst (-1), 1) := by decide +kernel
theorem dX6_come_16 : decode cX6_come 16 = .ok (.ireturn, 1) := by decide +kernel
theorem dX5_why_0 : decode cX5_why 0 = .ok (.aload_n 0, 1) := by decide +kernel
theorem dX5_why_1 : decode cX5_why 1 = .ok (.iload_n 1, 1) := by decide +kernel
theorem dX5_why_2 : decode cX5_why 2 = .ok (.invokevirtual 85, 3) := by decide +kernel
theorem dX5_why_5 : decode cX5_why 5 = .ok (.ifCond .eq 18, 3) := by decide +kernel
theorem dX5_why_23 : decode cX5_why 23 = .ok (.iconst (-1), 1) := by decide +kernel
theorem dX5_why_24 : decode cX5_why 24 = .ok (.ireturn, 1) := by decide +kernel
theorem dX6_why_0 : decode cX6_why 0 = .ok (.aload_n 0, 1) := by decide +kernel
theorem dX6_why_1 : decode cX6_why 1 = .ok (.iload_n 1, 1) := by decide +kernel
theorem dX6_why_2 : decode cX6_why 2 = .ok (.invokevirtual 148, 3) := by decide +kernel
theorem dX6_why_5 : decode cX6_why 5 = .ok (.ifCond .eq 28, 3) := by decide +kernel
theorem dX6_why_33 : decode cX6_why 33 = .ok (.iconst (-1), 1) := by decide +kernel
theorem dX6_why_34 : decode cX6_why 34 = .ok (.ireturn, 1) := by decide +kernel
theorem dX5_best_0 : decode cX5_best 0 = .ok (.iload_n 1, 1) := by decide +kernel
theorem dX5_best_1 : decode cX5_best 1 = .ok (.invokestatic 61, 3) := by decide +kernel
theorem dX5_best_4 : decode cX5_best 4 = .ok (.ifCond .eq 11, 3) := by decide +kernel
theorem dX5_best_7 : decode cX5_best 7 = .ok (.aload_n 0, 1) := by decide +kernel
theorem dX5_best_8 : decode cX5_best 8 = .ok (.iload_n 2, 1) := by decide +kernel
theorem dX5_best_9 : decode cX5_best 9 = .ok (.invokevirtual 135, 3) := by decide +kernel
theorem dX5_best_12 : decode cX5_best 12 = .ok (.ifCond .ne 7, 3) := by decide +kernel
theorem dX5_best_15 : decode cX5_best 15 = .ok (.ldc2_w 159, 3) := by decide +kernel
theorem dX5_best_18 : decode cX5_best 18 = .ok (.lreturn, 1) := by decide +kernel
theorem dX6_best_0 : decode cX6_best 0 = .ok (.iload_n 1, 1) := by decide +kernel
theorem dX6_best_1 : decode cX6_best 1 = .ok (.invokestatic 143, 3) := by decide +kernel
theorem dX6_best_4 : decode cX6_best 4 = .ok (.ifCond .eq 20, 3) := by decide +kernel
theorem dX6_best_7 : decode cX6_best 7 = .ok (.aload_n 0, 1) := by decide +kernel
theorem dX6_best_8 : decode cX6_best 8 = .ok (.iload_n 2, 1) := by decide +kernel
theorem dX6_best_9 : decode cX6_best 9 = .ok (.invokevirtual 243, 3) := by decide +kernel
theorem dX6_best_12 : decode cX6_best 12 = .ok (.ifCond .eq 12, 3) := by decide +kernel
theorem dX6_best_24 : decode cX6_best 24 = .ok (.ldc2_w 263, 3) := by decide +kernel
theorem dX6_best_27 : decode cX6_best 27 = .ok (.lreturn, 1) := by decide +kernel
theorem dX5_give_0 : decode cX5_give 0 = .ok (.iload_n 1, 1) := by decide +kernel
theorem dX5_give_1 : decode cX5_give 1 = .ok (.invokestatic 61, 3) := by decide +kernel
theorem dX5_give_4 : decode cX5_give 4 = .ok (.ifCond .eq 30, 3) := by decide +kernel
theorem dX5_give_7 : decode cX5_give 7 = .ok (.aload_n 0, 1) := by decide +kernel
theorem dX5_give_8 : decode cX5_give 8 = .ok (.iload_n 2, 1) := by decide +kernel
theorem dX5_give_9 : decode cX5_give 9 = .ok (.invokevirtual 135, 3) := by decide +kernel
theorem dX5_give_12 : decode cX5_give 12 = .ok (.ifCond .eq 22, 3) := by decide +kernel
theorem dX5_give_34 : decode cX5_give 34 = .ok (.iconst (-1), 1) := by decide +kernel
theorem dX5_give_35 : decode cX5_give 35 = .ok (.ireturn, 1) := by decide +kernel
theorem dX6_give_0 : decode cX6_give 0 = .ok (.iload_n 1, 1) := by decide +kernel
theorem dX6_give_1 : decode cX6_give 1 = .ok (.invokestatic 143, 3) := by decide +kernel
theorem dX6_give_4 : decode cX6_give 4 = .ok (.ifCond .eq 27, 3) := by decide +kernel
theorem dX6_give_7 : decode cX6_give 7 = .ok (.aload_n 0, 1) := by decide +kernel
theorem dX6_give_8 : decode cX6_give 8 = .ok (.iload_n 2, 1) := by decide +kernel
theorem dX6_give_9 : decode cX6_give 9 = .ok (.invokevirtual 243, 3) := by decide +kernel
theorem dX6_give_12 : decode cX6_give 12 = .ok (.ifCond .eq 19, 3) := by decide +kernel
theorem dX6_give_31 : decode cX6_give 31 = .ok (.iconst (-1), 1) := by decide +kernel
theorem dX6_give_32 : decode cX6_give 32 = .ok (.ireturn, 1) := by decide +kernel
theorem dX5_sale_0 : decode cX5_sale 0 = .ok (.aload_n 0, 1) := by decide +kernel
theorem dX5_sale_1 : decode cX5_sale 1 = .ok (.iload_n 1, 1) := by decide +kernel
theorem dX5_sale_2 : decode cX5_sale 2 = .ok (.invokevirtual 164, 3) := by decide +kernel
theorem dX5_sale_5 : decode cX5_sale 5 = .ok (.ifCond .ne 5, 3) := by decide +kernel
theorem dX5_sale_8 : decode cX5_sale 8 = .ok (.iconst (-1), 1) := by decide +kernel
theorem dX5_sale_9 : decode cX5_sale 9 = .ok (.ireturn, 1) := by decide +kernel
theorem dX6_sale_0 : decode cX6_sale 0 = .ok (.aload_n 0, 1) := by decide +kernel
theorem dX6_sale_1 : decode cX6_sale 1 = .ok (.iload_n 1, 1) := by decide +kernel
theorem dX6_sale_2 : decode cX6_sale 2 = .ok (.invokevirtual 265, 3) := by decide +kernel
theorem dX6_sale_5 : decode cX6_sale 5 = .ok (.ifCond .ne 5, 3) := by decide +kernel
theorem dX6_sale_8 : decode cX6_sale 8 = .ok (.iconst (-1), 1) := by decide +kernel
theorem dX6_sale_9 : decode cX6_sale 9 = .ok (.ireturn, 1) := by decide +kernel
theorem dX5_press_0 : decode cX5_press 0 = .ok (.aload_n 0, 1) := by decide +kernel
theorem dX5_press_1 : decode cX5_press 1 = .ok (.iload_n 1, 1) := by decide +kernel
theorem dX5_press_2 : decode cX5_press 2 = .ok (.invokevirtual 164, 3) := by decide +kernel
theorem dX5_press_5 : decode cX5_press 5 = .ok (.ifCond .ne 5, 3) := by decide +kernel
theorem dX5_press_8 : decode cX5_press 8 = .ok (.iconst (-1), 1) := by decide +kernel
theorem dX5_press_9 : decode cX5_press 9 = .ok (.ireturn, 1) := by decide +kernel
theorem dX6_press_0 : decode cX6_press 0 = .ok (.aload_n 0, 1) := by decide +kernel
theorem dX6_press_1 : decode cX6_press 1 = .ok (.iload_n 1, 1) := by decide +kernel
theorem dX6_press_2 : decode cX6_press 2 = .ok (.invokevirtual 265, 3) := by decide +kernel
theorem dX6_press_5 : decode cX6_press 5 = .ok (.ifCond .ne 5, 3) := by decide +kernel
theorem dX6_press_8 : decode cX6_press 8 = .ok (.iconst (-1), 1) := by decide +kernel
theorem dX6_press_9 : decode cX6_press 9 = .ok (.ireturn, 1) := by decide +kernel
theorem dX5_refund_0 : decode cX5_refund 0 = .ok (.aload_n 0, 1) := by decide +kernel
theorem dX5_refund_1 : decode cX5_refund 1 = .ok (.iload_n 1, 1) := by decide +kernel
theorem dX5_refund_2 : decode cX5_refund 2 = .ok (.invokevirtual 164, 3) := by decide +kernel
theorem dX5_refund_5 : decode cX5_refund 5 = .ok (.ifCond .ne 5, 3) := by decide +kernel
theorem dX5_refund_8 : decode cX5_refund 8 = .ok (.iconst (-1), 1) := by decide +kernel
theorem dX5_refund_9 : decode cX5_refund 9 = .ok (.ireturn, 1) := by decide +kernel
theorem dX6_refund_0 : decode cX6_refund 0 = .ok (.aload_n 0, 1) := by decide +kernel
theorem dX6_refund_1 : decode cX6_refund 1 = .ok (.iload_n 1, 1) := by decide +kernel
theorem dX6_refund_2 : decode cX6_refund 2 = .ok (.invokevirtual 265, 3) := by decide +kernel
theorem dX6_refund_5 : decode cX6_refund 5 = .ok (.ifCond .ne 5, 3) := by decide +kernel
theorem dX6_refund_8 : decode cX6_refund 8 = .ok (.iconst (-1), 1) := by decide +kernel
theorem dX6_refund_9 : decode cX6_refund 9 = .ok (.ireturn, 1) := by decide +kernel
theorem dX5_told_0 : decode cX5_told 0 = .ok (.aload_n 0, 1) := by decide +kernel
theorem dX5_told_1 : decode cX5_told 1 = .ok (.iload_n 1, 1) := by decide +kernel
theorem dX5_told_2 : decode cX5_told 2 = .ok (.invokevirtual 85, 3) := by decide +kernel
theorem dX5_told_5 : decode cX5_told 5 = .ok (.ifCond .ne 6, 3) := by decide +kernel
theorem dX5_told_8 : decode cX5_told 8 = .ok (.ldc 229, 2) := by decide +kernel
theorem dX5_told_10 : decode cX5_told 10 = .ok (.ireturn, 1) := by decide +kernel
theorem dX6_told_0 : decode cX6_told 0 = .ok (.aload_n 0, 1) := by decide +kernel
theorem dX6_told_1 : decode cX6_told 1 = .ok (.iload_n 1, 1) := by decide +kernel
theorem dX6_told_2 : decode cX6_told 2 = .ok (.invokevirtual 148, 3) := by decide +kernel
theorem dX6_told_5 : decode cX6_told 5 = .ok (.ifCond .ne 7, 3) := by decide +kernel
theorem dX6_told_8 : decode cX6_told 8 = .ok (.ldc_w 268, 3) := by decide +kernel
theorem dX6_told_11 : decode cX6_told 11 = .ok (.ireturn, 1) := by decide +kernel
theorem dX5_chance_0 : decode cX5_chance 0 = .ok (.aload_n 0, 1) := by decide +kernel
theorem dX5_chance_1 : decode cX5_chance 1 = .ok (.iload_n 1, 1) := by decide +kernel
theorem dX5_chance_2 : decode cX5_chance 2 = .ok (.invokevirtual 85, 3) := by decide +kernel
theorem dX5_chance_5 : decode cX5_chance 5 = .ok (.ifCond .ne 5, 3) := by decide +kernel
theorem dX5_chance_8 : decode cX5_chance 8 = .ok (.iconst (-1), 1) := by decide +kernel
theorem dX5_chance_9 : decode cX5_chance 9 = .ok (.ireturn, 1) := by decide +kernel
theorem dX6_chance_0 : decode cX6_chance 0 = .ok (.aload_n 0, 1) := by decide +kernel
theorem dX6_chance_1 : decode cX6_chance 1 = .ok (.iload_n 1, 1) := by decide +kernel
theorem dX6_chance_2 : decode cX6_chance 2 = .ok (.invokevirtual 148, 3) := by decide +kernel
theorem dX6_chance_5 : decode cX6_chance 5 = .ok (.ifCond .eq 37, 3) := by decide +kernel
theorem dX6_chance_42 : decode cX6_chance 42 = .ok (.iconst (-1), 1) := by decide +kernel
theorem dX6_chance_43 : decode cX6_chance 43 = .ok (.ireturn, 1) := by decide +kernel
theorem dX5_draw_0 : decode cX5_draw 0 = .ok (.aload_n 0, 1) := by decide +kernel
theorem dX5_draw_1 : decode cX5_draw 1 = .ok (.iload_n 1, 1) := by decide +kernel
theorem dX5_draw_2 : decode cX5_draw 2 = .ok (.invokevirtual 85, 3) := by decide +kernel
theorem dX5_draw_5 : decode cX5_draw 5 = .ok (.ifCond .eq 10, 3) := by decide +kernel
theorem dX5_draw_15 : decode cX5_draw 15 = .ok (.iconst (-1), 1) := by decide +kernel
theorem dX5_draw_16 : decode cX5_draw 16 = .ok (.ireturn, 1) := by decide +kernel
theorem dX6_draw_0 : decode cX6_draw 0 = .ok (.aload_n 0, 1) := by decide +kernel
theorem dX6_draw_1 : decode cX6_draw 1 = .ok (.iload_n 1, 1) := by decide +kernel
theorem dX6_draw_2 : decode cX6_draw 2 = .ok (.invokevirtual 148, 3) := by decide +kernel
theorem dX6_draw_5 : decode cX6_draw 5 = .ok (.ifCond .eq 19, 3) := by decide +kernel
theorem dX6_draw_24 : decode cX6_draw 24 = .ok (.iconst (-1), 1) := by decide +kernel
theorem dX6_draw_25 : decode cX6_draw 25 = .ok (.ireturn, 1) := by decide +kernel
theorem dX5_income_0 : decode cX5_income 0 = .ok (.aload_n 0, 1) := by decide +kernel
theorem dX5_income_1 : decode cX5_income 1 = .ok (.iload_n 1, 1) := by decide +kernel
theorem dX5_income_2 : decode cX5_income 2 = .ok (.invokevirtual 135, 3) := by decide +kernel
theorem dX5_income_5 : decode cX5_income 5 = .ok (.ifCond .ne 5, 3) := by decide +kernel
theorem dX5_income_8 : decode cX5_income 8 = .ok (.iconst (-1), 1) := by decide +kernel
theorem dX5_income_9 : decode cX5_income 9 = .ok (.ireturn, 1) := by decide +kernel
theorem dX6_income_0 : decode cX6_income 0 = .ok (.aload_n 0, 1) := by decide +kernel
theorem dX6_income_1 : decode cX6_income 1 = .ok (.iload_n 1, 1) := by decide +kernel
theorem dX6_income_2 : decode cX6_income 2 = .ok (.invokevirtual 243, 3) := by decide +kernel
theorem dX6_income_5 : decode cX6_income 5 = .ok (.ifCond .ne 5, 3) := by decide +kernel
theorem dX6_income_8 : decode cX6_income 8 = .ok (.iconst (-1), 1) := by decide +kernel
theorem dX6_income_9 : decode cX6_income 9 = .ok (.ireturn, 1) := by decide +kernel
theorem dX5_rule_0 : decode cX5_rule 0 = .ok (.iload_n 1, 1) := by decide +kernel
theorem dX5_rule_1 : decode cX5_rule 1 = .ok (.ifCond .eq 10, 3) := by decide +kernel
theorem dX5_rule_4 : decode cX5_rule 4 = .ok (.iload_n 1, 1) := by decide +kernel
theorem dX5_rule_5 : decode cX5_rule 5 = .ok (.iconst 1, 1) := by decide +kernel
theorem dX5_rule_6 : decode cX5_rule 6 = .ok (.if_icmp .eq 5, 3) := by decide +kernel
theorem dX5_rule_9 : decode cX5_rule 9 = .ok (.iconst (-1), 1) := by decide +kernel
theorem dX5_rule_10 : decode cX5_rule 10 = .ok (.ireturn, 1) := by decide +kernel
theorem dX5_rule_11 : decode cX5_rule 11 = .ok (.aload_n 0, 1) := by decide +kernel
theorem dX5_rule_12 : decode cX5_rule 12 = .ok (.getfield 123, 3) := by decide +kernel
theorem dX5_rule_15 : decode cX5_rule 15 = .ok (.istore_n 2, 1) := by decide +kernel
theorem dX5_rule_16 : decode cX5_rule 16 = .ok (.aload_n 0, 1) := by decide +kernel
theorem dX5_rule_17 : decode cX5_rule 17 = .ok (.iload_n 1, 1) := by decide +kernel
theorem dX5_rule_18 : decode cX5_rule 18 = .ok (.putfield 123, 3) := by decide +kernel
theorem dX5_rule_21 : decode cX5_rule 21 = .ok (.iload_n 2, 1) := by decide +kernel
theorem dX5_rule_22 : decode cX5_rule 22 = .ok (.ireturn, 1) := by decide +kernel
theorem dX6_rule_0 : decode cX6_rule 0 = .ok (.iload_n 1, 1) := by decide +kernel
theorem dX6_rule_1 : decode cX6_rule 1 = .ok (.iconst 0, 1) := by decide +kernel
theorem dX6_rule_2 : decode cX6_rule 2 = .ok (.iconst 1, 1) := by decide +kernel
theorem dX6_rule_3 : decode cX6_rule 3 = .ok (.invokestatic 136, 3) := by decide +kernel
theorem dX6_rule_6 : decode cX6_rule 6 = .ok (.ifCond .ne 5, 3) := by decide +kernel
theorem dX6_rule_9 : decode cX6_rule 9 = .ok (.iconst (-1), 1) := by decide +kernel
theorem dX6_rule_10 : decode cX6_rule 10 = .ok (.ireturn, 1) := by decide +kernel
theorem dX6_rule_11 : decode cX6_rule 11 = .ok (.aload_n 0, 1) := by decide +kernel
theorem dX6_rule_12 : decode cX6_rule 12 = .ok (.getfield 155, 3) := by decide +kernel
theorem dX6_rule_15 : decode cX6_rule 15 = .ok (.istore_n 2, 1) := by decide +kernel
theorem dX6_rule_16 : decode cX6_rule 16 = .ok (.aload_n 0, 1) := by decide +kernel
theorem dX6_rule_17 : decode cX6_rule 17 = .ok (.iload_n 1, 1) := by decide +kernel
theorem dX6_rule_18 : decode cX6_rule 18 = .ok (.putfield 155, 3) := by decide +kernel
theorem dX6_rule_21 : decode cX6_rule 21 = .ok (.iload_n 2, 1) := by decide +kernel
theorem dX6_rule_22 : decode cX6_rule 22 = .ok (.ireturn, 1) := by decide +kernel
theorem dX5_pace_0 : decode cX5_pace 0 = .ok (.iload_n 1, 1) := by decide +kernel
theorem dX5_pace_1 : decode cX5_pace 1 = .ok (.ifCond .eq 16, 3) := by decide +kernel
theorem dX5_pace_4 : decode cX5_pace 4 = .ok (.iload_n 1, 1) := by decide +kernel
theorem dX5_pace_5 : decode cX5_pace 5 = .ok (.bipush 10, 2) := by decide +kernel
theorem dX5_pace_7 : decode cX5_pace 7 = .ok (.bipush 100, 2) := by decide +kernel
theorem dX5_pace_9 : decode cX5_pace 9 = .ok (.invokestatic 65, 3) := by decide +kernel
theorem dX5_pace_12 : decode cX5_pace 12 = .ok (.ifCond .ne 5, 3) := by decide +kernel
theorem dX5_pace_15 : decode cX5_pace 15 = .ok (.iconst (-1), 1) := by decide +kernel
theorem dX5_pace_16 : decode cX5_pace 16 = .ok (.ireturn, 1) := by decide +kernel
theorem dX5_pace_17 : decode cX5_pace 17 = .ok (.iload_n 2, 1) := by decide +kernel
theorem dX5_pace_18 : decode cX5_pace 18 = .ok (.iconst 1, 1) := by decide +kernel
theorem dX5_pace_19 : decode cX5_pace 19 = .ok (.sipush 200, 3) := by decide +kernel
theorem dX5_pace_22 : decode cX5_pace 22 = .ok (.invokestatic 65, 3) := by decide +kernel
theorem dX5_pace_25 : decode cX5_pace 25 = .ok (.ifCond .ne 5, 3) := by decide +kernel
theorem dX5_pace_28 : decode cX5_pace 28 = .ok (.iconst (-1), 1) := by decide +kernel
theorem dX5_pace_29 : decode cX5_pace 29 = .ok (.ireturn, 1) := by decide +kernel
theorem dX5_pace_30 : decode cX5_pace 30 = .ok (.aload_n 0, 1) := by decide +kernel
theorem dX5_pace_31 : decode cX5_pace 31 = .ok (.iload_n 1, 1) := by decide +kernel
theorem dX5_pace_32 : decode cX5_pace 32 = .ok (.putfield 126, 3) := by decide +kernel
theorem dX5_pace_35 : decode cX5_pace 35 = .ok (.aload_n 0, 1) := by decide +kernel
theorem dX5_pace_36 : decode cX5_pace 36 = .ok (.iload_n 2, 1) := by decide +kernel
theorem dX5_pace_37 : decode cX5_pace 37 = .ok (.putfield 44, 3) := by decide +kernel
theorem dX5_pace_40 : decode cX5_pace 40 = .ok (.iconst 1, 1) := by decide +kernel
theorem dX5_pace_41 : decode cX5_pace 41 = .ok (.ireturn, 1) := by decide +kernel
theorem dX6_pace_0 : decode cX6_pace 0 = .ok (.iload_n 1, 1) := by decide +kernel
theorem dX6_pace_1 : decode cX6_pace 1 = .ok (.ifCond .eq 14, 3) := by decide +kernel
theorem dX6_pace_4 : decode cX6_pace 4 = .ok (.iload_n 1, 1) := by decide +kernel
theorem dX6_pace_5 : decode cX6_pace 5 = .ok (.bipush 10, 2) := by decide +kernel
theorem dX6_pace_7 : decode cX6_pace 7 = .ok (.bipush 100, 2) := by decide +kernel
theorem dX6_pace_9 : decode cX6_pace 9 = .ok (.invokestatic 136, 3) := by decide +kernel
theorem dX6_pace_12 : decode cX6_pace 12 = .ok (.ifCond .eq 14, 3) := by decide +kernel
theorem dX6_pace_15 : decode cX6_pace 15 = .ok (.iload_n 2, 1) := by decide +kernel
theorem dX6_pace_16 : decode cX6_pace 16 = .ok (.iconst 1, 1) := by decide +kernel
theorem dX6_pace_17 : decode cX6_pace 17 = .ok (.sipush 200, 3) := by decide +kernel
theorem dX6_pace_20 : decode cX6_pace 20 = .ok (.invokestatic 136, 3) := by decide +kernel
theorem dX6_pace_23 : decode cX6_pace 23 = .ok (.ifCond .ne 5, 3) := by decide +kernel
theorem dX6_pace_26 : decode cX6_pace 26 = .ok (.iconst (-1), 1) := by decide +kernel
theorem dX6_pace_27 : decode cX6_pace 27 = .ok (.ireturn, 1) := by decide +kernel
theorem dX6_pace_28 : decode cX6_pace 28 = .ok (.aload_n 0, 1) := by decide +kernel
theorem dX6_pace_29 : decode cX6_pace 29 = .ok (.iload_n 1, 1) := by decide +kernel
theorem dX6_pace_30 : decode cX6_pace 30 = .ok (.putfield 158, 3) := by decide +kernel
theorem dX6_pace_33 : decode cX6_pace 33 = .ok (.aload_n 0, 1) := by decide +kernel
theorem dX6_pace_34 : decode cX6_pace 34 = .ok (.iload_n 2, 1) := by decide +kernel
theorem dX6_pace_35 : decode cX6_pace 35 = .ok (.putfield 7, 3) := by decide +kernel
theorem dX6_pace_38 : decode cX6_pace 38 = .ok (.iconst 1, 1) := by decide +kernel
theorem dX6_pace_39 : decode cX6_pace 39 = .ok (.ireturn, 1) := by decide +kernel
theorem dX5_count_0 : decode cX5_count 0 = .ok (.iload_n 1, 1) := by decide +kernel
theorem dX5_count_1 : decode cX5_count 1 = .ok (.tableswitch 69 0 5 #[39, 44, 49, 54, 59, 64], 39) := by decide +kernel
theorem dX5_count_40 : decode cX5_count 40 = .ok (.aload_n 0, 1) := by decide +kernel
theorem dX5_count_41 : decode cX5_count 41 = .ok (.getfield 55, 3) := by decide +kernel
theorem dX5_count_44 : decode cX5_count 44 = .ok (.ireturn, 1) := by decide +kernel
theorem dX5_count_45 : decode cX5_count 45 = .ok (.aload_n 0, 1) := by decide +kernel
theorem dX5_count_46 : decode cX5_count 46 = .ok (.getfield 79, 3) := by decide +kernel
theorem dX5_count_49 : decode cX5_count 49 = .ok (.ireturn, 1) := by decide +kernel
theorem dX5_count_50 : decode cX5_count 50 = .ok (.aload_n 0, 1) := by decide +kernel
theorem dX5_count_51 : decode cX5_count 51 = .ok (.getfield 138, 3) := by decide +kernel
theorem dX5_count_54 : decode cX5_count 54 = .ok (.ireturn, 1) := by decide +kernel
theorem dX5_count_55 : decode cX5_count 55 = .ok (.aload_n 0, 1) := by decide +kernel
theorem dX5_count_56 : decode cX5_count 56 = .ok (.getfield 108, 3) := by decide +kernel
theorem dX5_count_59 : decode cX5_count 59 = .ok (.ireturn, 1) := by decide +kernel
theorem dX5_count_60 : decode cX5_count 60 = .ok (.aload_n 0, 1) := by decide +kernel
theorem dX5_count_61 : decode cX5_count 61 = .ok (.getfield 226, 3) := by decide +kernel
theorem dX5_count_64 : decode cX5_count 64 = .ok (.ireturn, 1) := by decide +kernel
theorem dX5_count_65 : decode cX5_count 65 = .ok (.aload_n 0, 1) := by decide +kernel
theorem dX5_count_66 : decode cX5_count 66 = .ok (.getfield 273, 3) := by decide +kernel
theorem dX5_count_69 : decode cX5_count 69 = .ok (.ireturn, 1) := by decide +kernel
theorem dX5_count_70 : decode cX5_count 70 = .ok (.iconst (-1), 1) := by decide +kernel
theorem dX5_count_71 : decode cX5_count 71 = .ok (.ireturn, 1) := by decide +kernel
theorem dX6_count_0 : decode cX6_count 0 = .ok (.iconst 0, 1) := by decide +kernel
theorem dX6_count_1 : decode cX6_count 1 = .ok (.istore_n 2, 1) := by decide +kernel
theorem dX6_count_2 : decode cX6_count 2 = .ok (.iload_n 1, 1) := by decide +kernel
theorem dX6_count_3 : decode cX6_count 3 = .ok (.tableswitch 120 0 5 #[37, 42, 47, 52, 57, 93], 37) := by decide +kernel
theorem dX6_count_40 : decode cX6_count 40 = .ok (.aload_n 0, 1) := by decide +kernel
theorem dX6_count_41 : decode cX6_count 41 = .ok (.getfield 133, 3) := by decide +kernel
theorem dX6_count_44 : decode cX6_count 44 = .ok (.ireturn, 1) := by decide +kernel
theorem dX6_count_45 : decode cX6_count 45 = .ok (.aload_n 0, 1) := by decide +kernel
theorem dX6_count_46 : decode cX6_count 46 = .ok (.getfield 140, 3) := by decide +kernel
theorem dX6_count_49 : decode cX6_count 49 = .ok (.ireturn, 1) := by decide +kernel
theorem dX6_count_50 : decode cX6_count 50 = .ok (.aload_n 0, 1) := by decide +kernel
theorem dX6_count_51 : decode cX6_count 51 = .ok (.getfield 161, 3) := by decide +kernel
theorem dX6_count_54 : decode cX6_count 54 = .ok (.ireturn, 1) := by decide +kernel
theorem dX6_count_55 : decode cX6_count 55 = .ok (.aload_n 0, 1) := by decide +kernel
theorem dX6_count_56 : decode cX6_count 56 = .ok (.getfield 152, 3) := by decide +kernel
theorem dX6_count_59 : decode cX6_count 59 = .ok (.ireturn, 1) := by decide +kernel
theorem dX6_count_60 : decode cX6_count 60 = .ok (.iconst 0, 1) := by decide +kernel
theorem dX6_count_61 : decode cX6_count 61 = .ok (.istore_n 3, 1) := by decide +kernel
theorem dX6_count_62 : decode cX6_count 62 = .ok (.iload_n 3, 1) := by decide +kernel
theorem dX6_count_63 : decode cX6_count 63 = .ok (.aload_n 0, 1) := by decide +kernel
theorem dX6_count_64 : decode cX6_count 64 = .ok (.getfield 161, 3) := by decide +kernel
theorem dX6_count_67 : decode cX6_count 67 = .ok (.if_icmp .ge 27, 3) := by decide +kernel
theorem dX6_count_94 : decode cX6_count 94 = .ok (.iload_n 2, 1) := by decide +kernel
theorem dX6_count_95 : decode cX6_count 95 = .ok (.ireturn, 1) := by decide +kernel
theorem dX6_count_96 : decode cX6_count 96 = .ok (.iconst 0, 1) := by decide +kernel
theorem dX6_count_97 : decode cX6_count 97 = .ok (.istore_n 3, 1) := by decide +kernel
theorem dX6_count_98 : decode cX6_count 98 = .ok (.iload_n 3, 1) := by decide +kernel
theorem dX6_count_99 : decode cX6_count 99 = .ok (.aload_n 0, 1) := by decide +kernel
theorem dX6_count_100 : decode cX6_count 100 = .ok (.getfield 161, 3) := by decide +kernel
theorem dX6_count_103 : decode cX6_count 103 = .ok (.if_icmp .ge 18, 3) := by decide +kernel
theorem dX6_count_121 : decode cX6_count 121 = .ok (.iload_n 2, 1) := by decide +kernel
theorem dX6_count_122 : decode cX6_count 122 = .ok (.ireturn, 1) := by decide +kernel
theorem dX6_count_123 : decode cX6_count 123 = .ok (.iconst (-1), 1) := by decide +kernel
theorem dX6_count_124 : decode cX6_count 124 = .ok (.ireturn, 1) := by decide +kernel
theorem dX5_closeDay_0 : decode cX5_closeDay 0 = .ok (.iconst 0, 1) := by decide +kernel
theorem dX5_closeDay_1 : decode cX5_closeDay 1 = .ok (.istore_n 1, 1) := by decide +kernel
theorem dX5_closeDay_2 : decode cX5_closeDay 2 = .ok (.iload_n 1, 1) := by decide +kernel
theorem dX5_closeDay_3 : decode cX5_closeDay 3 = .ok (.aload_n 0, 1) := by decide +kernel
theorem dX5_closeDay_4 : decode cX5_closeDay 4 = .ok (.getfield 79, 3) := by decide +kernel
theorem dX5_closeDay_7 : decode cX5_closeDay 7 = .ok (.if_icmp .ge 22, 3) := by decide +kernel
theorem dX5_closeDay_29 : decode cX5_closeDay 29 = .ok (.return_, 1) := by decide +kernel
theorem dX5_closeTick_0 : decode cX5_closeTick 0 = .ok (.iconst 0, 1) := by decide +kernel
theorem dX5_closeTick_1 : decode cX5_closeTick 1 = .ok (.istore_n 1, 1) := by decide +kernel
theorem dX5_closeTick_2 : decode cX5_closeTick 2 = .ok (.iload_n 1, 1) := by decide +kernel
theorem dX5_closeTick_3 : decode cX5_closeTick 3 = .ok (.aload_n 0, 1) := by decide +kernel
theorem dX5_closeTick_4 : decode cX5_closeTick 4 = .ok (.getfield 79, 3) := by decide +kernel
theorem dX5_closeTick_7 : decode cX5_closeTick 7 = .ok (.if_icmp .ge 21, 3) := by decide +kernel
theorem dX5_closeTick_28 : decode cX5_closeTick 28 = .ok (.iconst 0, 1) := by decide +kernel
theorem dX5_closeTick_29 : decode cX5_closeTick 29 = .ok (.istore_n 1, 1) := by decide +kernel
theorem dX5_closeTick_30 : decode cX5_closeTick 30 = .ok (.iload_n 1, 1) := by decide +kernel
theorem dX5_closeTick_31 : decode cX5_closeTick 31 = .ok (.aload_n 0, 1) := by decide +kernel
theorem dX5_closeTick_32 : decode cX5_closeTick 32 = .ok (.getfield 55, 3) := by decide +kernel
theorem dX5_closeTick_35 : decode cX5_closeTick 35 = .ok (.if_icmp .ge 19, 3) := by decide +kernel
theorem dX5_closeTick_54 : decode cX5_closeTick 54 = .ok (.return_, 1) := by decide +kernel
theorem dX5_goOneTick_0 : decode cX5_goOneTick 0 = .ok (.aload_n 0, 1) := by decide +kernel
theorem dX5_goOneTick_1 : decode cX5_goOneTick 1 = .ok (.dup, 1) := by decide +kernel
theorem dX5_goOneTick_2 : decode cX5_goOneTick 2 = .ok (.getfield 108, 3) := by decide +kernel
theorem dX5_goOneTick_5 : decode cX5_goOneTick 5 = .ok (.iconst 1, 1) := by decide +kernel
theorem dX5_goOneTick_6 : decode cX5_goOneTick 6 = .ok (.iadd, 1) := by decide +kernel
theorem dX5_goOneTick_7 : decode cX5_goOneTick 7 = .ok (.putfield 108, 3) := by decide +kernel
theorem dX5_goOneTick_10 : decode cX5_goOneTick 10 = .ok (.aload_n 0, 1) := by decide +kernel
theorem dX5_goOneTick_11 : decode cX5_goOneTick 11 = .ok (.getfield 108, 3) := by decide +kernel
theorem dX5_goOneTick_14 : decode cX5_goOneTick 14 = .ok (.bipush 100, 2) := by decide +kernel
theorem dX5_goOneTick_16 : decode cX5_goOneTick 16 = .ok (.irem, 1) := by decide +kernel
theorem dX5_goOneTick_17 : decode cX5_goOneTick 17 = .ok (.ifCond .ne 7, 3) := by decide +kernel
theorem dX5_goOneTick_20 : decode cX5_goOneTick 20 = .ok (.aload_n 0, 1) := by decide +kernel
theorem dX5_goOneTick_21 : decode cX5_goOneTick 21 = .ok (.invokevirtual 283, 3) := by decide +kernel
theorem dX5_goOneTick_24 : decode cX5_goOneTick 24 = .ok (.aload_n 0, 1) := by decide +kernel
theorem dX5_goOneTick_25 : decode cX5_goOneTick 25 = .ok (.getfield 108, 3) := by decide +kernel
theorem dX5_goOneTick_28 : decode cX5_goOneTick 28 = .ok (.aload_n 0, 1) := by decide +kernel
theorem dX5_goOneTick_29 : decode cX5_goOneTick 29 = .ok (.getfield 48, 3) := by decide +kernel
theorem dX5_goOneTick_32 : decode cX5_goOneTick 32 = .ok (.if_icmp .le 7, 3) := by decide +kernel
theorem dX5_goOneTick_39 : decode cX5_goOneTick 39 = .ok (.aload_n 0, 1) := by decide +kernel
theorem dX5_goOneTick_40 : decode cX5_goOneTick 40 = .ok (.getfield 126, 3) := by decide +kernel
theorem dX5_goOneTick_43 : decode cX5_goOneTick 43 = .ok (.ifCond .eq 19, 3) := by decide +kernel
theorem dX5_goOneTick_62 : decode cX5_goOneTick 62 = .ok (.return_, 1) := by decide +kernel
theorem dX6_goesBy_0 : decode cX6_goesBy 0 = .ok (.aload_n 0, 1) := by decide +kernel
theorem dX6_goesBy_1 : decode cX6_goesBy 1 = .ok (.dup, 1) := by decide +kernel
theorem dX6_goesBy_2 : decode cX6_goesBy 2 = .ok (.getfield 152, 3) := by decide +kernel
theorem dX6_goesBy_5 : decode cX6_goesBy 5 = .ok (.iconst 1, 1) := by decide +kernel
theorem dX6_goesBy_6 : decode cX6_goesBy 6 = .ok (.iadd, 1) := by decide +kernel
theorem dX6_goesBy_7 : decode cX6_goesBy 7 = .ok (.putfield 152, 3) := by decide +kernel
theorem dX6_goesBy_10 : decode cX6_goesBy 10 = .ok (.iconst 0, 1) := by decide +kernel
theorem dX6_goesBy_11 : decode cX6_goesBy 11 = .ok (.istore_n 1, 1) := by decide +kernel
theorem dX6_goesBy_12 : decode cX6_goesBy 12 = .ok (.iload_n 1, 1) := by decide +kernel
theorem dX6_goesBy_13 : decode cX6_goesBy 13 = .ok (.aload_n 0, 1) := by decide +kernel
theorem dX6_goesBy_14 : decode cX6_goesBy 14 = .ok (.getfield 161, 3) := by decide +kernel
theorem dX6_goesBy_17 : decode cX6_goesBy 17 = .ok (.if_icmp .ge 46, 3) := by decide +kernel
theorem dX6_goesBy_63 : decode cX6_goesBy 63 = .ok (.aload_n 0, 1) := by decide +kernel
theorem dX6_goesBy_64 : decode cX6_goesBy 64 = .ok (.getfield 158, 3) := by decide +kernel
theorem dX6_goesBy_67 : decode cX6_goesBy 67 = .ok (.ifCond .eq 25, 3) := by decide +kernel
theorem dX6_goesBy_92 : decode cX6_goesBy 92 = .ok (.return_, 1) := by decide +kernel
theorem dX5_tick_0 : decode cX5_tick 0 = .ok (.iload_n 1, 1) := by decide +kernel
theorem dX5_tick_1 : decode cX5_tick 1 = .ok (.iconst 1, 1) := by decide +kernel
theorem dX5_tick_2 : decode cX5_tick 2 = .ok (.bipush 100, 2) := by decide +kernel
theorem dX5_tick_4 : decode cX5_tick 4 = .ok (.invokestatic 65, 3) := by decide +kernel
theorem dX5_tick_7 : decode cX5_tick 7 = .ok (.ifCond .eq 15, 3) := by decide +kernel
theorem dX5_tick_10 : decode cX5_tick 10 = .ok (.aload_n 0, 1) := by decide +kernel
theorem dX5_tick_11 : decode cX5_tick 11 = .ok (.getfield 108, 3) := by decide +kernel
theorem dX5_tick_14 : decode cX5_tick 14 = .ok (.sipush 10000, 3) := by decide +kernel
theorem dX5_tick_17 : decode cX5_tick 17 = .ok (.iload_n 1, 1) := by decide +kernel
theorem dX5_tick_18 : decode cX5_tick 18 = .ok (.isub, 1) := by decide +kernel
theorem dX5_tick_19 : decode cX5_tick 19 = .ok (.if_icmp .le 5, 3) := by decide +kernel
theorem dX5_tick_22 : decode cX5_tick 22 = .ok (.iconst (-1), 1) := by decide +kernel
theorem dX5_tick_23 : decode cX5_tick 23 = .ok (.ireturn, 1) := by decide +kernel
theorem dX5_tick_24 : decode cX5_tick 24 = .ok (.aload_n 0, 1) := by decide +kernel
theorem dX5_tick_25 : decode cX5_tick 25 = .ok (.invokevirtual 129, 3) := by decide +kernel
theorem dX5_tick_28 : decode cX5_tick 28 = .ok (.iconst 0, 1) := by decide +kernel
theorem dX5_tick_29 : decode cX5_tick 29 = .ok (.istore_n 2, 1) := by decide +kernel
theorem dX5_tick_30 : decode cX5_tick 30 = .ok (.iload_n 2, 1) := by decide +kernel
theorem dX5_tick_31 : decode cX5_tick 31 = .ok (.iload_n 1, 1) := by decide +kernel
theorem dX5_tick_32 : decode cX5_tick 32 = .ok (.if_icmp .ge 13, 3) := by decide +kernel
theorem dX5_tick_35 : decode cX5_tick 35 = .ok (.aload_n 0, 1) := by decide +kernel
theorem dX5_tick_36 : decode cX5_tick 36 = .ok (.invokevirtual 132, 3) := by decide +kernel
theorem dX5_tick_39 : decode cX5_tick 39 = .ok (.iinc 2 1, 3) := by decide +kernel
theorem dX5_tick_42 : decode cX5_tick 42 = .ok (.goto (-12), 3) := by decide +kernel
theorem dX5_tick_45 : decode cX5_tick 45 = .ok (.aload_n 0, 1) := by decide +kernel
theorem dX5_tick_46 : decode cX5_tick 46 = .ok (.getfield 108, 3) := by decide +kernel
theorem dX5_tick_49 : decode cX5_tick 49 = .ok (.ireturn, 1) := by decide +kernel
theorem dX6_tick_0 : decode cX6_tick 0 = .ok (.iload_n 1, 1) := by decide +kernel
theorem dX6_tick_1 : decode cX6_tick 1 = .ok (.iconst 1, 1) := by decide +kernel
theorem dX6_tick_2 : decode cX6_tick 2 = .ok (.bipush 100, 2) := by decide +kernel
theorem dX6_tick_4 : decode cX6_tick 4 = .ok (.invokestatic 136, 3) := by decide +kernel
theorem dX6_tick_7 : decode cX6_tick 7 = .ok (.ifCond .eq 15, 3) := by decide +kernel
theorem dX6_tick_10 : decode cX6_tick 10 = .ok (.aload_n 0, 1) := by decide +kernel
theorem dX6_tick_11 : decode cX6_tick 11 = .ok (.getfield 152, 3) := by decide +kernel
theorem dX6_tick_14 : decode cX6_tick 14 = .ok (.iload_n 1, 1) := by decide +kernel
theorem dX6_tick_15 : decode cX6_tick 15 = .ok (.iadd, 1) := by decide +kernel
theorem dX6_tick_16 : decode cX6_tick 16 = .ok (.sipush 10000, 3) := by decide +kernel
theorem dX6_tick_19 : decode cX6_tick 19 = .ok (.if_icmp .le 5, 3) := by decide +kernel
theorem dX6_tick_22 : decode cX6_tick 22 = .ok (.iconst (-1), 1) := by decide +kernel
theorem dX6_tick_23 : decode cX6_tick 23 = .ok (.ireturn, 1) := by decide +kernel
theorem dX6_tick_24 : decode cX6_tick 24 = .ok (.iconst 0, 1) := by decide +kernel
theorem dX6_tick_25 : decode cX6_tick 25 = .ok (.istore_n 2, 1) := by decide +kernel
theorem dX6_tick_26 : decode cX6_tick 26 = .ok (.iload_n 2, 1) := by decide +kernel
theorem dX6_tick_27 : decode cX6_tick 27 = .ok (.iload_n 1, 1) := by decide +kernel
theorem dX6_tick_28 : decode cX6_tick 28 = .ok (.if_icmp .ge 13, 3) := by decide +kernel
theorem dX6_tick_31 : decode cX6_tick 31 = .ok (.aload_n 0, 1) := by decide +kernel
theorem dX6_tick_32 : decode cX6_tick 32 = .ok (.invokevirtual 238, 3) := by decide +kernel
theorem dX6_tick_35 : decode cX6_tick 35 = .ok (.iinc 2 1, 3) := by decide +kernel
theorem dX6_tick_38 : decode cX6_tick 38 = .ok (.goto (-12), 3) := by decide +kernel
theorem dX6_tick_41 : decode cX6_tick 41 = .ok (.aload_n 0, 1) := by decide +kernel
theorem dX6_tick_42 : decode cX6_tick 42 = .ok (.getfield 152, 3) := by decide +kernel
theorem dX6_tick_45 : decode cX6_tick 45 = .ok (.ireturn, 1) := by decide +kernel
theorem dX5_marks_0 : decode cX5_marks 0 = .ok (.iload_n 1, 1) := by decide +kernel
theorem dX5_marks_1 : decode cX5_marks 1 = .ok (.invokestatic 61, 3) := by decide +kernel
theorem dX5_marks_4 : decode cX5_marks 4 = .ok (.ifCond .eq 14, 3) := by decide +kernel
theorem dX5_marks_7 : decode cX5_marks 7 = .ok (.iload_n 2, 1) := by decide +kernel
theorem dX5_marks_8 : decode cX5_marks 8 = .ok (.iconst 0, 1) := by decide +kernel
theorem dX5_marks_9 : decode cX5_marks 9 = .ok (.sipush 4095, 3) := by decide +kernel
theorem dX5_marks_12 : decode cX5_marks 12 = .ok (.invokestatic 65, 3) := by decide +kernel
theorem dX5_marks_15 : decode cX5_marks 15 = .ok (.ifCond .ne 5, 3) := by decide +kernel
theorem dX5_marks_18 : decode cX5_marks 18 = .ok (.iconst (-1), 1) := by decide +kernel
theorem dX5_marks_19 : decode cX5_marks 19 = .ok (.ireturn, 1) := by decide +kernel
theorem dX5_marks_20 : decode cX5_marks 20 = .ok (.aload_n 0, 1) := by decide +kernel
theorem dX5_marks_21 : decode cX5_marks 21 = .ok (.getfield 27, 3) := by decide +kernel
theorem dX5_marks_24 : decode cX5_marks 24 = .ok (.iload_n 1, 1) := by decide +kernel
theorem dX5_marks_25 : decode cX5_marks 25 = .ok (.iaload, 1) := by decide +kernel
theorem dX5_marks_26 : decode cX5_marks 26 = .ok (.istore_n 3, 1) := by decide +kernel
theorem dX5_marks_27 : decode cX5_marks 27 = .ok (.aload_n 0, 1) := by decide +kernel
theorem dX5_marks_28 : decode cX5_marks 28 = .ok (.getfield 27, 3) := by decide +kernel
theorem dX5_marks_31 : decode cX5_marks 31 = .ok (.iload_n 1, 1) := by decide +kernel
theorem dX5_marks_32 : decode cX5_marks 32 = .ok (.iload_n 2, 1) := by decide +kernel
theorem dX5_marks_33 : decode cX5_marks 33 = .ok (.iastore, 1) := by decide +kernel
theorem dX5_marks_34 : decode cX5_marks 34 = .ok (.iload_n 3, 1) := by decide +kernel
theorem dX5_marks_35 : decode cX5_marks 35 = .ok (.ireturn, 1) := by decide +kernel
theorem dX6_marks_0 : decode cX6_marks 0 = .ok (.iload_n 1, 1) := by decide +kernel
theorem dX6_marks_1 : decode cX6_marks 1 = .ok (.invokestatic 143, 3) := by decide +kernel
theorem dX6_marks_4 : decode cX6_marks 4 = .ok (.ifCond .eq 14, 3) := by decide +kernel
theorem dX6_marks_7 : decode cX6_marks 7 = .ok (.iload_n 2, 1) := by decide +kernel
theorem dX6_marks_8 : decode cX6_marks 8 = .ok (.iconst 0, 1) := by decide +kernel
theorem dX6_marks_9 : decode cX6_marks 9 = .ok (.sipush 4095, 3) := by decide +kernel
theorem dX6_marks_12 : decode cX6_marks 12 = .ok (.invokestatic 136, 3) := by decide +kernel
theorem dX6_marks_15 : decode cX6_marks 15 = .ok (.ifCond .ne 5, 3) := by decide +kernel
theorem dX6_marks_18 : decode cX6_marks 18 = .ok (.iconst (-1), 1) := by decide +kernel
theorem dX6_marks_19 : decode cX6_marks 19 = .ok (.ireturn, 1) := by decide +kernel
theorem dX6_marks_20 : decode cX6_marks 20 = .ok (.aload_n 0, 1) := by decide +kernel
theorem dX6_marks_21 : decode cX6_marks 21 = .ok (.getfield 20, 3) := by decide +kernel
theorem dX6_marks_24 : decode cX6_marks 24 = .ok (.iload_n 1, 1) := by decide +kernel
theorem dX6_marks_25 : decode cX6_marks 25 = .ok (.iaload, 1) := by decide +kernel
theorem dX6_marks_26 : decode cX6_marks 26 = .ok (.istore_n 3, 1) := by decide +kernel
theorem dX6_marks_27 : decode cX6_marks 27 = .ok (.aload_n 0, 1) := by decide +kernel
theorem dX6_marks_28 : decode cX6_marks 28 = .ok (.getfield 20, 3) := by decide +kernel
theorem dX6_marks_31 : decode cX6_marks 31 = .ok (.iload_n 1, 1) := by decide +kernel
theorem dX6_marks_32 : decode cX6_marks 32 = .ok (.iload_n 2, 1) := by decide +kernel
theorem dX6_marks_33 : decode cX6_marks 33 = .ok (.iastore, 1) := by decide +kernel
theorem dX6_marks_34 : decode cX6_marks 34 = .ok (.iload_n 3, 1) := by decide +kernel
theorem dX6_marks_35 : decode cX6_marks 35 = .ok (.ireturn, 1) := by decide +kernel
theorem dX5_placesIn_0 : decode cX5_placesIn 0 = .ok (.iconst 0, 1) := by decide +kernel
theorem dX5_placesIn_1 : decode cX5_placesIn 1 = .ok (.istore_n 1, 1) := by decide +kernel
theorem dX5_placesIn_2 : decode cX5_placesIn 2 = .ok (.iload_n 0, 1) := by decide +kernel
theorem dX5_placesIn_3 : decode cX5_placesIn 3 = .ok (.istore_n 2, 1) := by decide +kernel
theorem dX5_placesIn_4 : decode cX5_placesIn 4 = .ok (.iload_n 2, 1) := by decide +kernel
theorem dX5_placesIn_5 : decode cX5_placesIn 5 = .ok (.ifCond .le 36, 3) := by decide +kernel
theorem dX5_placesIn_8 : decode cX5_placesIn 8 = .ok (.iload_n 1, 1) := by decide +kernel
theorem dX5_placesIn_9 : decode cX5_placesIn 9 = .ok (.iconst 4, 1) := by decide +kernel
theorem dX5_placesIn_10 : decode cX5_placesIn 10 = .ok (.if_icmp .ge 31, 3) := by decide +kernel
theorem dX5_placesIn_13 : decode cX5_placesIn 13 = .ok (.iload_n 2, 1) := by decide +kernel
theorem dX5_placesIn_14 : decode cX5_placesIn 14 = .ok (.sipush 128, 3) := by decide +kernel
theorem dX5_placesIn_17 : decode cX5_placesIn 17 = .ok (.irem, 1) := by decide +kernel
theorem dX5_placesIn_18 : decode cX5_placesIn 18 = .ok (.iconst 1, 1) := by decide +kernel
theorem dX5_placesIn_19 : decode cX5_placesIn 19 = .ok (.bipush 100, 2) := by decide +kernel
theorem dX5_placesIn_21 : decode cX5_placesIn 21 = .ok (.invokestatic 65, 3) := by decide +kernel
theorem dX5_placesIn_24 : decode cX5_placesIn 24 = .ok (.ifCond .ne 5, 3) := by decide +kernel
theorem dX5_placesIn_27 : decode cX5_placesIn 27 = .ok (.iconst 0, 1) := by decide +kernel
theorem dX5_placesIn_28 : decode cX5_placesIn 28 = .ok (.ireturn, 1) := by decide +kernel
theorem dX5_placesIn_29 : decode cX5_placesIn 29 = .ok (.iload_n 2, 1) := by decide +kernel
theorem dX5_placesIn_30 : decode cX5_placesIn 30 = .ok (.sipush 128, 3) := by decide +kernel
theorem dX5_placesIn_33 : decode cX5_placesIn 33 = .ok (.idiv, 1) := by decide +kernel
theorem dX5_placesIn_34 : decode cX5_placesIn 34 = .ok (.istore_n 2, 1) := by decide +kernel
theorem dX5_placesIn_35 : decode cX5_placesIn 35 = .ok (.iinc 1 1, 3) := by decide +kernel
theorem dX5_placesIn_38 : decode cX5_placesIn 38 = .ok (.goto (-34), 3) := by decide +kernel
theorem dX5_placesIn_41 : decode cX5_placesIn 41 = .ok (.iload_n 2, 1) := by decide +kernel
theorem dX5_placesIn_42 : decode cX5_placesIn 42 = .ok (.ifCond .ne 7, 3) := by decide +kernel
theorem dX5_placesIn_45 : decode cX5_placesIn 45 = .ok (.iload_n 1, 1) := by decide +kernel
theorem dX5_placesIn_46 : decode cX5_placesIn 46 = .ok (.goto 4, 3) := by decide +kernel
theorem dX5_placesIn_49 : decode cX5_placesIn 49 = .ok (.iconst 0, 1) := by decide +kernel
theorem dX5_placesIn_50 : decode cX5_placesIn 50 = .ok (.ireturn, 1) := by decide +kernel
theorem dX2_init_0 : decode cX2_init 0 = .ok (.aload_n 0, 1) := by decide +kernel
theorem dX2_init_1 : decode cX2_init 1 = .ok (.invokespecial 3, 3) := by decide +kernel
theorem dX2_init_4 : decode cX2_init 4 = .ok (.aload_n 0, 1) := by decide +kernel
theorem dX2_init_5 : decode cX2_init 5 = .ok (.iconst 4, 1) := by decide +kernel
theorem dX2_init_6 : decode cX2_init 6 = .ok (.newarray .int, 2) := by decide +kernel
theorem dX2_init_8 : decode cX2_init 8 = .ok (.putfield 9, 3) := by decide +kernel
theorem dX2_init_11 : decode cX2_init 11 = .ok (.aload_n 0, 1) := by decide +kernel
theorem dX2_init_12 : decode cX2_init 12 = .ok (.iload_n 2, 1) := by decide +kernel
theorem dX2_init_13 : decode cX2_init 13 = .ok (.putfield 15, 3) := by decide +kernel
theorem dX2_init_16 : decode cX2_init 16 = .ok (.iload_n 1, 1) := by decide +kernel
theorem dX2_init_17 : decode cX2_init 17 = .ok (.istore_n 3, 1) := by decide +kernel
theorem dX2_init_18 : decode cX2_init 18 = .ok (.iload_n 2, 1) := by decide +kernel
theorem dX2_init_19 : decode cX2_init 19 = .ok (.iconst 4, 1) := by decide +kernel
theorem dX2_init_20 : decode cX2_init 20 = .ok (.invokestatic 19, 3) := by decide +kernel
theorem dX2_init_23 : decode cX2_init 23 = .ok (.iconst 1, 1) := by decide +kernel
theorem dX2_init_24 : decode cX2_init 24 = .ok (.isub, 1) := by decide +kernel
theorem dX2_init_25 : decode cX2_init 25 = .ok (.istore 4, 2) := by decide +kernel
theorem dX2_init_27 : decode cX2_init 27 = .ok (.iload 4, 2) := by decide +kernel
theorem dX2_init_29 : decode cX2_init 29 = .ok (.ifCond .lt 27, 3) := by decide +kernel
theorem dX2_init_32 : decode cX2_init 32 = .ok (.aload_n 0, 1) := by decide +kernel
theorem dX2_init_33 : decode cX2_init 33 = .ok (.getfield 9, 3) := by decide +kernel
theorem dX2_init_36 : decode cX2_init 36 = .ok (.iload 4, 2) := by decide +kernel
theorem dX2_init_38 : decode cX2_init 38 = .ok (.iload_n 3, 1) := by decide +kernel
theorem dX2_init_39 : decode cX2_init 39 = .ok (.sipush 128, 3) := by decide +kernel
theorem dX2_init_42 : decode cX2_init 42 = .ok (.irem, 1) := by decide +kernel
theorem dX2_init_43 : decode cX2_init 43 = .ok (.iastore, 1) := by decide +kernel
theorem dX2_init_44 : decode cX2_init 44 = .ok (.iload_n 3, 1) := by decide +kernel
theorem dX2_init_45 : decode cX2_init 45 = .ok (.sipush 128, 3) := by decide +kernel
theorem dX2_init_48 : decode cX2_init 48 = .ok (.idiv, 1) := by decide +kernel
theorem dX2_init_49 : decode cX2_init 49 = .ok (.istore_n 3, 1) := by decide +kernel
theorem dX2_init_50 : decode cX2_init 50 = .ok (.iinc 4 (-1), 3) := by decide +kernel
theorem dX2_init_53 : decode cX2_init 53 = .ok (.goto (-26), 3) := by decide +kernel
theorem dX2_init_56 : decode cX2_init 56 = .ok (.return_, 1) := by decide +kernel
theorem dX5_page_0 : decode cX5_page 0 = .ok (.iload_n 1, 1) := by decide +kernel
theorem dX5_page_1 : decode cX5_page 1 = .ok (.invokestatic 51, 3) := by decide +kernel
theorem dX5_page_4 : decode cX5_page 4 = .ok (.istore_n 2, 1) := by decide +kernel
theorem dX5_page_5 : decode cX5_page 5 = .ok (.iload_n 2, 1) := by decide +kernel
theorem dX5_page_6 : decode cX5_page 6 = .ok (.ifCond .ne 5, 3) := by decide +kernel
theorem dX5_page_9 : decode cX5_page 9 = .ok (.iconst (-1), 1) := by decide +kernel
theorem dX5_page_10 : decode cX5_page 10 = .ok (.ireturn, 1) := by decide +kernel
theorem dX5_page_11 : decode cX5_page 11 = .ok (.aload_n 0, 1) := by decide +kernel
theorem dX5_page_12 : decode cX5_page 12 = .ok (.getfield 55, 3) := by decide +kernel
theorem dX5_page_15 : decode cX5_page 15 = .ok (.bipush 8, 2) := by decide +kernel
theorem dX5_page_17 : decode cX5_page 17 = .ok (.if_icmp .lt 6, 3) := by decide +kernel
theorem dX5_page_23 : decode cX5_page 23 = .ok (.aload_n 0, 1) := by decide +kernel
theorem dX5_page_24 : decode cX5_page 24 = .ok (.getfield 11, 3) := by decide +kernel
theorem dX5_page_27 : decode cX5_page 27 = .ok (.aload_n 0, 1) := by decide +kernel
theorem dX5_page_28 : decode cX5_page 28 = .ok (.getfield 55, 3) := by decide +kernel
theorem dX5_page_31 : decode cX5_page 31 = .ok (.new 9, 3) := by decide +kernel
theorem dX5_page_34 : decode cX5_page 34 = .ok (.dup, 1) := by decide +kernel
theorem dX5_page_35 : decode cX5_page 35 = .ok (.iload_n 1, 1) := by decide +kernel
theorem dX5_page_36 : decode cX5_page 36 = .ok (.iload_n 2, 1) := by decide +kernel
theorem dX5_page_37 : decode cX5_page 37 = .ok (.invokespecial 58, 3) := by decide +kernel
theorem dX5_page_40 : decode cX5_page 40 = .ok (.aastore, 1) := by decide +kernel
theorem dX5_page_41 : decode cX5_page 41 = .ok (.aload_n 0, 1) := by decide +kernel
theorem dX5_page_42 : decode cX5_page 42 = .ok (.dup, 1) := by decide +kernel
theorem dX5_page_43 : decode cX5_page 43 = .ok (.getfield 55, 3) := by decide +kernel
theorem dX5_page_46 : decode cX5_page 46 = .ok (.iconst 1, 1) := by decide +kernel
theorem dX5_page_47 : decode cX5_page 47 = .ok (.iadd, 1) := by decide +kernel
theorem dX5_page_48 : decode cX5_page 48 = .ok (.putfield 55, 3) := by decide +kernel
theorem dX5_page_51 : decode cX5_page 51 = .ok (.aload_n 0, 1) := by decide +kernel
theorem dX5_page_52 : decode cX5_page 52 = .ok (.getfield 55, 3) := by decide +kernel
theorem dX5_page_55 : decode cX5_page 55 = .ok (.iconst 1, 1) := by decide +kernel
theorem dX5_page_56 : decode cX5_page 56 = .ok (.isub, 1) := by decide +kernel
theorem dX5_page_57 : decode cX5_page 57 = .ok (.ireturn, 1) := by decide +kernel
theorem dX4_init_0 : decode cX4_init 0 = .ok (.aload_n 0, 1) := by decide +kernel
theorem dX4_init_1 : decode cX4_init 1 = .ok (.invokespecial 3, 3) := by decide +kernel
theorem dX4_init_4 : decode cX4_init 4 = .ok (.return_, 1) := by decide +kernel
theorem dX0_init_0 : decode cX0_init 0 = .ok (.aload_n 0, 1) := by decide +kernel
theorem dX0_init_1 : decode cX0_init 1 = .ok (.invokespecial 3, 3) := by decide +kernel
theorem dX0_init_4 : decode cX0_init 4 = .ok (.aload_n 0, 1) := by decide +kernel
theorem dX0_init_5 : decode cX0_init 5 = .ok (.new 9, 3) := by decide +kernel
theorem dX0_init_8 : decode cX0_init 8 = .ok (.dup, 1) := by decide +kernel
theorem dX0_init_9 : decode cX0_init 9 = .ok (.invokespecial 11, 3) := by decide +kernel
theorem dX0_init_12 : decode cX0_init 12 = .ok (.putfield 12, 3) := by decide +kernel
theorem dX0_init_15 : decode cX0_init 15 = .ok (.aload_n 0, 1) := by decide +kernel
theorem dX0_init_16 : decode cX0_init 16 = .ok (.bipush 9, 2) := by decide +kernel
theorem dX0_init_18 : decode cX0_init 18 = .ok (.putfield 18, 3) := by decide +kernel
theorem dX0_init_21 : decode cX0_init 21 = .ok (.aload_n 0, 1) := by decide +kernel
theorem dX0_init_22 : decode cX0_init 22 = .ok (.iconst 1, 1) := by decide +kernel
theorem dX0_init_23 : decode cX0_init 23 = .ok (.putfield 22, 3) := by decide +kernel
theorem dX0_init_26 : decode cX0_init 26 = .ok (.aload_n 0, 1) := by decide +kernel
theorem dX0_init_27 : decode cX0_init 27 = .ok (.sipush 1000, 3) := by decide +kernel
theorem dX0_init_30 : decode cX0_init 30 = .ok (.putfield 25, 3) := by decide +kernel
theorem dX0_init_33 : decode cX0_init 33 = .ok (.aload_n 0, 1) := by decide +kernel
theorem dX0_init_34 : decode cX0_init 34 = .ok (.iload_n 1, 1) := by decide +kernel
theorem dX0_init_35 : decode cX0_init 35 = .ok (.bipush 10, 2) := by decide +kernel
theorem dX0_init_37 : decode cX0_init 37 = .ok (.idiv, 1) := by decide +kernel
theorem dX0_init_38 : decode cX0_init 38 = .ok (.putfield 28, 3) := by decide +kernel
theorem dX0_init_41 : decode cX0_init 41 = .ok (.aload_n 0, 1) := by decide +kernel
theorem dX0_init_42 : decode cX0_init 42 = .ok (.iload_n 1, 1) := by decide +kernel
theorem dX0_init_43 : decode cX0_init 43 = .ok (.bipush 10, 2) := by decide +kernel
theorem dX0_init_45 : decode cX0_init 45 = .ok (.irem, 1) := by decide +kernel
theorem dX0_init_46 : decode cX0_init 46 = .ok (.iconst 1, 1) := by decide +kernel
theorem dX0_init_47 : decode cX0_init 47 = .ok (.if_icmp .ne 7, 3) := by decide +kernel
theorem dX0_init_50 : decode cX0_init 50 = .ok (.iconst 1, 1) := by decide +kernel
theorem dX0_init_51 : decode cX0_init 51 = .ok (.goto 4, 3) := by decide +kernel
theorem dX0_init_54 : decode cX0_init 54 = .ok (.iconst 0, 1) := by decide +kernel
theorem dX0_init_55 : decode cX0_init 55 = .ok (.putfield 31, 3) := by decide +kernel
theorem dX0_init_58 : decode cX0_init 58 = .ok (.aload_n 0, 1) := by decide +kernel
theorem dX0_init_59 : decode cX0_init 59 = .ok (.iload_n 2, 1) := by decide +kernel
theorem dX0_init_60 : decode cX0_init 60 = .ok (.sipush 4096, 3) := by decide +kernel
theorem dX0_init_63 : decode cX0_init 63 = .ok (.idiv, 1) := by decide +kernel
theorem dX0_init_64 : decode cX0_init 64 = .ok (.putfield 35, 3) := by decide +kernel
theorem dX0_init_67 : decode cX0_init 67 = .ok (.aload_n 0, 1) := by decide +kernel
theorem dX0_init_68 : decode cX0_init 68 = .ok (.iload_n 2, 1) := by decide +kernel
theorem dX0_init_69 : decode cX0_init 69 = .ok (.sipush 4096, 3) := by decide +kernel
theorem dX0_init_72 : decode cX0_init 72 = .ok (.irem, 1) := by decide +kernel
theorem dX0_init_73 : decode cX0_init 73 = .ok (.putfield 38, 3) := by decide +kernel
theorem dX0_init_76 : decode cX0_init 76 = .ok (.aload_n 0, 1) := by decide +kernel
theorem dX0_init_77 : decode cX0_init 77 = .ok (.iload_n 3, 1) := by decide +kernel
theorem dX0_init_78 : decode cX0_init 78 = .ok (.putfield 41, 3) := by decide +kernel
theorem dX0_init_81 : decode cX0_init 81 = .ok (.return_, 1) := by decide +kernel
theorem dX5_campaign_0 : decode cX5_campaign 0 = .ok (.iload_n 1, 1) := by decide +kernel
theorem dX5_campaign_1 : decode cX5_campaign 1 = .ok (.invokestatic 69, 3) := by decide +kernel
theorem dX5_campaign_4 : decode cX5_campaign 4 = .ok (.ifCond .eq 21, 3) := by decide +kernel
theorem dX5_campaign_7 : decode cX5_campaign 7 = .ok (.iload_n 2, 1) := by decide +kernel
theorem dX5_campaign_8 : decode cX5_campaign 8 = .ok (.invokestatic 72, 3) := by decide +kernel
theorem dX5_campaign_11 : decode cX5_campaign 11 = .ok (.ifCond .eq 14, 3) := by decide +kernel
theorem dX5_campaign_14 : decode cX5_campaign 14 = .ok (.iload_n 1, 1) := by decide +kernel
theorem dX5_campaign_15 : decode cX5_campaign 15 = .ok (.bipush 10, 2) := by decide +kernel
theorem dX5_campaign_17 : decode cX5_campaign 17 = .ok (.idiv, 1) := by decide +kernel
theorem dX5_campaign_18 : decode cX5_campaign 18 = .ok (.iload_n 3, 1) := by decide +kernel
theorem dX5_campaign_19 : decode cX5_campaign 19 = .ok (.invokestatic 75, 3) := by decide +kernel
theorem dX5_campaign_22 : decode cX5_campaign 22 = .ok (.ifCond .ne 5, 3) := by decide +kernel
theorem dX5_campaign_25 : decode cX5_campaign 25 = .ok (.iconst (-1), 1) := by decide +kernel
theorem dX5_campaign_26 : decode cX5_campaign 26 = .ok (.ireturn, 1) := by decide +kernel
theorem dX5_campaign_27 : decode cX5_campaign 27 = .ok (.aload_n 0, 1) := by decide +kernel
theorem dX5_campaign_28 : decode cX5_campaign 28 = .ok (.getfield 79, 3) := by decide +kernel
theorem dX5_campaign_31 : decode cX5_campaign 31 = .ok (.bipush 40, 2) := by decide +kernel
theorem dX5_campaign_33 : decode cX5_campaign 33 = .ok (.if_icmp .lt 6, 3) := by decide +kernel
theorem dX5_campaign_39 : decode cX5_campaign 39 = .ok (.aload_n 0, 1) := by decide +kernel
theorem dX5_campaign_40 : decode cX5_campaign 40 = .ok (.getfield 17, 3) := by decide +kernel
theorem dX5_campaign_43 : decode cX5_campaign 43 = .ok (.aload_n 0, 1) := by decide +kernel
theorem dX5_campaign_44 : decode cX5_campaign 44 = .ok (.getfield 79, 3) := by decide +kernel
theorem dX5_campaign_47 : decode cX5_campaign 47 = .ok (.new 15, 3) := by decide +kernel
theorem dX5_campaign_50 : decode cX5_campaign 50 = .ok (.dup, 1) := by decide +kernel
theorem dX5_campaign_51 : decode cX5_campaign 51 = .ok (.iload_n 1, 1) := by decide +kernel
theorem dX5_campaign_52 : decode cX5_campaign 52 = .ok (.iload_n 2, 1) := by decide +kernel
theorem dX5_campaign_53 : decode cX5_campaign 53 = .ok (.iload_n 3, 1) := by decide +kernel
theorem dX5_campaign_54 : decode cX5_campaign 54 = .ok (.invokespecial 82, 3) := by decide +kernel
theorem dX5_campaign_57 : decode cX5_campaign 57 = .ok (.aastore, 1) := by decide +kernel
theorem dX5_campaign_58 : decode cX5_campaign 58 = .ok (.aload_n 0, 1) := by decide +kernel
theorem dX5_campaign_59 : decode cX5_campaign 59 = .ok (.dup, 1) := by decide +kernel
theorem dX5_campaign_60 : decode cX5_campaign 60 = .ok (.getfield 79, 3) := by decide +kernel
theorem dX5_campaign_63 : decode cX5_campaign 63 = .ok (.iconst 1, 1) := by decide +kernel
theorem dX5_campaign_64 : decode cX5_campaign 64 = .ok (.iadd, 1) := by decide +kernel
theorem dX5_campaign_65 : decode cX5_campaign 65 = .ok (.putfield 79, 3) := by decide +kernel
theorem dX5_campaign_68 : decode cX5_campaign 68 = .ok (.aload_n 0, 1) := by decide +kernel
theorem dX5_campaign_69 : decode cX5_campaign 69 = .ok (.getfield 79, 3) := by decide +kernel
theorem dX5_campaign_72 : decode cX5_campaign 72 = .ok (.iconst 1, 1) := by decide +kernel
theorem dX5_campaign_73 : decode cX5_campaign 73 = .ok (.isub, 1) := by decide +kernel
theorem dX5_campaign_74 : decode cX5_campaign 74 = .ok (.ireturn, 1) := by decide +kernel
theorem dX6_campaign_0 : decode cX6_campaign 0 = .ok (.iload_n 1, 1) := by decide +kernel
theorem dX6_campaign_1 : decode cX6_campaign 1 = .ok (.bipush 10, 2) := by decide +kernel
theorem dX6_campaign_3 : decode cX6_campaign 3 = .ok (.idiv, 1) := by decide +kernel
theorem dX6_campaign_4 : decode cX6_campaign 4 = .ok (.istore 4, 2) := by decide +kernel
theorem dX6_campaign_6 : decode cX6_campaign 6 = .ok (.iload_n 1, 1) := by decide +kernel
theorem dX6_campaign_7 : decode cX6_campaign 7 = .ok (.ifCond .lt 72, 3) := by decide +kernel
theorem dX6_campaign_10 : decode cX6_campaign 10 = .ok (.iload 4, 2) := by decide +kernel
theorem dX6_campaign_12 : decode cX6_campaign 12 = .ok (.iconst 0, 1) := by decide +kernel
theorem dX6_campaign_13 : decode cX6_campaign 13 = .ok (.iconst 2, 1) := by decide +kernel
theorem dX6_campaign_14 : decode cX6_campaign 14 = .ok (.invokestatic 136, 3) := by decide +kernel
theorem dX6_campaign_17 : decode cX6_campaign 17 = .ok (.ifCond .eq 62, 3) := by decide +kernel
theorem dX6_campaign_20 : decode cX6_campaign 20 = .ok (.iload_n 1, 1) := by decide +kernel
theorem dX6_campaign_21 : decode cX6_campaign 21 = .ok (.bipush 10, 2) := by decide +kernel
theorem dX6_campaign_23 : decode cX6_campaign 23 = .ok (.irem, 1) := by decide +kernel
theorem dX6_campaign_24 : decode cX6_campaign 24 = .ok (.iconst 0, 1) := by decide +kernel
theorem dX6_campaign_25 : decode cX6_campaign 25 = .ok (.iload 4, 2) := by decide +kernel
theorem dX6_campaign_27 : decode cX6_campaign 27 = .ok (.ifCond .ne 7, 3) := by decide +kernel
theorem dX6_campaign_30 : decode cX6_campaign 30 = .ok (.iconst 1, 1) := by decide +kernel
theorem dX6_campaign_31 : decode cX6_campaign 31 = .ok (.goto 4, 3) := by decide +kernel
theorem dX6_campaign_34 : decode cX6_campaign 34 = .ok (.iconst 0, 1) := by decide +kernel
theorem dX6_campaign_35 : decode cX6_campaign 35 = .ok (.invokestatic 136, 3) := by decide +kernel
theorem dX6_campaign_38 : decode cX6_campaign 38 = .ok (.ifCond .eq 41, 3) := by decide +kernel
theorem dX6_campaign_41 : decode cX6_campaign 41 = .ok (.iload_n 2, 1) := by decide +kernel
theorem dX6_campaign_42 : decode cX6_campaign 42 = .ok (.iconst 0, 1) := by decide +kernel
theorem dX6_campaign_43 : decode cX6_campaign 43 = .ok (.ldc 147, 2) := by decide +kernel
theorem dX6_campaign_45 : decode cX6_campaign 45 = .ok (.invokestatic 136, 3) := by decide +kernel
theorem dX6_campaign_48 : decode cX6_campaign 48 = .ok (.ifCond .eq 31, 3) := by decide +kernel
theorem dX6_campaign_51 : decode cX6_campaign 51 = .ok (.iload 4, 2) := by decide +kernel
theorem dX6_campaign_53 : decode cX6_campaign 53 = .ok (.iconst 2, 1) := by decide +kernel
theorem dX6_campaign_54 : decode cX6_campaign 54 = .ok (.if_icmp .ne 10, 3) := by decide +kernel
theorem dX6_campaign_57 : decode cX6_campaign 57 = .ok (.iload_n 3, 1) := by decide +kernel
theorem dX6_campaign_58 : decode cX6_campaign 58 = .ok (.ifCond .ne 21, 3) := by decide +kernel
theorem dX6_campaign_61 : decode cX6_campaign 61 = .ok (.goto 14, 3) := by decide +kernel
theorem dX6_campaign_64 : decode cX6_campaign 64 = .ok (.iload_n 3, 1) := by decide +kernel
theorem dX6_campaign_65 : decode cX6_campaign 65 = .ok (.iconst 1, 1) := by decide +kernel
theorem dX6_campaign_66 : decode cX6_campaign 66 = .ok (.sipush 1000, 3) := by decide +kernel
theorem dX6_campaign_69 : decode cX6_campaign 69 = .ok (.invokestatic 136, 3) := by decide +kernel
theorem dX6_campaign_72 : decode cX6_campaign 72 = .ok (.ifCond .eq 7, 3) := by decide +kernel
theorem dX6_campaign_75 : decode cX6_campaign 75 = .ok (.iconst 1, 1) := by decide +kernel
theorem dX6_campaign_76 : decode cX6_campaign 76 = .ok (.goto 4, 3) := by decide +kernel
theorem dX6_campaign_79 : decode cX6_campaign 79 = .ok (.iconst 0, 1) := by decide +kernel
theorem dX6_campaign_80 : decode cX6_campaign 80 = .ok (.istore 5, 2) := by decide +kernel
theorem dX6_campaign_82 : decode cX6_campaign 82 = .ok (.iload 5, 2) := by decide +kernel
theorem dX6_campaign_84 : decode cX6_campaign 84 = .ok (.ifCond .eq 17, 3) := by decide +kernel
theorem dX6_campaign_87 : decode cX6_campaign 87 = .ok (.iload_n 2, 1) := by decide +kernel
theorem dX6_campaign_88 : decode cX6_campaign 88 = .ok (.sipush 4096, 3) := by decide +kernel
theorem dX6_campaign_91 : decode cX6_campaign 91 = .ok (.idiv, 1) := by decide +kernel
theorem dX6_campaign_92 : decode cX6_campaign 92 = .ok (.iload_n 2, 1) := by decide +kernel
theorem dX6_campaign_93 : decode cX6_campaign 93 = .ok (.sipush 4096, 3) := by decide +kernel
theorem dX6_campaign_96 : decode cX6_campaign 96 = .ok (.irem, 1) := by decide +kernel
theorem dX6_campaign_97 : decode cX6_campaign 97 = .ok (.iand, 1) := by decide +kernel
theorem dX6_campaign_98 : decode cX6_campaign 98 = .ok (.ifCond .eq 5, 3) := by decide +kernel
theorem dX6_campaign_101 : decode cX6_campaign 101 = .ok (.iconst (-1), 1) := by decide +kernel
theorem dX6_campaign_102 : decode cX6_campaign 102 = .ok (.ireturn, 1) := by decide +kernel
theorem dX6_campaign_103 : decode cX6_campaign 103 = .ok (.aload_n 0, 1) := by decide +kernel
theorem dX6_campaign_104 : decode cX6_campaign 104 = .ok (.getfield 140, 3) := by decide +kernel
theorem dX6_campaign_107 : decode cX6_campaign 107 = .ok (.bipush 40, 2) := by decide +kernel
theorem dX6_campaign_109 : decode cX6_campaign 109 = .ok (.if_icmp .ne 6, 3) := by decide +kernel
theorem dX6_campaign_115 : decode cX6_campaign 115 = .ok (.aload_n 0, 1) := by decide +kernel
theorem dX6_campaign_116 : decode cX6_campaign 116 = .ok (.getfield 140, 3) := by decide +kernel
theorem dX6_campaign_119 : decode cX6_campaign 119 = .ok (.istore 6, 2) := by decide +kernel
theorem dX6_campaign_121 : decode cX6_campaign 121 = .ok (.aload_n 0, 1) := by decide +kernel
theorem dX6_campaign_122 : decode cX6_campaign 122 = .ok (.getfield 23, 3) := by decide +kernel
theorem dX6_campaign_125 : decode cX6_campaign 125 = .ok (.iload 6, 2) := by decide +kernel
theorem dX6_campaign_127 : decode cX6_campaign 127 = .ok (.iload 4, 2) := by decide +kernel
theorem dX6_campaign_129 : decode cX6_campaign 129 = .ok (.iastore, 1) := by decide +kernel
theorem dX6_campaign_130 : decode cX6_campaign 130 = .ok (.aload_n 0, 1) := by decide +kernel
theorem dX6_campaign_131 : decode cX6_campaign 131 = .ok (.getfield 26, 3) := by decide +kernel
theorem dX6_campaign_134 : decode cX6_campaign 134 = .ok (.iload 6, 2) := by decide +kernel
theorem dX6_campaign_136 : decode cX6_campaign 136 = .ok (.iload_n 1, 1) := by decide +kernel
theorem dX6_campaign_137 : decode cX6_campaign 137 = .ok (.bipush 10, 2) := by decide +kernel
theorem dX6_campaign_139 : decode cX6_campaign 139 = .ok (.irem, 1) := by decide +kernel
theorem dX6_campaign_140 : decode cX6_campaign 140 = .ok (.iastore, 1) := by decide +kernel
theorem dX6_campaign_141 : decode cX6_campaign 141 = .ok (.aload_n 0, 1) := by decide +kernel
theorem dX6_campaign_142 : decode cX6_campaign 142 = .ok (.getfield 29, 3) := by decide +kernel
theorem dX6_campaign_145 : decode cX6_campaign 145 = .ok (.iload 6, 2) := by decide +kernel
theorem dX6_campaign_147 : decode cX6_campaign 147 = .ok (.iload_n 2, 1) := by decide +kernel
theorem dX6_campaign_148 : decode cX6_campaign 148 = .ok (.sipush 4096, 3) := by decide +kernel
theorem dX6_campaign_151 : decode cX6_campaign 151 = .ok (.idiv, 1) := by decide +kernel
theorem dX6_campaign_152 : decode cX6_campaign 152 = .ok (.iastore, 1) := by decide +kernel
theorem dX6_campaign_153 : decode cX6_campaign 153 = .ok (.aload_n 0, 1) := by decide +kernel
theorem dX6_campaign_154 : decode cX6_campaign 154 = .ok (.getfield 32, 3) := by decide +kernel
theorem dX6_campaign_157 : decode cX6_campaign 157 = .ok (.iload 6, 2) := by decide +kernel
theorem dX6_campaign_159 : decode cX6_campaign 159 = .ok (.iload_n 2, 1) := by decide +kernel
theorem dX6_campaign_160 : decode cX6_campaign 160 = .ok (.sipush 4096, 3) := by decide +kernel
theorem dX6_campaign_163 : decode cX6_campaign 163 = .ok (.irem, 1) := by decide +kernel
theorem dX6_campaign_164 : decode cX6_campaign 164 = .ok (.iastore, 1) := by decide +kernel
theorem dX6_campaign_165 : decode cX6_campaign 165 = .ok (.aload_n 0, 1) := by decide +kernel
theorem dX6_campaign_166 : decode cX6_campaign 166 = .ok (.getfield 35, 3) := by decide +kernel
theorem dX6_campaign_169 : decode cX6_campaign 169 = .ok (.iload 6, 2) := by decide +kernel
theorem dX6_campaign_171 : decode cX6_campaign 171 = .ok (.iload_n 3, 1) := by decide +kernel
theorem dX6_campaign_172 : decode cX6_campaign 172 = .ok (.iastore, 1) := by decide +kernel
theorem dX6_campaign_173 : decode cX6_campaign 173 = .ok (.aload_n 0, 1) := by decide +kernel
theorem dX6_campaign_174 : decode cX6_campaign 174 = .ok (.getfield 44, 3) := by decide +kernel
theorem dX6_campaign_177 : decode cX6_campaign 177 = .ok (.iload 6, 2) := by decide +kernel
theorem dX6_campaign_179 : decode cX6_campaign 179 = .ok (.bipush 9, 2) := by decide +kernel
theorem dX6_campaign_181 : decode cX6_campaign 181 = .ok (.iastore, 1) := by decide +kernel
theorem dX6_campaign_182 : decode cX6_campaign 182 = .ok (.aload_n 0, 1) := by decide +kernel
theorem dX6_campaign_183 : decode cX6_campaign 183 = .ok (.getfield 47, 3) := by decide +kernel
theorem dX6_campaign_186 : decode cX6_campaign 186 = .ok (.iload 6, 2) := by decide +kernel
theorem dX6_campaign_188 : decode cX6_campaign 188 = .ok (.iconst 1, 1) := by decide +kernel
theorem dX6_campaign_189 : decode cX6_campaign 189 = .ok (.iastore, 1) := by decide +kernel
theorem dX6_campaign_190 : decode cX6_campaign 190 = .ok (.aload_n 0, 1) := by decide +kernel
theorem dX6_campaign_191 : decode cX6_campaign 191 = .ok (.getfield 50, 3) := by decide +kernel
theorem dX6_campaign_194 : decode cX6_campaign 194 = .ok (.iload 6, 2) := by decide +kernel
theorem dX6_campaign_196 : decode cX6_campaign 196 = .ok (.sipush 1000, 3) := by decide +kernel
theorem dX6_campaign_199 : decode cX6_campaign 199 = .ok (.iastore, 1) := by decide +kernel
theorem dX6_campaign_200 : decode cX6_campaign 200 = .ok (.aload_n 0, 1) := by decide +kernel
theorem dX6_campaign_201 : decode cX6_campaign 201 = .ok (.getfield 60, 3) := by decide +kernel
theorem dX6_campaign_204 : decode cX6_campaign 204 = .ok (.iload 6, 2) := by decide +kernel
theorem dX6_campaign_206 : decode cX6_campaign 206 = .ok (.iconst 0, 1) := by decide +kernel
theorem dX6_campaign_207 : decode cX6_campaign 207 = .ok (.iastore, 1) := by decide +kernel
theorem dX6_campaign_208 : decode cX6_campaign 208 = .ok (.aload_n 0, 1) := by decide +kernel
theorem dX6_campaign_209 : decode cX6_campaign 209 = .ok (.dup, 1) := by decide +kernel
theorem dX6_campaign_210 : decode cX6_campaign 210 = .ok (.getfield 140, 3) := by decide +kernel
theorem dX6_campaign_213 : decode cX6_campaign 213 = .ok (.iconst 1, 1) := by decide +kernel
theorem dX6_campaign_214 : decode cX6_campaign 214 = .ok (.iadd, 1) := by decide +kernel
theorem dX6_campaign_215 : decode cX6_campaign 215 = .ok (.putfield 140, 3) := by decide +kernel
theorem dX6_campaign_218 : decode cX6_campaign 218 = .ok (.iload 6, 2) := by decide +kernel
theorem dX6_campaign_220 : decode cX6_campaign 220 = .ok (.ireturn, 1) := by decide +kernel
theorem dX6_page_0 : decode cX6_page 0 = .ok (.iconst 0, 1) := by decide +kernel
theorem dX6_page_1 : decode cX6_page 1 = .ok (.istore_n 2, 1) := by decide +kernel
theorem dX6_page_2 : decode cX6_page 2 = .ok (.iload_n 1, 1) := by decide +kernel
theorem dX6_page_3 : decode cX6_page 3 = .ok (.ifCond .le 7, 3) := by decide +kernel
theorem dX6_page_6 : decode cX6_page 6 = .ok (.iconst 1, 1) := by decide +kernel
theorem dX6_page_7 : decode cX6_page 7 = .ok (.goto 4, 3) := by decide +kernel
theorem dX6_page_10 : decode cX6_page 10 = .ok (.iconst 0, 1) := by decide +kernel
theorem dX6_page_11 : decode cX6_page 11 = .ok (.istore_n 3, 1) := by decide +kernel
theorem dX6_page_12 : decode cX6_page 12 = .ok (.iload_n 1, 1) := by decide +kernel
theorem dX6_page_13 : decode cX6_page 13 = .ok (.istore 4, 2) := by decide +kernel
theorem dX6_page_15 : decode cX6_page 15 = .ok (.iload 4, 2) := by decide +kernel
theorem dX6_page_17 : decode cX6_page 17 = .ok (.ifCond .le 42, 3) := by decide +kernel
theorem dX6_page_20 : decode cX6_page 20 = .ok (.iload_n 3, 1) := by decide +kernel
theorem dX6_page_21 : decode cX6_page 21 = .ok (.ifCond .eq 22, 3) := by decide +kernel
theorem dX6_page_24 : decode cX6_page 24 = .ok (.iload 4, 2) := by decide +kernel
theorem dX6_page_26 : decode cX6_page 26 = .ok (.sipush 128, 3) := by decide +kernel
theorem dX6_page_29 : decode cX6_page 29 = .ok (.irem, 1) := by decide +kernel
theorem dX6_page_30 : decode cX6_page 30 = .ok (.iconst 1, 1) := by decide +kernel
theorem dX6_page_31 : decode cX6_page 31 = .ok (.bipush 100, 2) := by decide +kernel
theorem dX6_page_33 : decode cX6_page 33 = .ok (.invokestatic 136, 3) := by decide +kernel
theorem dX6_page_36 : decode cX6_page 36 = .ok (.ifCond .eq 7, 3) := by decide +kernel
theorem dX6_page_39 : decode cX6_page 39 = .ok (.iconst 1, 1) := by decide +kernel
theorem dX6_page_40 : decode cX6_page 40 = .ok (.goto 4, 3) := by decide +kernel
theorem dX6_page_43 : decode cX6_page 43 = .ok (.iconst 0, 1) := by decide +kernel
theorem dX6_page_44 : decode cX6_page 44 = .ok (.istore_n 3, 1) := by decide +kernel
theorem dX6_page_45 : decode cX6_page 45 = .ok (.iinc 2 1, 3) := by decide +kernel
theorem dX6_page_48 : decode cX6_page 48 = .ok (.iload 4, 2) := by decide +kernel
theorem dX6_page_50 : decode cX6_page 50 = .ok (.sipush 128, 3) := by decide +kernel
theorem dX6_page_53 : decode cX6_page 53 = .ok (.idiv, 1) := by decide +kernel
theorem dX6_page_54 : decode cX6_page 54 = .ok (.istore 4, 2) := by decide +kernel
theorem dX6_page_56 : decode cX6_page 56 = .ok (.goto (-41), 3) := by decide +kernel
theorem dX6_page_59 : decode cX6_page 59 = .ok (.iload_n 3, 1) := by decide +kernel
theorem dX6_page_60 : decode cX6_page 60 = .ok (.ifCond .eq 8, 3) := by decide +kernel
theorem dX6_page_63 : decode cX6_page 63 = .ok (.iload_n 2, 1) := by decide +kernel
theorem dX6_page_64 : decode cX6_page 64 = .ok (.iconst 4, 1) := by decide +kernel
theorem dX6_page_65 : decode cX6_page 65 = .ok (.if_icmp .le 5, 3) := by decide +kernel
theorem dX6_page_68 : decode cX6_page 68 = .ok (.iconst (-1), 1) := by decide +kernel
theorem dX6_page_69 : decode cX6_page 69 = .ok (.ireturn, 1) := by decide +kernel
theorem dX6_page_70 : decode cX6_page 70 = .ok (.aload_n 0, 1) := by decide +kernel
theorem dX6_page_71 : decode cX6_page 71 = .ok (.getfield 133, 3) := by decide +kernel
theorem dX6_page_74 : decode cX6_page 74 = .ok (.bipush 8, 2) := by decide +kernel
theorem dX6_page_76 : decode cX6_page 76 = .ok (.if_icmp .ne 6, 3) := by decide +kernel
theorem dX6_page_82 : decode cX6_page 82 = .ok (.iload_n 1, 1) := by decide +kernel
theorem dX6_page_83 : decode cX6_page 83 = .ok (.istore 4, 2) := by decide +kernel
theorem dX6_page_85 : decode cX6_page 85 = .ok (.iload_n 2, 1) := by decide +kernel
theorem dX6_page_86 : decode cX6_page 86 = .ok (.iconst 1, 1) := by decide +kernel
theorem dX6_page_87 : decode cX6_page 87 = .ok (.isub, 1) := by decide +kernel
theorem dX6_page_88 : decode cX6_page 88 = .ok (.istore 5, 2) := by decide +kernel
theorem dX6_page_90 : decode cX6_page 90 = .ok (.iload 5, 2) := by decide +kernel
theorem dX6_page_92 : decode cX6_page 92 = .ok (.ifCond .lt 37, 3) := by decide +kernel
theorem dX6_page_95 : decode cX6_page 95 = .ok (.aload_n 0, 1) := by decide +kernel
theorem dX6_page_96 : decode cX6_page 96 = .ok (.getfield 17, 3) := by decide +kernel
theorem dX6_page_99 : decode cX6_page 99 = .ok (.iconst 4, 1) := by decide +kernel
theorem dX6_page_100 : decode cX6_page 100 = .ok (.aload_n 0, 1) := by decide +kernel
theorem dX6_page_101 : decode cX6_page 101 = .ok (.getfield 133, 3) := by decide +kernel
theorem dX6_page_104 : decode cX6_page 104 = .ok (.imul, 1) := by decide +kernel
theorem dX6_page_105 : decode cX6_page 105 = .ok (.iload 5, 2) := by decide +kernel
theorem dX6_page_107 : decode cX6_page 107 = .ok (.iadd, 1) := by decide +kernel
theorem dX6_page_108 : decode cX6_page 108 = .ok (.iload 4, 2) := by decide +kernel
theorem dX6_page_110 : decode cX6_page 110 = .ok (.sipush 128, 3) := by decide +kernel
theorem dX6_page_113 : decode cX6_page 113 = .ok (.irem, 1) := by decide +kernel
theorem dX6_page_114 : decode cX6_page 114 = .ok (.iastore, 1) := by decide +kernel
theorem dX6_page_115 : decode cX6_page 115 = .ok (.iload 4, 2) := by decide +kernel
theorem dX6_page_117 : decode cX6_page 117 = .ok (.sipush 128, 3) := by decide +kernel
theorem dX6_page_120 : decode cX6_page 120 = .ok (.idiv, 1) := by decide +kernel
theorem dX6_page_121 : decode cX6_page 121 = .ok (.istore 4, 2) := by decide +kernel
theorem dX6_page_123 : decode cX6_page 123 = .ok (.iinc 5 (-1), 3) := by decide +kernel
theorem dX6_page_126 : decode cX6_page 126 = .ok (.goto (-36), 3) := by decide +kernel
theorem dX6_page_129 : decode cX6_page 129 = .ok (.aload_n 0, 1) := by decide +kernel
theorem dX6_page_130 : decode cX6_page 130 = .ok (.getfield 13, 3) := by decide +kernel
theorem dX6_page_133 : decode cX6_page 133 = .ok (.aload_n 0, 1) := by decide +kernel
theorem dX6_page_134 : decode cX6_page 134 = .ok (.getfield 133, 3) := by decide +kernel
theorem dX6_page_137 : decode cX6_page 137 = .ok (.iload_n 2, 1) := by decide +kernel
theorem dX6_page_138 : decode cX6_page 138 = .ok (.iastore, 1) := by decide +kernel
theorem dX6_page_139 : decode cX6_page 139 = .ok (.aload_n 0, 1) := by decide +kernel
theorem dX6_page_140 : decode cX6_page 140 = .ok (.dup, 1) := by decide +kernel
theorem dX6_page_141 : decode cX6_page 141 = .ok (.getfield 133, 3) := by decide +kernel
theorem dX6_page_144 : decode cX6_page 144 = .ok (.iconst 1, 1) := by decide +kernel
theorem dX6_page_145 : decode cX6_page 145 = .ok (.iadd, 1) := by decide +kernel
theorem dX6_page_146 : decode cX6_page 146 = .ok (.putfield 133, 3) := by decide +kernel
theorem dX6_page_149 : decode cX6_page 149 = .ok (.aload_n 0, 1) := by decide +kernel
theorem dX6_page_150 : decode cX6_page 150 = .ok (.getfield 133, 3) := by decide +kernel
theorem dX6_page_153 : decode cX6_page 153 = .ok (.iconst 1, 1) := by decide +kernel
theorem dX6_page_154 : decode cX6_page 154 = .ok (.isub, 1) := by decide +kernel
theorem dX6_page_155 : decode cX6_page 155 = .ok (.ireturn, 1) := by decide +kernel
end
section
/-- what a method of one object may change: the object, and what is new -/
abbrev aO (b sz : Nat) : Nat → Prop := fun q => q = b ∨ sz ≤ q
/-- void methods that change nothing -/
abbrev qRv : Array Value → State → Outcome → State → Prop := va_Qv (fun (_ : Unit) => True) (fun _ _ => True) (fun _ => False)
abbrev mVv (l : Launch) (y : MethodName) (bytes : ByteArray) (maxL : Nat) (d : Nat) (D : va_G) (wc : va_W) (tc : List (ClassId × FieldType)) (As : List Value) : Prop :=
  Met l y (Cond.code y bytes maxL none :: lw_B) (rmD d 0 0) (va_Pc As (fun U => va_P D vwCl wc U.heap ∧ va_K D vwCl tc U)) qRv 0 0 (fun _ => False)
/-- void methods of one object: its fields change to fs' -/
abbrev mOv (l : Launch) (y : MethodName) (bytes : ByteArray) (maxL : Nat) (d mc ms : Nat) (D : va_G) (b ci : Nat) (fs : List Value) (sz : Nat) (tc : List (ClassId × FieldType)) (ex : State → Prop) (As : List Value) (post : List Value → Prop) : Prop :=
  Met l y (Cond.code y bytes maxL none :: lw_B) (rmD d mc ms) (va_Pc As (fun U => U.heap.size = sz ∧ va_P D vwCl [(b, .inr (ci, fs))] U.heap ∧ va_K D vwCl tc U ∧ ex U)) (va_Qv (fun fs' : List Value => post fs') (fun fs' U => va_P D vwCl [(b, .inr (ci, fs'))] U.heap) (aO b sz)) mc ms (aO b sz)
/-- methods of several cells of which only the answer is told -/
abbrev mFi (l : Launch) (y : MethodName) (bytes : ByteArray) (maxL : Nat) (d mc ms : Nat) (D : va_G) (wc : va_W) (sz : Nat) (tc : List (ClassId × FieldType)) (ex : State → Prop) (As : List Value) (post : Int32 → Prop) : Prop :=
  Met l y (Cond.code y bytes maxL (some .int) :: lw_B) (rmD d mc ms) (va_Pc As (fun U => U.heap.size = sz ∧ va_P D vwCl wc U.heap ∧ va_K D vwCl tc U ∧ va_D (fun _ => True) wc ∧ ex U)) (va_Qi (fun r (_ : Unit) => post r) (fun _ _ => True) (va_A wc sz)) mc ms (va_A wc sz)
/-- what is passed down of the tables beside the words: blind of the frame, and it stays -/
def exOk (s : State) (ex : State → Prop) : Prop := (∀ (a : Array Value) (U : State) (g : JFrame) (mk : MethodId), ex U → ex (U.calling g mk a)) ∧ ∀ U : State, s.WarmedH U.vm → ex U
theorem exT {s : State} : exOk s (fun _ => True) := ⟨fun _ _ _ _ _ => trivial, fun _ _ => trivial⟩
section KO
variable {p : Program} {l : Launch} {e : Env} {R : Room} {s : State} {m : MethodId} {args : Array Value} {below : List Frame} {meth : Method} {c : Code} {H : Heap} {locs : List Loc} {cells slots : Nat} {Q : State → Prop}
variable {A0 : Nat → Prop} {H0 : Heap} {D : va_G} {ws : va_W} {pc : Nat} {ls : Array Slot} {st0 rest : List Value} {y : MethodName} {bytes cc : ByteArray} {maxL nL index d n mc ms : Nat} {own : String} {As : List Value}
theorem k_set {b q0 ci : Nat} {fs fs' : List Value} {H1 : Heap} (he : ws[q0]? = some (b, .inr (ci, fs))) (hP : va_P D vwCl ws H) (hD : va_D A0 ws) (hB : va_P D vwCl [(b, .inr (ci, fs'))] H1) (hk : ∀ q : Nat, q < H.size → ¬ aO b H.size q → H1[q]? = H[q]?) : va_P D vwCl (ws.set q0 (b, .inr (ci, fs'))) H1 := by
  have hl := (List.getElem?_eq_some_iff.mp he).1
  intro k q hkq
  by_cases hkp : k = q0
  · subst hkp
    rw [List.getElem?_set_self hl] at hkq
    cases hkq
    exact hB 0 _ rfl
  · rw [List.getElem?_set_ne (Ne.symm hkp)] at hkq
    have hlt := (hP k q hkq).lt
    exact (hP k q hkq).kept (hk q.1 hlt (fun h => h.elim (fun h => hkp (hD.1 k q0 q _ hkq he h)) (fun h => by omega)))
theorem k_Oc {b q0 ci : Nat} {fs : List Value} {post : List Value → Prop} {a : Array Value} (he : ws[q0]? = some (b, .inr (ci, fs))) (hP : va_P D vwCl ws H) (hD : va_D A0 ws) (hS : va_S A0 H0 H locs) (hA : ∀ q, H0.size ≤ q → A0 q)
    (hr : va_Run p l e R s m args below meth c H locs cells slots mc ms (F0 m pc ls st0) rest (va_Qv (fun fs' : List Value => post fs') (fun fs' U => va_P D vwCl [(b, .inr (ci, fs'))] U.heap) (aO b H.size) a) (aO b H.size))
    (kk : ∀ (fs' : List Value) (H1 : Heap) (locs1 : List Loc), post fs' → va_P D vwCl (ws.set q0 (b, .inr (ci, fs'))) H1 → va_D A0 (ws.set q0 (b, .inr (ci, fs'))) → va_S A0 H0 H1 locs1 → W p l e R s m args below meth c H1 locs1 (cells + mc) (slots + ms) Q (F0 m (pc + 3) ls rest)) : W p l e R s m args below meth c H locs cells slots Q (F0 m pc ls st0) := by
  have hF : ∀ q, aO b H.size q → A0 q := fun q h => h.elim (fun h => by rw [h]; exact hD.2 q0 _ he) (fun h => hA q (Nat.le_trans hS.1 h))
  refine va_callv hr hS (fun q _ h => hF q h) hF (fun fs' t H1 locs1 ht _ hp hB _ hk hS1 => ?_)
  rw [ht] at hB
  exact kk fs' H1 locs1 hp (k_set he hP hD hB hk) (hD.set he) hS1
/-- a call of a void method of one object -/
theorem k_Ov {b q0 ci : Nat} {fs : List Value} {q : vw_C} {tc : List (ClassId × FieldType)} {ex : State → Prop} {post : List Value → Prop} (S : CallFix p m c cc nL s args lw_B own) (hM : mOv l y bytes maxL d mc ms D b ci fs H.size tc ex (.ref b :: As) post) (n : Nat) (w1 : Cond.methodLink own index y ∈ lw_B) (w2 : Cond.instanceMethod y ∈ lw_B) (w3 : Cond.selects q.1 y y ∈ lw_B) (w4 : Cond.initialized q.1 ∈ lw_B) (w5 : Cond.code y bytes maxL none ∈ lw_B)
    (hd : y.cls = q.1 ∧ y.cls ≠ "java/lang/invoke/MethodHandle" ∧ y.cls ≠ "java/lang/invoke/VarHandle" ∧ (parseMethodDescriptor y.desc).map (fun d => d.parameters.length) = some n) (hR : d + 1 ≤ R.frames ∧ 8 + (maxL + 11) + 40 * d ≤ R.locals)
    (hKc : va_K D vwCl tc s) (hex : exOk s ex) (hc : vwCl[ci]? = some q) (he : ws[q0]? = some (b, .inr (ci, fs)))
    (hn : As.length = n) (hls : ls.size = nL) (hst : st0 = As.reverse ++ .ref b :: rest) (hW : (rest.map fun v => v.category).sum ≤ 8) (hdg : decode cc pc = .ok (.invokevirtual index, 3)) (hf : cells + mc ≤ R.cells ∧ slots + ms ≤ R.slots)
    (hP : va_P D vwCl ws H) (hD : va_D A0 ws) (hS : va_S A0 H0 H locs) (hA : ∀ q, H0.size ≤ q → A0 q)
    (kk : ∀ (fs' : List Value) (H1 : Heap) (locs1 : List Loc), post fs' → va_P D vwCl (ws.set q0 (b, .inr (ci, fs'))) H1 → va_D A0 (ws.set q0 (b, .inr (ci, fs'))) → va_S A0 H0 H1 locs1 → W p l e R s m args below meth c H1 locs1 (cells + mc) (slots + ms) Q (F0 m (pc + 3) ls rest)) : W p l e R s m args below meth c H locs cells slots Q (F0 m pc ls st0) := by
  have hPc : va_P D vwCl [(b, .inr (ci, fs))] H := fun k q hk => by
    have h0 : k < 1 := (List.getElem?_eq_some_iff.mp hk).1
    rw [show k = 0 by omega] at hk
    cases hk
    exact hP q0 _ he
  exact k_Oc he hP hD hS hA (va_runV (As := As) (rest := rest) S hM (cwV n S.2.2.2.2 (lb_V w1 w2 w3 w4 w5) rfl rfl rfl hd hR) ⟨fun a U g mk q => ⟨q.1, q.2.1, q.2.2.1, va_K.moved (u := U) (U := U.calling g mk a) (Vm.Alike.refl U.vm) q.2.2.2.1, hex.1 a U g mk q.2.2.2.2⟩, va_recv hKc hPc hc (q0 := 0) rfl, fun U hU hW => ⟨rfl, by rw [hU], by rw [hU]; exact hPc, va_K.moved hW.alike hKc, hex.2 U hW⟩⟩ rfl hn hls hst (lv_room hW) hdg hf) kk
/-- a call of a constructor -/
theorem k_OI {b q0 ci : Nat} {fs : List Value} {tc : List (ClassId × FieldType)} {ex : State → Prop} {post : List Value → Prop} (S : CallFix p m c cc nL s args lw_B own) (hM : mOv l y bytes maxL d mc ms D b ci fs H.size tc ex (.ref b :: As) post) (n : Nat) (w1 : Cond.methodLink own index y ∈ lw_B) (w2 : Cond.instanceMethod y ∈ lw_B) (w4 : Cond.initialized y.cls ∈ lw_B) (w5 : Cond.code y bytes maxL none ∈ lw_B) (hy : y.name = "<init>")
    (hd : y.cls ≠ "java/lang/invoke/MethodHandle" ∧ y.cls ≠ "java/lang/invoke/VarHandle" ∧ (parseMethodDescriptor y.desc).map (fun d => d.parameters.length) = some n) (hR : d + 1 ≤ R.frames ∧ 8 + (maxL + 11) + 40 * d ≤ R.locals)
    (hKc : va_K D vwCl tc s) (hex : exOk s ex) (he : ws[q0]? = some (b, .inr (ci, fs)))
    (hn : As.length = n) (hls : ls.size = nL) (hst : st0 = As.reverse ++ .ref b :: rest) (hW : (rest.map fun v => v.category).sum ≤ 8) (hdg : decode cc pc = .ok (.invokespecial index, 3)) (hf : cells + mc ≤ R.cells ∧ slots + ms ≤ R.slots)
    (hP : va_P D vwCl ws H) (hD : va_D A0 ws) (hS : va_S A0 H0 H locs) (hA : ∀ q, H0.size ≤ q → A0 q)
    (kk : ∀ (fs' : List Value) (H1 : Heap) (locs1 : List Loc), post fs' → va_P D vwCl (ws.set q0 (b, .inr (ci, fs'))) H1 → va_D A0 (ws.set q0 (b, .inr (ci, fs'))) → va_S A0 H0 H1 locs1 → W p l e R s m args below meth c H1 locs1 (cells + mc) (slots + ms) Q (F0 m (pc + 3) ls rest)) : W p l e R s m args below meth c H locs cells slots Q (F0 m pc ls st0) := by
  have hPc : va_P D vwCl [(b, .inr (ci, fs))] H := fun k q hk => by
    have h0 : k < 1 := (List.getElem?_eq_some_iff.mp hk).1
    rw [show k = 0 by omega] at hk
    cases hk
    exact hP q0 _ he
  have ht := S.2.2.2.2
  exact k_Oc he hP hD hS hA (va_runI (As := As) (rest := rest) S hM (cwI n ht (lb_GI (lb_c w5)) rfl rfl rfl (ht _ w4) (ht _ w1) (ht _ w2) hy hd hR) ⟨fun a U g mk q => ⟨q.1, q.2.1, q.2.2.1, va_K.moved (u := U) (U := U.calling g mk a) (Vm.Alike.refl U.vm) q.2.2.2.1, hex.1 a U g mk q.2.2.2.2⟩, fun U hU hW => ⟨rfl, by rw [hU], by rw [hU]; exact hPc, va_K.moved hW.alike hKc, hex.2 U hW⟩⟩ rfl hn hls hst (lv_room hW) hdg hf) kk
/-- a call of a nest mate's private constructor -/
theorem k_OIN {host : String} {b q0 ci : Nat} {fs : List Value} {tc : List (ClassId × FieldType)} {ex : State → Prop} {post : List Value → Prop} (S : CallFix p m c cc nL s args lw_B own) (hM : mOv l y bytes maxL d mc ms D b ci fs H.size tc ex (.ref b :: As) post) (n : Nat) (w1 : va_Nw (.methodLinkNest own index y host) s) (w2 : Cond.instanceMethod y ∈ lw_B) (w4 : Cond.initialized y.cls ∈ lw_B) (w5 : Cond.code y bytes maxL none ∈ lw_B) (hy : y.name = "<init>")
    (hd : y.cls ≠ "java/lang/invoke/MethodHandle" ∧ y.cls ≠ "java/lang/invoke/VarHandle" ∧ (parseMethodDescriptor y.desc).map (fun d => d.parameters.length) = some n) (hR : d + 1 ≤ R.frames ∧ 8 + (maxL + 11) + 40 * d ≤ R.locals)
    (hKc : va_K D vwCl tc s) (hex : exOk s ex) (he : ws[q0]? = some (b, .inr (ci, fs)))
    (hn : As.length = n) (hls : ls.size = nL) (hst : st0 = As.reverse ++ .ref b :: rest) (hW : (rest.map fun v => v.category).sum ≤ 8) (hdg : decode cc pc = .ok (.invokespecial index, 3)) (hf : cells + mc ≤ R.cells ∧ slots + ms ≤ R.slots)
    (hP : va_P D vwCl ws H) (hD : va_D A0 ws) (hS : va_S A0 H0 H locs) (hA : ∀ q, H0.size ≤ q → A0 q)
    (kk : ∀ (fs' : List Value) (H1 : Heap) (locs1 : List Loc), post fs' → va_P D vwCl (ws.set q0 (b, .inr (ci, fs'))) H1 → va_D A0 (ws.set q0 (b, .inr (ci, fs'))) → va_S A0 H0 H1 locs1 → W p l e R s m args below meth c H1 locs1 (cells + mc) (slots + ms) Q (F0 m (pc + 3) ls rest)) : W p l e R s m args below meth c H locs cells slots Q (F0 m pc ls st0) := by
  have hPc : va_P D vwCl [(b, .inr (ci, fs))] H := fun k q hk => by
    have h0 : k < 1 := (List.getElem?_eq_some_iff.mp hk).1
    rw [show k = 0 by omega] at hk
    cases hk
    exact hP q0 _ he
  have ht := S.2.2.2.2
  exact k_Oc he hP hD hS hA (va_runIN (As := As) (rest := rest) S hM ⟨va_cnB n ht (lb_GI (lb_c w5)) rfl rfl rfl w1 (ht _ w4) hd hR, hy, ht _ w2⟩ ⟨fun a U g mk q => ⟨q.1, q.2.1, q.2.2.1, va_K.moved (u := U) (U := U.calling g mk a) (Vm.Alike.refl U.vm) q.2.2.2.1, hex.1 a U g mk q.2.2.2.2⟩, fun U hU hW => ⟨rfl, by rw [hU], by rw [hU]; exact hPc, va_K.moved hW.alike hKc, hex.2 U hW⟩⟩ rfl hn hls hst (lv_room hW) hdg hf) kk
/-- a call of a void method that changes nothing -/
theorem k_Vv {wc : va_W} {tc : List (ClassId × FieldType)} {cl : List vw_C} {b ci q0 : Nat} {fs : List Value} {q : vw_C} (S : CallFix p m c cc nL s args lw_B own) (hM : mVv l y bytes maxL d D wc tc (.ref b :: As)) (n : Nat) (w1 : Cond.methodLink own index y ∈ lw_B) (w2 : Cond.instanceMethod y ∈ lw_B) (w3 : Cond.selects q.1 y y ∈ lw_B) (w4 : Cond.initialized q.1 ∈ lw_B) (w5 : Cond.code y bytes maxL none ∈ lw_B)
    (hd : y.cls = q.1 ∧ y.cls ≠ "java/lang/invoke/MethodHandle" ∧ y.cls ≠ "java/lang/invoke/VarHandle" ∧ (parseMethodDescriptor y.desc).map (fun d => d.parameters.length) = some n) (hR : d + 1 ≤ R.frames ∧ 8 + (maxL + 11) + 40 * d ≤ R.locals)
    (hPc : va_P D vwCl wc H) (hKc : va_K D vwCl tc s) (hc : vwCl[ci]? = some q) (he : wc[q0]? = some (b, .inr (ci, fs)))
    (hn : As.length = n) (hls : ls.size = nL) (hst : st0 = As.reverse ++ .ref b :: rest) (hW : (rest.map fun v => v.category).sum ≤ 8) (hdg : decode cc pc = .ok (.invokevirtual index, 3)) (hf : cells + 0 ≤ R.cells ∧ slots + 0 ≤ R.slots)
    (hS : va_S A0 H0 H locs) (hP : va_P D cl ws H)
    (kk : ∀ (H1 : Heap) (locs1 : List Loc), va_P D cl ws H1 → va_S A0 H0 H1 locs1 → W p l e R s m args below meth c H1 locs1 cells slots Q (F0 m (pc + 3) ls rest)) : W p l e R s m args below meth c H locs cells slots Q (F0 m pc ls st0) :=
  va_callv (va_runV (As := As) (rest := rest) S hM (cwV n S.2.2.2.2 (lb_V w1 w2 w3 w4 w5) rfl rfl rfl hd hR) ⟨fun a U g mk q => ⟨q.1, q.2.1, va_K.moved (u := U) (U := U.calling g mk a) (Vm.Alike.refl U.vm) q.2.2⟩, va_recv hKc hPc hc he, fun U hU hW => ⟨rfl, by rw [hU]; exact hPc, va_K.moved hW.alike hKc⟩⟩ rfl hn hls hst (lv_room hW) hdg hf) hS (fun _ _ h => h.elim) (fun _ h => h.elim) (fun _ _ H1 locs1 _ _ _ _ _ hk hS1 => kk H1 locs1 (hP.kept fun k q hq => hk q.1 (hP k q hq).lt id) hS1)
/-- a call of which only the answer is told; the cells wr are kept -/
theorem k_Fi {wc wr : va_W} {tc : List (ClassId × FieldType)} {ex : State → Prop} {b ci q0 : Nat} {fs : List Value} {q : vw_C} {post : Int32 → Prop} (S : CallFix p m c cc nL s args lw_B own) (hM : mFi l y bytes maxL d mc ms D wc H.size tc ex (.ref b :: As) post) (n : Nat) (w1 : Cond.methodLink own index y ∈ lw_B) (w2 : Cond.instanceMethod y ∈ lw_B) (w3 : Cond.selects q.1 y y ∈ lw_B) (w4 : Cond.initialized q.1 ∈ lw_B) (w5 : Cond.code y bytes maxL (some .int) ∈ lw_B)
    (hd : y.cls = q.1 ∧ y.cls ≠ "java/lang/invoke/MethodHandle" ∧ y.cls ≠ "java/lang/invoke/VarHandle" ∧ (parseMethodDescriptor y.desc).map (fun d => d.parameters.length) = some n) (hR : d + 1 ≤ R.frames ∧ 8 + (maxL + 11) + 40 * d ≤ R.locals)
    (hKc : va_K D vwCl tc s) (hex : exOk s ex) (hc : vwCl[ci]? = some q) (he : wc[q0]? = some (b, .inr (ci, fs))) (isC isR : List Nat) (hn0 : va_nd isC = true) (hC : isC.map (fun i => ws[i]?) = wc.map some) (hRr : isR.map (fun i => ws[i]?) = wr.map some) (hn1 : va_nd isR = true) (hdis : ∀ i ∈ isR, i ∉ isC)
    (hn : As.length = n) (hls : ls.size = nL) (hst : st0 = As.reverse ++ .ref b :: rest) (hW : (rest.map fun v => v.category).sum ≤ 8) (hdg : decode cc pc = .ok (.invokevirtual index, 3)) (hf : cells + mc ≤ R.cells ∧ slots + ms ≤ R.slots)
    (hP : va_P D vwCl ws H) (hD : va_D A0 ws) (hS : va_S A0 H0 H locs) (hA : ∀ q, H0.size ≤ q → A0 q)
    (kk : ∀ (r : Int32) (H1 : Heap) (locs1 : List Loc), post r → va_P D vwCl wr H1 → va_D A0 wr → va_S A0 H0 H1 locs1 → W p l e R s m args below meth c H1 locs1 (cells + mc) (slots + ms) Q (F0 m (pc + 3) ls (.int r :: rest))) : W p l e R s m args below meth c H locs cells slots Q (F0 m pc ls st0) := by
  have hDc : va_D A0 wc := hD.sub isC hn0 hC
  have hPc : va_P D vwCl wc H := fun k q hk => by
    have h1 : (isC.map (fun i => ws[i]?))[k]? = some (some q) := by rw [hC, List.getElem?_map, hk]; rfl
    rw [List.getElem?_map] at h1
    cases hi : isC[k]? with
    | none => rw [hi] at h1; cases h1
    | some i => rw [hi] at h1; exact hP i q (Option.some.inj h1)
  have hF := va_free (wc := wc) hD hS hA isC hC
  refine va_calli (va_runV (As := As) (rest := rest) S hM (cwV n S.2.2.2.2 (lb_V w1 w2 w3 w4 w5) rfl rfl rfl hd hR) ⟨fun a U g mk q => ⟨q.1, q.2.1, q.2.2.1, va_K.moved (u := U) (U := U.calling g mk a) (Vm.Alike.refl U.vm) q.2.2.2.1, q.2.2.2.2.1, hex.1 a U g mk q.2.2.2.2.2⟩, va_recv hKc hPc hc he, fun U hU hW => ⟨rfl, by rw [hU], by rw [hU]; exact hPc, va_K.moved hW.alike hKc, hDc.weaken (fun _ _ _ _ => trivial), hex.2 U hW⟩⟩ rfl hn hls hst (lv_room hW) hdg hf) hS (fun q _ h => hF q h) hF (fun r _ t H1 locs1 ht _ hp _ _ hk hS1 => ?_)
  obtain ⟨h1, h2⟩ := va_join (w1 := []) hP hD isC isR hC hRr hn1 hdis hk hF (fun k q h => by simp at h) ⟨fun i j p q h => by simp at h, fun k q h => by simp at h⟩
  rw [List.append_nil] at h1 h2
  exact kk r H1 locs1 hp h1 h2 hS1
/-- a loop whose rounds make nothing new: n rounds are left -/
theorem k_loop (I : Nat → Heap → List Loc → Array Slot → Prop)
    (base : ∀ (H : Heap) (locs : List Loc) (ls : Array Slot), I 0 H locs ls → W p l e R s m args below meth c H locs cells slots Q (F0 m pc ls []))
    (step : ∀ (n : Nat) (H : Heap) (locs : List Loc) (ls : Array Slot), I (n + 1) H locs ls → (∀ (H1 : Heap) (locs1 : List Loc) (ls1 : Array Slot), I n H1 locs1 ls1 → W p l e R s m args below meth c H1 locs1 cells slots Q (F0 m pc ls1 [])) → W p l e R s m args below meth c H locs cells slots Q (F0 m pc ls [])) :
    ∀ (n : Nat) (H : Heap) (locs : List Loc) (ls : Array Slot), I n H locs ls → W p l e R s m args below meth c H locs cells slots Q (F0 m pc ls []) := by
  intro n
  induction n with
  | zero => exact base
  | succ n ih => exact fun H locs ls h => step n H locs ls h ih
end KO
theorem k_r100 {x : Int32} (h : 1 ≤ x ∧ x ≤ 100) : ∃ N : Nat, 1 ≤ N ∧ N ≤ 100 ∧ x = nI N := by
  obtain ⟨j, hj, rfl⟩ := nI_of2 (M := 100) (n := 100) rfl (by have h1 := h.1; simp only [Int32.lt_iff_toInt_lt, Int32.le_iff_toInt_le, Int32.reduceToInt] at h1 ⊢; omega) h.2
  exact ⟨j, (nI_leI (a := 1) (b := j) (by decide) (by omega)).mp h.1, hj, rfl⟩
section KL
variable {p : Program} {l : Launch} {e : Env} {R : Room} {s : State} {m : MethodId} {args : Array Value} {below : List Frame} {meth : Method} {c : Code} {cells slots : Nat} {Q : State → Prop} {pc pcx : Nat}
/-- a loop with a measure n and a way out at pcx -/
theorem k_lx (I : Nat → Heap → List Loc → Array Slot → Prop) (E : Heap → List Loc → Array Slot → Prop)
    (exit : ∀ (H : Heap) (locs : List Loc) (ls : Array Slot), E H locs ls → W p l e R s m args below meth c H locs cells slots Q (F0 m pcx ls []))
    (step : ∀ (n : Nat) (H : Heap) (locs : List Loc) (ls : Array Slot), I n H locs ls → (∀ (H1 : Heap) (locs1 : List Loc) (ls1 : Array Slot), E H1 locs1 ls1 → W p l e R s m args below meth c H1 locs1 cells slots Q (F0 m pcx ls1 [])) → (∀ (k : Nat), k < n → ∀ (H1 : Heap) (locs1 : List Loc) (ls1 : Array Slot), I k H1 locs1 ls1 → W p l e R s m args below meth c H1 locs1 cells slots Q (F0 m pc ls1 [])) → W p l e R s m args below meth c H locs cells slots Q (F0 m pc ls [])) :
    ∀ (n : Nat) (H : Heap) (locs : List Loc) (ls : Array Slot), I n H locs ls → W p l e R s m args below meth c H locs cells slots Q (F0 m pc ls []) := by
  intro n
  induction n using Nat.strongRecOn with
  | ind n ih => exact fun H locs ls h => step n H locs ls h exit ih
end KL
theorem exNw {s : State} {a : String} {i : Nat} {y : MethodName} {h : String} (hw : va_Nw (.methodLinkNest a i y h) s) : exOk s (va_Nw (.methodLinkNest a i y h)) := ⟨fun _ U _ _ q => va_Nw.same rfl (u := U) rfl q, fun _ hW => va_Nw.warmM hW hw⟩
end
section
/-- how many places these sizes are for (f more at most), k counted already; 0: not as said -/
def plc : Nat → Nat → Nat → Nat
  | 0, k, r => if r = 0 then k else 0
  | f + 1, k, r => if r = 0 then k else if 1 ≤ r % 128 ∧ r % 128 ≤ 100 then plc f (k + 1) (r / 128) else 0
/-- all digits are as said; how many there are -/
def dgA : Nat → Nat → Bool
  | 0, _ => true
  | f + 1, r => if r = 0 then true else decide (1 ≤ r % 128 ∧ r % 128 ≤ 100) && dgA f (r / 128)
def dgN : Nat → Nat → Nat
  | 0, _ => 0
  | f + 1, r => if r = 0 then 0 else 1 + dgN f (r / 128)
theorem dgA_0 (f : Nat) : dgA f 0 = true := by cases f <;> simp [dgA]
theorem dgN_0 (f : Nat) : dgN f 0 = 0 := by cases f <;> simp [dgN]
theorem plc_dg : ∀ (f k r : Nat), plc f k r = if dgA (f + 1) r = true ∧ dgN (f + 1) r ≤ f then k + dgN (f + 1) r else 0
  | 0, k, r => by
    by_cases h : r = 0
    · subst h; simp [plc, dgA, dgN]
    · simp [plc, dgA, dgN, h]
  | f + 1, k, r => by
    by_cases h : r = 0
    · subst h; simp [plc, dgA, dgN]
    · by_cases g : 1 ≤ r % 128 ∧ r % 128 ≤ 100
      · have e1 : plc (f + 1) k r = plc f (k + 1) (r / 128) := by rw [plc, if_neg h, if_pos g]
        have e2 : dgA (f + 1 + 1) r = dgA (f + 1) (r / 128) := by rw [dgA, if_neg h, decide_eq_true g, Bool.true_and]
        have e3 : dgN (f + 1 + 1) r = 1 + dgN (f + 1) (r / 128) := by rw [dgN, if_neg h]
        rw [e1, e2, e3, plc_dg f (k + 1) (r / 128)]
        by_cases q : dgA (f + 1) (r / 128) = true ∧ dgN (f + 1) (r / 128) ≤ f
        · rw [if_pos q, if_pos ⟨q.1, by omega⟩]; omega
        · rw [if_neg q, if_neg (fun z => q ⟨z.1, by omega⟩)]
      · have e1 : plc (f + 1) k r = 0 := by rw [plc, if_neg h, if_neg g]
        have e2 : dgA (f + 1 + 1) r = false := by rw [dgA, if_neg h, decide_eq_false g, Bool.false_and]
        rw [e1, if_neg (fun z => by rw [e2] at z; exact absurd z.1 (by decide))]
theorem plc_le : ∀ (f k r : Nat), plc f k r ≤ k + f
  | 0, k, r => by unfold plc; split <;> omega
  | f + 1, k, r => by
    unfold plc
    split
    · omega
    · split
      · have := plc_le f (k + 1) (r / 128); omega
      · omega
/-- sizes that are as said -/
abbrev pgOk (x : Int32) : Prop := 0 < x ∧ ¬ plc 4 0 x.toNatClampNeg = 0
theorem k_128d {r : Nat} (h : r < 2 ^ 31) : nI r / 128 = nI (r / 128) := pk_div h (by decide) (by decide)
theorem k_128r {r : Nat} (h : r < 2 ^ 31) : nI r - nI r / 128 * 128 = nI (r % 128) := pk_rem h (by decide) (by decide)
theorem k_rg {r lo hi : Nat} (hr : r < 2 ^ 31) (hl : lo < 2 ^ 31) (hh : hi < 2 ^ 31) : (nI lo ≤ nI r ∧ nI r ≤ nI hi) ↔ (lo ≤ r ∧ r ≤ hi) := and_congr (nI_leI hl hr) (nI_leI hr hh)
theorem k_pos {x : Int32} (h : ¬ x ≤ 0) : ∃ X : Nat, X < 2 ^ 31 ∧ 0 < X ∧ x = nI X := by
  obtain ⟨j, hj, rfl⟩ := nI_of (x := x) (by simp only [Int32.lt_iff_toInt_lt, Int32.le_iff_toInt_le, Int32.reduceToInt] at h ⊢; omega)
  refine ⟨j, hj, ?_, rfl⟩
  rcases Nat.eq_zero_or_pos j with q | q
  · subst q; exact absurd (by decide) h
  · exact q
theorem k_pl {x r : Int32} (h : (x ≤ 0 → r = 0) ∧ ∀ X : Nat, X < 2 ^ 31 → x = nI X → r = nI (plc 4 0 X)) : (r = 0 ∧ ¬ pgOk x) ∨ (pgOk x ∧ ∃ k : Nat, 1 ≤ k ∧ k ≤ 4 ∧ r = nI k) := by
  by_cases hn : x ≤ 0
  · exact Or.inl ⟨h.1 hn, fun q => by have q1 := q.1; simp only [Int32.lt_iff_toInt_lt, Int32.le_iff_toInt_le] at hn q1; omega⟩
  · obtain ⟨X, hX, hX0, rfl⟩ := k_pos hn
    have hr := h.2 X hX rfl
    have hle := plc_le 4 0 X
    by_cases hz : plc 4 0 X = 0
    · exact Or.inl ⟨by rw [hr, hz]; rfl, fun q => q.2 (by rw [nI_clamp hX]; exact hz)⟩
    · exact Or.inr ⟨⟨(nI_lt hX0 hX : nI 0 < nI X), by rw [nI_clamp hX]; exact hz⟩, plc 4 0 X, by omega, by omega, hr⟩
theorem k_pg {X : Nat} (hX : X < 2 ^ 31) (h0 : 0 < X) : pgOk (nI X) ↔ (dgA 5 X = true ∧ dgN 5 X ≤ 4) := by
  have e : plc 4 0 X = if dgA 5 X = true ∧ dgN 5 X ≤ 4 then 0 + dgN 5 X else 0 := plc_dg 4 0 X
  have hn : 1 ≤ dgN 5 X := by rw [dgN, if_neg (by omega)]; omega
  unfold pgOk
  rw [nI_clamp hX, e]
  constructor
  · intro q
    by_cases g : dgA 5 X = true ∧ dgN 5 X ≤ 4
    · exact g
    · exact absurd (if_neg g) q.2
  · intro g
    exact ⟨(nI_lt h0 hX : nI 0 < nI X), by rw [if_pos g]; omega⟩
theorem k_cp1 (x : Int32) : (x = 0 ∨ x = 1 ∨ x = 10 ∨ x = 20) ↔ (¬ x < 0 ∧ (0 ≤ x / 10 ∧ x / 10 ≤ 2) ∧ ((x / 10 = 0 ∧ 0 ≤ x - x / 10 * 10 ∧ x - x / 10 * 10 ≤ 1) ∨ (¬ x / 10 = 0 ∧ 0 ≤ x - x / 10 * 10 ∧ x - x / 10 * 10 ≤ 0))) := by
  by_cases hn : x < 0
  · constructor
    · rintro (h | h | h | h) <;> subst h <;> exact absurd hn (by decide)
    · exact fun h => absurd hn h.1
  · obtain ⟨X, hX, rfl⟩ := nI_of hn
    have e1 : nI X / 10 = nI (X / 10) := pk_div hX (by decide) (by decide)
    have e2 : nI X - nI X / 10 * 10 = nI (X % 10) := pk_rem hX (by decide) (by decide)
    have i0 : ∀ {a b : Nat}, a < 2 ^ 31 → b < 2 ^ 31 → (nI a = nI b ↔ a = b) := fun h1 h2 => nI_eq h1 h2
    have il : ∀ {a b : Nat}, a < 2 ^ 31 → b < 2 ^ 31 → (nI a ≤ nI b ↔ a ≤ b) := fun h1 h2 => nI_leI h1 h2
    rw [e2, e1]
    have q0 : (nI X = 0 ↔ X = 0) := i0 hX (by decide)
    have q1 : (nI X = 1 ↔ X = 1) := i0 hX (by decide)
    have q10 : (nI X = 10 ↔ X = 10) := i0 hX (by decide)
    have q20 : (nI X = 20 ↔ X = 20) := i0 hX (by decide)
    have d0 : (nI (X / 10) = 0 ↔ X / 10 = 0) := i0 (by omega) (by decide)
    have d1 : (0 ≤ nI (X / 10) ↔ 0 ≤ X / 10) := il (by decide) (by omega)
    have d2 : (nI (X / 10) ≤ 2 ↔ X / 10 ≤ 2) := il (by omega) (by decide)
    have r0 : (0 ≤ nI (X % 10) ↔ 0 ≤ X % 10) := il (by decide) (by omega)
    have r1 : (nI (X % 10) ≤ 1 ↔ X % 10 ≤ 1) := il (by omega) (by decide)
    have r2 : (nI (X % 10) ≤ 0 ↔ X % 10 ≤ 0) := il (by omega) (by decide)
    rw [q0, q1, q10, q20, d0, d1, d2, r0, r1, r2]
    have hn' : ¬ nI X < 0 := hn
    constructor
    · intro h; refine ⟨hn', ?_⟩; omega
    · intro h; have := h.2; omega
theorem k_cp2 (y : Int32) : (0 ≤ y ∧ y / 4096 ≤ 4095) ↔ (0 ≤ y ∧ y ≤ 16777215) := by
  by_cases hn : y < 0
  · constructor
    · intro h; have := h.1; simp only [Int32.lt_iff_toInt_lt, Int32.le_iff_toInt_le] at hn this; omega
    · intro h; have := h.1; simp only [Int32.lt_iff_toInt_lt, Int32.le_iff_toInt_le] at hn this; omega
  · obtain ⟨Y, hY, rfl⟩ := nI_of hn
    have e1 : nI Y / 4096 = nI (Y / 4096) := pk_div hY (by decide) (by decide)
    have d1 : (nI (Y / 4096) ≤ 4095 ↔ Y / 4096 ≤ 4095) := nI_leI (by omega) (by decide)
    have d2 : (nI Y ≤ 16777215 ↔ Y ≤ 16777215) := nI_leI hY (by decide)
    rw [e1, d1, d2]
    constructor
    · intro h; exact ⟨h.1, by have := h.2; omega⟩
    · intro h; exact ⟨h.1, by have := h.2; omega⟩
/-- a campaign's numbers that are as said -/
abbrev cpOk (x y z : Int32) : Prop := (x = 0 ∨ x = 1 ∨ x = 10 ∨ x = 20) ∧ (0 ≤ y ∧ y / 4096 ≤ 4095 ∧ (y / 4096 &&& (y - y / 4096 * 4096)) = 0) ∧ ((x / 10 = 2 ∧ z = 0) ∨ (¬ x / 10 = 2 ∧ 1 ≤ z ∧ z ≤ 1000))
end
section
/-! new T[4][K]: the kit's own row for it names a module that rounds don't have; so here is one for four rows -/
section KG
abbrev kgI (cI : ClassId) (K : Nat) (dv : Value) : Cell := { cls := cI, slots := Array.replicate K dv, vm := .none }
abbrev kgO (cA : ClassId) : Cell := { cls := cA, slots := Array.replicate 4 .null, vm := .none }
/-- i rows are made: the outer array's cell is read off the heap -/
def kgF (V : State) (cA cI : ClassId) (K : Nat) (dv : Value) : Nat → State
  | 0 => V.pushCell (kgO cA)
  | i + 1 => ((kgF V cA cI K dv i).pushCell (kgI cI K dv)).setCell V.heap.size ((((kgF V cA cI K dv i).heap[V.heap.size]?).getD (kgO cA)).setSlot i (.ref (kgF V cA cI K dv i).heap.size))
theorem kgF_top (V : State) (f : JFrame) (cA cI : ClassId) (K : Nat) (dv : Value) : ∀ i, kgF (V.setTop f) cA cI K dv i = (kgF V cA cI K dv i).setTop f
  | 0 => rfl
  | i + 1 => by simp only [kgF, kgF_top V f cA cI K dv i, State.heap_setTop, State.pushCell_setTop, State.setCell_setTop]
/-- what holds behind i rows -/
def kgG (V U : State) (cA : ClassId) (i : Nat) : Prop := U.heap.size = V.heap.size + 1 + i ∧ (∃ o : Cell, U.heap[V.heap.size]? = some o ∧ o.cls = cA ∧ o.vm = .none ∧ o.slots.size = 4) ∧ (∀ a, a < V.heap.size → U.heap[a]? = V.heap[a]?) ∧ U.vm = V.vm
theorem kgF_G (V : State) (cA cI : ClassId) (K : Nat) (dv : Value) : ∀ i, kgG V (kgF V cA cI K dv i) cA i
  | 0 => ⟨by simp [kgF], ⟨kgO cA, by simp [kgF], rfl, rfl, by simp⟩, fun a h => State.heap_pushCell_of_lt _ _ h, rfl⟩
  | i + 1 => by
    obtain ⟨h1, ⟨o, h2, h3, h4, h5⟩, h6, h7⟩ := kgF_G V cA cI K dv i
    have hlt : V.heap.size < (kgF V cA cI K dv i).heap.size := by omega
    have hp : ((kgF V cA cI K dv i).pushCell (kgI cI K dv)).heap[V.heap.size]? = some o := by rw [State.heap_pushCell_of_lt (h := hlt)]; exact h2
    have hg : ((kgF V cA cI K dv i).heap[V.heap.size]?).getD (kgO cA) = o := by rw [h2]; rfl
    refine ⟨?_, ⟨o.setSlot i (.ref (kgF V cA cI K dv i).heap.size), ?_, by simp [Cell.setSlot, h3], by simp [Cell.setSlot, h4], by simp [Cell.setSlot, h5]⟩, fun a h => ?_, ?_⟩
    · simp [kgF, State.setCell, h1]; omega
    · rw [kgF, hg]; exact State.heap_setCell_self hp
    · have hla : a < (kgF V cA cI K dv i).heap.size := by omega
      rw [kgF, State.heap_setCell_other (Nat.ne_of_gt h), State.heap_pushCell_of_lt (h := hla)]
      exact h6 a h
    · simp [kgF, h7]
variable {p : Program} {l : Launch} {e : Env} {R : Room} {s : State} {m : MethodId} {args : Array Value} {below : List Frame} {meth : Method} {c : Code} {cells slots : Nat} {locs : List Loc}
theorem kgF_X {V : State} (X : Stand p l e R s m args below meth c V locs cells slots) (cA cI : ClassId) (K : Nat) (dv : Value) : ∀ i, ∃ L : List Loc, Stand p l e R s m args below meth c (kgF V cA cI K dv i) (locs ++ L) (cells + 1 + i) (slots + 4 + i * K) ∧ ∀ x ∈ L, x.base = V.heap.size
  | 0 => ⟨[], by
      have h := X.pushed (kgO cA)
      rw [show (kgO cA).slots.size = 4 by simp] at h
      simpa [kgF] using h, fun x h => by cases h⟩
  | i + 1 => by
    obtain ⟨L, Xi, hL⟩ := kgF_X X cA cI K dv i
    obtain ⟨h1, ⟨o, h2, h3, h4, h5⟩, h6, h7⟩ := kgF_G V cA cI K dv i
    have hlt : V.heap.size < (kgF V cA cI K dv i).heap.size := by omega
    have hp : ((kgF V cA cI K dv i).pushCell (kgI cI K dv)).heap[V.heap.size]? = some o := by rw [State.heap_pushCell_of_lt (h := hlt)]; exact h2
    have hg : ((kgF V cA cI K dv i).heap[V.heap.size]?).getD (kgO cA) = o := by rw [h2]; rfl
    have h := (Xi.pushed (kgI cI K dv)).stored hp i (.ref (kgF V cA cI K dv i).heap.size)
    rw [show (kgI cI K dv).slots.size = K by simp] at h
    refine ⟨L ++ [⟨V.heap.size, i⟩], ?_, fun x hx => ?_⟩
    · rw [kgF, hg, ← List.append_assoc, show slots + 4 + (i + 1) * K = slots + 4 + i * K + K by rw [Nat.succ_mul]; omega]
      exact h
    · rcases List.mem_append.mp hx with q | q
      · exact hL x q
      · rw [List.mem_singleton.mp q]
theorem kg_ref {t : FieldType} (v : Addr) : fits (.array t) (.ref v) = true := rfl
/-- the machine's own 'make' of four rows -/
theorem kg_make {E : CtlPost} {d : Bool} {acts : List Action} {V : State} {cA cI cc : ClassId} {kA kC : Class} {ty : FieldType} {k : Int32} (X : Stand p l e R s m args below meth c V locs cells slots) (f : JFrame)
    (hkA : V.vm.classes[cA]? = some kA) (hkindA : kA.kind = .array cI (.array ty)) (hkC : V.vm.classes[cI]? = some kC) (hkindC : kC.kind = .array cc ty) (hk : ¬ k < 0)
    (hl1 : ¬ 4 > e.platform.arrayLengthLimit) (hh1 : ¬ 4 * componentBytes (.array ty) > e.platform.maxHeapBytes) (hl2 : ¬ k.toNatClampNeg > e.platform.arrayLengthLimit) (hh2 : ¬ k.toNatClampNeg * componentBytes ty > e.platform.maxHeapBytes)
    (hdf : fits ty (defaultValue ty) = true) (hcells : cells + 5 ≤ R.cells) (hslots : slots + (4 + 4 * k.toNatClampNeg) ≤ R.slots)
    {Q : Addr → Pre} (hq : ∀ d' acts', Q V.heap.size d' acts' ((kgF V cA cI k.toNatClampNeg (defaultValue ty) 4).setTop f)) :
    wp (multianewarray.make cA [4, k]) Q E e d acts (V.setTop f) := by
  have h4 : (4 : Int32).toNatClampNeg = 4 := by decide
  have hf4 : ¬ (4 : Int32) < 0 := by decide
  have hfind : ([k].find? (· < 0)) = none := by simp [hk]
  have hroom : ∀ i, i ≤ 4 → (kgF V cA cI k.toNatClampNeg (defaultValue ty) i).heap.size + (4 - i) ≤ e.platform.maxCells ∧ (kgF V cA cI k.toNatClampNeg (defaultValue ty) i).slotsUsed + (4 - i) * k.toNatClampNeg ≤ e.platform.maxSlots := fun i hi => by
    obtain ⟨L, Xi, -⟩ := kgF_X X cA cI k.toNatClampNeg (defaultValue ty) i
    have hm : i * k.toNatClampNeg + (4 - i) * k.toNatClampNeg = 4 * k.toNatClampNeg := by rw [← Nat.add_mul, Nat.add_sub_cancel' hi]
    exact Xi.roomAbove (by omega) (by omega)
  obtain ⟨r1, r2⟩ := X.roomAbove (show cells + 1 ≤ R.cells by omega) (show slots + 4 ≤ R.slots by omega)
  rw [multianewarray.make]
  simp only [wp_bind', W.ite, hf4, if_false, wp_pure', W.theClass, State.vm_setTop, hkA, hkindA, Option.some.injEq, exists_eq_left', h4]
  refine W.newArray_of (k := kA) (comp := cI) (type := .array ty) (by exact hkA) hkindA hl1 hh1 (by show V.heap.size < _; omega) (by show V.slotsUsed + 4 ≤ _; omega) rfl (fun acts1 => ?_)
  simp only [hfind]
  rw [ite_self, wp_bind', Std.Legacy.Range.forIn_eq_forIn_range']
  show wp (forIn (List.range' 0 4 1) PUnit.unit _) _ E e d acts1 _
  refine wp_forIn_inv (fun rest U => ∃ i, i ≤ 4 ∧ rest = List.range' i (4 - i) ∧ U = (kgF V cA cI k.toNatClampNeg (defaultValue ty) i).setTop f) _ _ ⟨0, Nat.zero_le _, rfl, rfl⟩ ?_ ?_
  · rintro x rest U d' acts' Q' ⟨i, hi, hl, rfl⟩ hnext
    have hlt : i < 4 := by
      rcases Nat.lt_or_ge i 4 with h | h
      · exact h
      · rw [show 4 - i = 0 by omega] at hl; simp at hl
    rw [show 4 - i = (4 - (i + 1)) + 1 by omega, List.range'_succ] at hl
    obtain ⟨rfl, hrest⟩ := List.cons.inj hl
    obtain ⟨g1, ⟨o, g2, g3, g4, g5⟩, -, g7⟩ := kgF_G V cA cI k.toNatClampNeg (defaultValue ty) x
    obtain ⟨q1, q2⟩ := hroom x (by omega)
    have hmul : k.toNatClampNeg ≤ (4 - x) * k.toNatClampNeg := Nat.le_mul_of_pos_left _ (by omega)
    simp only [wp_bind']
    rw [multianewarray.make]
    simp only [wp_bind', W.ite, hk, if_false, wp_pure', W.theClass, State.vm_setTop, g7, hkC, hkindC, Option.some.injEq, exists_eq_left']
    refine W.newArray_of (k := kC) (comp := cc) (type := ty) (by show (kgF V cA cI _ _ x).vm.classes[cI]? = _; rw [g7]; exact hkC) hkindC hl2 hh2 (by show (kgF V cA cI _ _ x).heap.size < _; omega) (by show (kgF V cA cI _ _ x).slotsUsed + _ ≤ _; omega) hdf (fun acts2 => ?_)
    simp only [wp_bind', W.writeLoc, wp_pure']
    have hsz : V.heap.size < (kgF V cA cI k.toNatClampNeg (defaultValue ty) x).heap.size := by omega
    refine ⟨o, ?_, by rw [g4]; simp, by rw [g5]; exact hlt, ?_, hnext _ _ _ ⟨x + 1, hlt, hrest, ?_⟩⟩
    · show ((kgF V cA cI k.toNatClampNeg (defaultValue ty) x).pushCell _).heap[V.heap.size]? = some o
      rw [State.heap_pushCell_of_lt (h := hsz)]; exact g2
    · rw [g3, g4]
      simp [State.fitsSlot, State.slotType?, g7, hkA, hkindA, kg_ref]
    · rw [kgF, g2]
      rfl
  · rintro U d' acts' ⟨i, hi, hl, rfl⟩
    have hi4 : i = 4 := by
      rcases Nat.lt_or_ge i 4 with h | h
      · rw [show 4 - i = (4 - (i + 1)) + 1 by omega, List.range'_succ] at hl; cases hl
      · omega
    subst hi4
    simp only [wp_pure']
    exact hq _ _
variable {H : Heap} {Q : State → Prop} {A : Nat → Prop} {H0 : Heap} {D : va_G} {cl : List vw_C} {ws : va_W} {pc : Nat} {ls : Array Slot} {rest : List Value}
theorem k_grid {cc : ByteArray} (hexec : p.tables.exec = Jvm.exec) (hb : c.code = cc) {own : String} {index : Nat} {ty : FieldType} (hown : s.vm.findClass own = some m.cls) (hclink : (Cond.classLink own index ("[" ++ (FieldType.array ty).toString)).before args s = true) (hover : (Cond.arrayOver (.array ty)).before args s = true) (harr : (Cond.arrayClass ty).before args s = true)
    {k : Int32} {K : Nat} (hk : ¬ k < 0) (hK : k.toNatClampNeg = K) (hb2 : K * componentBytes ty ≤ 536870912) (hb3 : K ≤ 536870912) (hdf : fits ty (defaultValue ty) = true) (hcells : cells + 5 ≤ R.cells) (hslots : slots + (4 + 4 * K) ≤ R.slots) (hdg : decode cc pc = .ok (.multianewarray index 2, 4))
    (hP : va_P D cl ws H) (hS : va_S A H0 H locs) (hA : ∀ q, H0.size ≤ q → A q)
    (kk : ∀ (q : Nat) (H1 : Heap) (locs1 : List Loc), va_P D cl ws H1 → va_S A H0 H1 locs1 → W p l e R s m args below meth c H1 locs1 (cells + 5) (slots + (4 + 4 * K)) Q (F0 m (pc + 4) ls (.ref q :: rest))) : W p l e R s m args below meth c H locs cells slots Q (F0 m pc ls (.int k :: .int 4 :: rest)) := by
  intro T hT X
  subst hT; subst hb; subst hK
  have hpl : e.platform.magicAccessors = ({} : Platform).magicAccessors := by rw [X.admits.platform]
  obtain ⟨comp, cA, kA, hcomp, -, hkA, hkindA, hnameA⟩ := arrayOverA_spec hover
  obtain ⟨comp', kC, cC, hcomp', hkC, hkindC⟩ := Cond.arrayClass_spec harr
  cases hcomp'.symm.trans hcomp
  obtain ⟨c0, hfc0, hcl⟩ := Cond.classLink_spec hown hclink e.platform hpl
  cases hnameA.symm.trans hfc0
  obtain ⟨hg₁, hwarm₁, hready₁⟩ := State.classEntry (e := e) X.warmed hcl
  generalize T.vm.noted m.cls index (.cls cA) = vm₁ at hg₁ hwarm₁ hready₁
  have hal : s.vm.Alike vm₁ := hwarm₁.alike
  obtain ⟨kA₁, hkA₁, heA⟩ := hal.2.2 _ _ hkA
  obtain ⟨kC₁, hkC₁, heC⟩ := hal.2.2 _ _ hkC
  have hkindA₁ : kA₁.kind = .array comp (.array ty) := by rw [heA]; exact hkindA
  have hkindC₁ : kC₁.kind = .array cC ty := by rw [heC]; exact hkindC
  have X₁ := X.noted hwarm₁
  have hl1 : ¬ 4 > e.platform.arrayLengthLimit := by rw [Launch.admits_arrayLengthLimit X.admits]; omega
  have hh1 : ¬ 4 * componentBytes (.array ty) > e.platform.maxHeapBytes := by
    rw [Launch.admits_maxHeapBytes X.admits]; show ¬ 4 * 4 > 536870912; omega
  have hl2 : ¬ k.toNatClampNeg > e.platform.arrayLengthLimit := by rw [Launch.admits_arrayLengthLimit X.admits]; omega
  have hh2 : ¬ k.toNatClampNeg * componentBytes ty > e.platform.maxHeapBytes := by rw [Launch.admits_maxHeapBytes X.admits]; omega
  obtain ⟨L, XF, hL⟩ := kgF_X X₁ cA comp k.toNatClampNeg (defaultValue ty) 4
  obtain ⟨g1, -, g3, -⟩ := kgF_G (T.setVm vm₁) cA comp k.toNatClampNeg (defaultValue ty) 4
  have hsame : ∀ a, a < T.heap.size → (kgF (T.setVm vm₁) cA comp k.toNatClampNeg (defaultValue ty) 4).heap[a]? = T.heap[a]? := g3
  have hsz : (kgF (T.setVm vm₁) cA comp k.toNatClampNeg (defaultValue ty) 4).heap.size = T.heap.size + 1 + 4 := g1
  have XF : Stand p l e R s m args below meth c (kgF (T.setVm vm₁) cA comp k.toNatClampNeg (defaultValue ty) 4) (locs ++ L) (cells + 5) (slots + (4 + 4 * k.toNatClampNeg)) := by
    have q := XF
    rw [show cells + 1 + 4 = cells + 5 by omega, show slots + 4 + 4 * k.toNatClampNeg = slots + (4 + 4 * k.toNatClampNeg) by omega] at q
    exact q
  obtain ⟨t, a1, b1⟩ := kk T.heap.size _ (locs ++ L) (hP.kept (fun i q hq => hsame q.1 (hP i q hq).lt)) ⟨by rw [hsz]; have := hS.1; omega, fun q h1 h2 => (hsame q (Nat.lt_of_lt_of_le h1 hS.1)).trans (hS.2.1 q h1 h2), fun x hx => by
    rcases List.mem_append.mp hx with q | q
    · exact hS.2.2 x q
    · rw [hL x q]; exact hA _ hS.1⟩ _ rfl XF
  refine ⟨t, ?_, b1⟩
  jvm_step X.here [hexec, hdg]
  simp only [multianewarray.sem, wp_bind', W.resolveClassAt_links (State.method?_setTop (F0 m pc ls (.int k :: .int 4 :: rest)) X.here.top) hg₁]
  rw [W.popN, if_neg (by decide)]
  refine ⟨F0 m pc ls (.int k :: .int 4 :: rest), State.topJava?_setTop' (s := T.setVm vm₁) _ X.here.top, [.int 4, .int k], rest, rfl, rfl, ?_⟩
  simp only [List.mapM_cons, List.mapM_nil, wp_bind', wp_pure']
  have eS : ((T.setTop (F0 m pc ls (.int k :: .int 4 :: rest))).setVm vm₁).setTop (F0 m pc ls rest) = (T.setVm vm₁).setTop (F0 m pc ls rest) := by
    show ((T.setVm vm₁).setTop _).setTop _ = _
    rw [State.setTop_setTop]
  show wp _ _ _ e _ _ (((T.setTop (F0 m pc ls (.int k :: .int 4 :: rest))).setVm vm₁).setTop (F0 m pc ls rest))
  rw [eS]
  refine kg_make X₁ (F0 m pc ls rest) hkA₁ hkindA₁ hkC₁ hkindC₁ hk hl1 hh1 hl2 hh2 hdf hcells hslots (fun d' acts' => ?_)
  simp only [wp_bind', W.mark, W.pushRef, State.topJava?_setTop' _ XF.here.top, Option.some.injEq, exists_eq_left', State.setTop_setTop, State.heap_setTop]
  intro acts
  simp [jvm, XF.here.top]
  exact a1
end KG
end
section
theorem i_vc : Claimed_1_1 ∧ Claimed_1_2 := sorry
end
