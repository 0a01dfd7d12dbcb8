section
-- ===== PART A: goes FIRST, ahead of the names: the tables' words, and 'selects' of the private methods out of them =====
/-- a private method of a class that the tables say can be made, by its rows of tables_1 -/
def lw_okq (q : MethodName × Nat) : Prop := (q.1.cls ≠ "java/lang/invoke/MethodHandle" ∧ q.1.cls ≠ "java/lang/invoke/VarHandle") ∧ Cond.instantiable q.1.cls q.2 ∈ tables_1 ∧ Cond.privateMethod q.1 ∈ tables_1 ∧ Cond.instanceMethod q.1 ∈ tables_1
theorem lw_p0 : lw_okq (⟨"NoticeMarket", "isCampaign", "(I)Z"⟩, 17) := ⟨⟨by decide +kernel, by decide +kernel⟩, List.mem_of_getElem? (i := 10) (by decide +kernel), List.mem_of_getElem? (i := 277) (by decide +kernel), List.mem_of_getElem? (i := 278) (by decide +kernel)⟩
theorem lw_p1 : lw_okq (⟨"NoticeMarket", "closeTick", "()V"⟩, 17) := ⟨⟨by decide +kernel, by decide +kernel⟩, List.mem_of_getElem? (i := 10) (by decide +kernel), List.mem_of_getElem? (i := 324) (by decide +kernel), List.mem_of_getElem? (i := 325) (by decide +kernel)⟩
theorem lw_p2 : lw_okq (⟨"NoticeMarket", "goOneTick", "()V"⟩, 17) := ⟨⟨by decide +kernel, by decide +kernel⟩, List.mem_of_getElem? (i := 10) (by decide +kernel), List.mem_of_getElem? (i := 332) (by decide +kernel), List.mem_of_getElem? (i := 333) (by decide +kernel)⟩
theorem lw_p3 : lw_okq (⟨"NoticeMarket", "closeDay", "()V"⟩, 17) := ⟨⟨by decide +kernel, by decide +kernel⟩, List.mem_of_getElem? (i := 10) (by decide +kernel), List.mem_of_getElem? (i := 336) (by decide +kernel), List.mem_of_getElem? (i := 337) (by decide +kernel)⟩
theorem lw_p4 : lw_okq (⟨"NoticeMarket", "freeLateSales", "()V"⟩, 17) := ⟨⟨by decide +kernel, by decide +kernel⟩, List.mem_of_getElem? (i := 10) (by decide +kernel), List.mem_of_getElem? (i := 340) (by decide +kernel), List.mem_of_getElem? (i := 341) (by decide +kernel)⟩
theorem lw_p5 : lw_okq (⟨"NoticeMarket", "freeHeld", "(LNoticeMarket$Sale;)V"⟩, 17) := ⟨⟨by decide +kernel, by decide +kernel⟩, List.mem_of_getElem? (i := 10) (by decide +kernel), List.mem_of_getElem? (i := 344) (by decide +kernel), List.mem_of_getElem? (i := 345) (by decide +kernel)⟩
theorem lw_p6 : lw_okq (⟨"NoticeMarket", "lessenDay", "(LNoticeMarket$Sale;I)V"⟩, 17) := ⟨⟨by decide +kernel, by decide +kernel⟩, List.mem_of_getElem? (i := 10) (by decide +kernel), List.mem_of_getElem? (i := 348) (by decide +kernel), List.mem_of_getElem? (i := 349) (by decide +kernel)⟩
theorem lw_p7 : lw_okq (⟨"NoticeMarket", "setThrottles", "()V"⟩, 17) := ⟨⟨by decide +kernel, by decide +kernel⟩, List.mem_of_getElem? (i := 10) (by decide +kernel), List.mem_of_getElem? (i := 353) (by decide +kernel), List.mem_of_getElem? (i := 354) (by decide +kernel)⟩
theorem lw_p8 : lw_okq (⟨"NoticeMarket", "isPage", "(I)Z"⟩, 17) := ⟨⟨by decide +kernel, by decide +kernel⟩, List.mem_of_getElem? (i := 10) (by decide +kernel), List.mem_of_getElem? (i := 370) (by decide +kernel), List.mem_of_getElem? (i := 371) (by decide +kernel)⟩
theorem lw_p9 : lw_okq (⟨"NoticeMarket", "seekBest", "(ILNoticeMarket$Page;)J"⟩, 17) := ⟨⟨by decide +kernel, by decide +kernel⟩, List.mem_of_getElem? (i := 10) (by decide +kernel), List.mem_of_getElem? (i := 374) (by decide +kernel), List.mem_of_getElem? (i := 375) (by decide +kernel)⟩
theorem lw_p10 : lw_okq (⟨"NoticeMarket", "hindrance", "(IILNoticeMarket$Page;)I"⟩, 17) := ⟨⟨by decide +kernel, by decide +kernel⟩, List.mem_of_getElem? (i := 10) (by decide +kernel), List.mem_of_getElem? (i := 383) (by decide +kernel), List.mem_of_getElem? (i := 384) (by decide +kernel)⟩
theorem lw_p11 : lw_okq (⟨"NoticeMarket", "drawn", "(II)I"⟩, 17) := ⟨⟨by decide +kernel, by decide +kernel⟩, List.mem_of_getElem? (i := 10) (by decide +kernel), List.mem_of_getElem? (i := 403) (by decide +kernel), List.mem_of_getElem? (i := 404) (by decide +kernel)⟩
theorem lw_p12 : lw_okq (⟨"NoticeMarket", "offer", "(ILNoticeMarket$Page;)V"⟩, 17) := ⟨⟨by decide +kernel, by decide +kernel⟩, List.mem_of_getElem? (i := 10) (by decide +kernel), List.mem_of_getElem? (i := 409) (by decide +kernel), List.mem_of_getElem? (i := 410) (by decide +kernel)⟩
theorem lw_p13 : lw_okq (⟨"NoticeMarket$Campaign", "dueBy", "(I)J"⟩, 16) := ⟨⟨by decide +kernel, by decide +kernel⟩, List.mem_of_getElem? (i := 169) (by decide +kernel), List.mem_of_getElem? (i := 417) (by decide +kernel), List.mem_of_getElem? (i := 418) (by decide +kernel)⟩
theorem lw_p14 : lw_okq (⟨"NoticeMarket$Giver", "fillFrom", "(IJJ)V"⟩, 9) := ⟨⟨by decide +kernel, by decide +kernel⟩, List.mem_of_getElem? (i := 24) (by decide +kernel), List.mem_of_getElem? (i := 447) (by decide +kernel), List.mem_of_getElem? (i := 448) (by decide +kernel)⟩
theorem lw_p15 : lw_okq (⟨"NoticeMarket$Giver", "keepIfBetter", "(J)V"⟩, 9) := ⟨⟨by decide +kernel, by decide +kernel⟩, List.mem_of_getElem? (i := 24) (by decide +kernel), List.mem_of_getElem? (i := 451) (by decide +kernel), List.mem_of_getElem? (i := 452) (by decide +kernel)⟩
def lw_privs_1 : List (MethodName × Nat) := [(⟨"NoticeMarket", "isCampaign", "(I)Z"⟩, 17), (⟨"NoticeMarket", "closeTick", "()V"⟩, 17), (⟨"NoticeMarket", "goOneTick", "()V"⟩, 17), (⟨"NoticeMarket", "closeDay", "()V"⟩, 17), (⟨"NoticeMarket", "freeLateSales", "()V"⟩, 17), (⟨"NoticeMarket", "freeHeld", "(LNoticeMarket$Sale;)V"⟩, 17), (⟨"NoticeMarket", "lessenDay", "(LNoticeMarket$Sale;I)V"⟩, 17), (⟨"NoticeMarket", "setThrottles", "()V"⟩, 17), (⟨"NoticeMarket", "isPage", "(I)Z"⟩, 17), (⟨"NoticeMarket", "seekBest", "(ILNoticeMarket$Page;)J"⟩, 17), (⟨"NoticeMarket", "hindrance", "(IILNoticeMarket$Page;)I"⟩, 17), (⟨"NoticeMarket", "drawn", "(II)I"⟩, 17), (⟨"NoticeMarket", "offer", "(ILNoticeMarket$Page;)V"⟩, 17), (⟨"NoticeMarket$Campaign", "dueBy", "(I)J"⟩, 16), (⟨"NoticeMarket$Giver", "fillFrom", "(IJJ)V"⟩, 9), (⟨"NoticeMarket$Giver", "keepIfBetter", "(J)V"⟩, 9)]
theorem lw_r1 : ∀ q ∈ lw_privs_1, lw_okq q := List.forall_mem_cons.mpr ⟨lw_p0, List.forall_mem_cons.mpr ⟨lw_p1, List.forall_mem_cons.mpr ⟨lw_p2, List.forall_mem_cons.mpr ⟨lw_p3, List.forall_mem_cons.mpr ⟨lw_p4, List.forall_mem_cons.mpr ⟨lw_p5, List.forall_mem_cons.mpr ⟨lw_p6, List.forall_mem_cons.mpr ⟨lw_p7, List.forall_mem_cons.mpr ⟨lw_p8, List.forall_mem_cons.mpr ⟨lw_p9, List.forall_mem_cons.mpr ⟨lw_p10, List.forall_mem_cons.mpr ⟨lw_p11, List.forall_mem_cons.mpr ⟨lw_p12, List.forall_mem_cons.mpr ⟨lw_p13, List.forall_mem_cons.mpr ⟨lw_p14, List.forall_mem_cons.mpr ⟨lw_p15, fun _ h => absurd h List.not_mem_nil⟩⟩⟩⟩⟩⟩⟩⟩⟩⟩⟩⟩⟩⟩⟩⟩
theorem lw_p16 : lw_okq (⟨"NoticeMarket$Giver", "mostFrom", "(IJ)J"⟩, 9) := ⟨⟨by decide +kernel, by decide +kernel⟩, List.mem_of_getElem? (i := 24) (by decide +kernel), List.mem_of_getElem? (i := 455) (by decide +kernel), List.mem_of_getElem? (i := 456) (by decide +kernel)⟩
theorem lw_p17 : lw_okq (⟨"NoticeMarket$Giver", "greatestAt", "(IJ)J"⟩, 9) := ⟨⟨by decide +kernel, by decide +kernel⟩, List.mem_of_getElem? (i := 24) (by decide +kernel), List.mem_of_getElem? (i := 459) (by decide +kernel), List.mem_of_getElem? (i := 460) (by decide +kernel)⟩
theorem lw_p18 : lw_okq (⟨"NoticeMarket$Giver", "tryAt", "(IIJJ)V"⟩, 9) := ⟨⟨by decide +kernel, by decide +kernel⟩, List.mem_of_getElem? (i := 24) (by decide +kernel), List.mem_of_getElem? (i := 463) (by decide +kernel), List.mem_of_getElem? (i := 464) (by decide +kernel)⟩
theorem lw_p19 : lw_okq (⟨"NoticeMarket", "keepGivenAndPrices", "(LNoticeMarket$Page;)V"⟩, 17) := ⟨⟨by decide +kernel, by decide +kernel⟩, List.mem_of_getElem? (i := 10) (by decide +kernel), List.mem_of_getElem? (i := 471) (by decide +kernel), List.mem_of_getElem? (i := 472) (by decide +kernel)⟩
theorem lw_p20 : lw_okq (⟨"NoticeMarket", "priceAt", "(ILNoticeMarket$Page;J)I"⟩, 17) := ⟨⟨by decide +kernel, by decide +kernel⟩, List.mem_of_getElem? (i := 10) (by decide +kernel), List.mem_of_getElem? (i := 476) (by decide +kernel), List.mem_of_getElem? (i := 477) (by decide +kernel)⟩
theorem lw_p21 : lw_okq (⟨"NoticeMarket", "sell", "(III)V"⟩, 17) := ⟨⟨by decide +kernel, by decide +kernel⟩, List.mem_of_getElem? (i := 10) (by decide +kernel), List.mem_of_getElem? (i := 492) (by decide +kernel), List.mem_of_getElem? (i := 493) (by decide +kernel)⟩
theorem lw_p22 : lw_okq (⟨"NoticeMarket", "hold", "(LNoticeMarket$Sale;)V"⟩, 17) := ⟨⟨by decide +kernel, by decide +kernel⟩, List.mem_of_getElem? (i := 10) (by decide +kernel), List.mem_of_getElem? (i := 550) (by decide +kernel), List.mem_of_getElem? (i := 551) (by decide +kernel)⟩
theorem lw_p23 : lw_okq (⟨"NoticeMarket", "spend", "(LNoticeMarket$Sale;)V"⟩, 17) := ⟨⟨by decide +kernel, by decide +kernel⟩, List.mem_of_getElem? (i := 10) (by decide +kernel), List.mem_of_getElem? (i := 554) (by decide +kernel), List.mem_of_getElem? (i := 555) (by decide +kernel)⟩
theorem lw_p24 : lw_okq (⟨"NoticeMarket", "addSpent", "(LNoticeMarket$Sale;I)V"⟩, 17) := ⟨⟨by decide +kernel, by decide +kernel⟩, List.mem_of_getElem? (i := 10) (by decide +kernel), List.mem_of_getElem? (i := 558) (by decide +kernel), List.mem_of_getElem? (i := 559) (by decide +kernel)⟩
theorem lw_p25 : lw_okq (⟨"NoticeMarket", "isSale", "(I)Z"⟩, 17) := ⟨⟨by decide +kernel, by decide +kernel⟩, List.mem_of_getElem? (i := 10) (by decide +kernel), List.mem_of_getElem? (i := 579) (by decide +kernel), List.mem_of_getElem? (i := 580) (by decide +kernel)⟩
theorem lw_p26 : lw_okq (⟨"NoticeMarket", "spendHeld", "(LNoticeMarket$Sale;)V"⟩, 17) := ⟨⟨by decide +kernel, by decide +kernel⟩, List.mem_of_getElem? (i := 10) (by decide +kernel), List.mem_of_getElem? (i := 587) (by decide +kernel), List.mem_of_getElem? (i := 588) (by decide +kernel)⟩
theorem lw_p27 : lw_okq (⟨"NoticeMarket", "givePaidBack", "(LNoticeMarket$Sale;)V"⟩, 17) := ⟨⟨by decide +kernel, by decide +kernel⟩, List.mem_of_getElem? (i := 10) (by decide +kernel), List.mem_of_getElem? (i := 595) (by decide +kernel), List.mem_of_getElem? (i := 596) (by decide +kernel)⟩
theorem lw_p28 : lw_okq (⟨"NoticeMarket", "uncount", "(LNoticeMarket$Sale;)V"⟩, 17) := ⟨⟨by decide +kernel, by decide +kernel⟩, List.mem_of_getElem? (i := 10) (by decide +kernel), List.mem_of_getElem? (i := 599) (by decide +kernel), List.mem_of_getElem? (i := 600) (by decide +kernel)⟩
theorem lw_p29 : lw_okq (⟨"NoticeMarketModel", "isCampaign", "(I)Z"⟩, 51) := ⟨⟨by decide +kernel, by decide +kernel⟩, List.mem_of_getElem? (i := 625) (by decide +kernel), List.mem_of_getElem? (i := 808) (by decide +kernel), List.mem_of_getElem? (i := 809) (by decide +kernel)⟩
theorem lw_p30 : lw_okq (⟨"NoticeMarketModel", "goesBy", "()V"⟩, 51) := ⟨⟨by decide +kernel, by decide +kernel⟩, List.mem_of_getElem? (i := 625) (by decide +kernel), List.mem_of_getElem? (i := 841) (by decide +kernel), List.mem_of_getElem? (i := 842) (by decide +kernel)⟩
theorem lw_p31 : lw_okq (⟨"NoticeMarketModel", "sum", "(IIZZ)I"⟩, 51) := ⟨⟨by decide +kernel, by decide +kernel⟩, List.mem_of_getElem? (i := 625) (by decide +kernel), List.mem_of_getElem? (i := 845) (by decide +kernel), List.mem_of_getElem? (i := 846) (by decide +kernel)⟩
def lw_privs_2 : List (MethodName × Nat) := [(⟨"NoticeMarket$Giver", "mostFrom", "(IJ)J"⟩, 9), (⟨"NoticeMarket$Giver", "greatestAt", "(IJ)J"⟩, 9), (⟨"NoticeMarket$Giver", "tryAt", "(IIJJ)V"⟩, 9), (⟨"NoticeMarket", "keepGivenAndPrices", "(LNoticeMarket$Page;)V"⟩, 17), (⟨"NoticeMarket", "priceAt", "(ILNoticeMarket$Page;J)I"⟩, 17), (⟨"NoticeMarket", "sell", "(III)V"⟩, 17), (⟨"NoticeMarket", "hold", "(LNoticeMarket$Sale;)V"⟩, 17), (⟨"NoticeMarket", "spend", "(LNoticeMarket$Sale;)V"⟩, 17), (⟨"NoticeMarket", "addSpent", "(LNoticeMarket$Sale;I)V"⟩, 17), (⟨"NoticeMarket", "isSale", "(I)Z"⟩, 17), (⟨"NoticeMarket", "spendHeld", "(LNoticeMarket$Sale;)V"⟩, 17), (⟨"NoticeMarket", "givePaidBack", "(LNoticeMarket$Sale;)V"⟩, 17), (⟨"NoticeMarket", "uncount", "(LNoticeMarket$Sale;)V"⟩, 17), (⟨"NoticeMarketModel", "isCampaign", "(I)Z"⟩, 51), (⟨"NoticeMarketModel", "goesBy", "()V"⟩, 51), (⟨"NoticeMarketModel", "sum", "(IIZZ)I"⟩, 51)]
theorem lw_r2 : ∀ q ∈ lw_privs_2, lw_okq q := List.forall_mem_cons.mpr ⟨lw_p16, List.forall_mem_cons.mpr ⟨lw_p17, List.forall_mem_cons.mpr ⟨lw_p18, List.forall_mem_cons.mpr ⟨lw_p19, List.forall_mem_cons.mpr ⟨lw_p20, List.forall_mem_cons.mpr ⟨lw_p21, List.forall_mem_cons.mpr ⟨lw_p22, List.forall_mem_cons.mpr ⟨lw_p23, List.forall_mem_cons.mpr ⟨lw_p24, List.forall_mem_cons.mpr ⟨lw_p25, List.forall_mem_cons.mpr ⟨lw_p26, List.forall_mem_cons.mpr ⟨lw_p27, List.forall_mem_cons.mpr ⟨lw_p28, List.forall_mem_cons.mpr ⟨lw_p29, List.forall_mem_cons.mpr ⟨lw_p30, List.forall_mem_cons.mpr ⟨lw_p31, fun _ h => absurd h List.not_mem_nil⟩⟩⟩⟩⟩⟩⟩⟩⟩⟩⟩⟩⟩⟩⟩⟩
theorem lw_p32 : lw_okq (⟨"NoticeMarketModel", "coins", "(IZ)I"⟩, 51) := ⟨⟨by decide +kernel, by decide +kernel⟩, List.mem_of_getElem? (i := 625) (by decide +kernel), List.mem_of_getElem? (i := 849) (by decide +kernel), List.mem_of_getElem? (i := 850) (by decide +kernel)⟩
theorem lw_p33 : lw_okq (⟨"NoticeMarketModel", "isPage", "(I)Z"⟩, 51) := ⟨⟨by decide +kernel, by decide +kernel⟩, List.mem_of_getElem? (i := 625) (by decide +kernel), List.mem_of_getElem? (i := 858) (by decide +kernel), List.mem_of_getElem? (i := 859) (by decide +kernel)⟩
theorem lw_p34 : lw_okq (⟨"NoticeMarketModel", "find", "(II)J"⟩, 51) := ⟨⟨by decide +kernel, by decide +kernel⟩, List.mem_of_getElem? (i := 625) (by decide +kernel), List.mem_of_getElem? (i := 862) (by decide +kernel), List.mem_of_getElem? (i := 863) (by decide +kernel)⟩
theorem lw_p35 : lw_okq (⟨"NoticeMarketModel", "gather", "(II)V"⟩, 51) := ⟨⟨by decide +kernel, by decide +kernel⟩, List.mem_of_getElem? (i := 625) (by decide +kernel), List.mem_of_getElem? (i := 866) (by decide +kernel), List.mem_of_getElem? (i := 867) (by decide +kernel)⟩
theorem lw_p36 : lw_okq (⟨"NoticeMarketModel", "hinders", "(III)I"⟩, 51) := ⟨⟨by decide +kernel, by decide +kernel⟩, List.mem_of_getElem? (i := 625) (by decide +kernel), List.mem_of_getElem? (i := 870) (by decide +kernel), List.mem_of_getElem? (i := 871) (by decide +kernel)⟩
theorem lw_p37 : lw_okq (⟨"NoticeMarketModel", "leftOfDay", "(I)I"⟩, 51) := ⟨⟨by decide +kernel, by decide +kernel⟩, List.mem_of_getElem? (i := 625) (by decide +kernel), List.mem_of_getElem? (i := 874) (by decide +kernel), List.mem_of_getElem? (i := 875) (by decide +kernel)⟩
theorem lw_p38 : lw_okq (⟨"NoticeMarketModel", "leftInAll", "(I)I"⟩, 51) := ⟨⟨by decide +kernel, by decide +kernel⟩, List.mem_of_getElem? (i := 625) (by decide +kernel), List.mem_of_getElem? (i := 878) (by decide +kernel), List.mem_of_getElem? (i := 879) (by decide +kernel)⟩
theorem lw_p39 : lw_okq (⟨"NoticeMarketModel", "drawOf", "(II)I"⟩, 51) := ⟨⟨by decide +kernel, by decide +kernel⟩, List.mem_of_getElem? (i := 625) (by decide +kernel), List.mem_of_getElem? (i := 882) (by decide +kernel), List.mem_of_getElem? (i := 883) (by decide +kernel)⟩
theorem lw_p40 : lw_okq (⟨"NoticeMarketModel", "worthOf", "(II)J"⟩, 51) := ⟨⟨by decide +kernel, by decide +kernel⟩, List.mem_of_getElem? (i := 625) (by decide +kernel), List.mem_of_getElem? (i := 888) (by decide +kernel), List.mem_of_getElem? (i := 889) (by decide +kernel)⟩
theorem lw_p41 : lw_okq (⟨"NoticeMarketModel", "presses", "(II)I"⟩, 51) := ⟨⟨by decide +kernel, by decide +kernel⟩, List.mem_of_getElem? (i := 625) (by decide +kernel), List.mem_of_getElem? (i := 893) (by decide +kernel), List.mem_of_getElem? (i := 894) (by decide +kernel)⟩
theorem lw_p42 : lw_okq (⟨"NoticeMarketModel", "showings", "(II)I"⟩, 51) := ⟨⟨by decide +kernel, by decide +kernel⟩, List.mem_of_getElem? (i := 625) (by decide +kernel), List.mem_of_getElem? (i := 897) (by decide +kernel), List.mem_of_getElem? (i := 898) (by decide +kernel)⟩
theorem lw_p43 : lw_okq (⟨"NoticeMarketModel", "isBehind", "(I)Z"⟩, 51) := ⟨⟨by decide +kernel, by decide +kernel⟩, List.mem_of_getElem? (i := 625) (by decide +kernel), List.mem_of_getElem? (i := 901) (by decide +kernel), List.mem_of_getElem? (i := 902) (by decide +kernel)⟩
theorem lw_p44 : lw_okq (⟨"NoticeMarketModel", "reckon", "(I)V"⟩, 51) := ⟨⟨by decide +kernel, by decide +kernel⟩, List.mem_of_getElem? (i := 625) (by decide +kernel), List.mem_of_getElem? (i := 906) (by decide +kernel), List.mem_of_getElem? (i := 907) (by decide +kernel)⟩
theorem lw_p45 : lw_okq (⟨"NoticeMarketModel", "go", "(ZI)V"⟩, 51) := ⟨⟨by decide +kernel, by decide +kernel⟩, List.mem_of_getElem? (i := 625) (by decide +kernel), List.mem_of_getElem? (i := 910) (by decide +kernel), List.mem_of_getElem? (i := 911) (by decide +kernel)⟩
theorem lw_p46 : lw_okq (⟨"NoticeMarketModel", "fits", "(III)Z"⟩, 51) := ⟨⟨by decide +kernel, by decide +kernel⟩, List.mem_of_getElem? (i := 625) (by decide +kernel), List.mem_of_getElem? (i := 914) (by decide +kernel), List.mem_of_getElem? (i := 915) (by decide +kernel)⟩
theorem lw_p47 : lw_okq (⟨"NoticeMarketModel", "priceOf", "(IIIJ)I"⟩, 51) := ⟨⟨by decide +kernel, by decide +kernel⟩, List.mem_of_getElem? (i := 625) (by decide +kernel), List.mem_of_getElem? (i := 918) (by decide +kernel), List.mem_of_getElem? (i := 919) (by decide +kernel)⟩
def lw_privs_3 : List (MethodName × Nat) := [(⟨"NoticeMarketModel", "coins", "(IZ)I"⟩, 51), (⟨"NoticeMarketModel", "isPage", "(I)Z"⟩, 51), (⟨"NoticeMarketModel", "find", "(II)J"⟩, 51), (⟨"NoticeMarketModel", "gather", "(II)V"⟩, 51), (⟨"NoticeMarketModel", "hinders", "(III)I"⟩, 51), (⟨"NoticeMarketModel", "leftOfDay", "(I)I"⟩, 51), (⟨"NoticeMarketModel", "leftInAll", "(I)I"⟩, 51), (⟨"NoticeMarketModel", "drawOf", "(II)I"⟩, 51), (⟨"NoticeMarketModel", "worthOf", "(II)J"⟩, 51), (⟨"NoticeMarketModel", "presses", "(II)I"⟩, 51), (⟨"NoticeMarketModel", "showings", "(II)I"⟩, 51), (⟨"NoticeMarketModel", "isBehind", "(I)Z"⟩, 51), (⟨"NoticeMarketModel", "reckon", "(I)V"⟩, 51), (⟨"NoticeMarketModel", "go", "(ZI)V"⟩, 51), (⟨"NoticeMarketModel", "fits", "(III)Z"⟩, 51), (⟨"NoticeMarketModel", "priceOf", "(IIIJ)I"⟩, 51)]
theorem lw_r3 : ∀ q ∈ lw_privs_3, lw_okq q := List.forall_mem_cons.mpr ⟨lw_p32, List.forall_mem_cons.mpr ⟨lw_p33, List.forall_mem_cons.mpr ⟨lw_p34, List.forall_mem_cons.mpr ⟨lw_p35, List.forall_mem_cons.mpr ⟨lw_p36, List.forall_mem_cons.mpr ⟨lw_p37, List.forall_mem_cons.mpr ⟨lw_p38, List.forall_mem_cons.mpr ⟨lw_p39, List.forall_mem_cons.mpr ⟨lw_p40, List.forall_mem_cons.mpr ⟨lw_p41, List.forall_mem_cons.mpr ⟨lw_p42, List.forall_mem_cons.mpr ⟨lw_p43, List.forall_mem_cons.mpr ⟨lw_p44, List.forall_mem_cons.mpr ⟨lw_p45, List.forall_mem_cons.mpr ⟨lw_p46, List.forall_mem_cons.mpr ⟨lw_p47, fun _ h => absurd h List.not_mem_nil⟩⟩⟩⟩⟩⟩⟩⟩⟩⟩⟩⟩⟩⟩⟩⟩
theorem lw_p48 : lw_okq (⟨"NoticeMarketModel", "sumWithout", "(I)J"⟩, 51) := ⟨⟨by decide +kernel, by decide +kernel⟩, List.mem_of_getElem? (i := 625) (by decide +kernel), List.mem_of_getElem? (i := 922) (by decide +kernel), List.mem_of_getElem? (i := 923) (by decide +kernel)⟩
theorem lw_p49 : lw_okq (⟨"NoticeMarketModel", "sell", "(III)V"⟩, 51) := ⟨⟨by decide +kernel, by decide +kernel⟩, List.mem_of_getElem? (i := 625) (by decide +kernel), List.mem_of_getElem? (i := 927) (by decide +kernel), List.mem_of_getElem? (i := 928) (by decide +kernel)⟩
theorem lw_p50 : lw_okq (⟨"NoticeMarketModel", "isSale", "(I)Z"⟩, 51) := ⟨⟨by decide +kernel, by decide +kernel⟩, List.mem_of_getElem? (i := 625) (by decide +kernel), List.mem_of_getElem? (i := 948) (by decide +kernel), List.mem_of_getElem? (i := 949) (by decide +kernel)⟩
def lw_privs_4 : List (MethodName × Nat) := [(⟨"NoticeMarketModel", "sumWithout", "(I)J"⟩, 51), (⟨"NoticeMarketModel", "sell", "(III)V"⟩, 51), (⟨"NoticeMarketModel", "isSale", "(I)Z"⟩, 51)]
theorem lw_r4 : ∀ q ∈ lw_privs_4, lw_okq q := List.forall_mem_cons.mpr ⟨lw_p48, List.forall_mem_cons.mpr ⟨lw_p49, List.forall_mem_cons.mpr ⟨lw_p50, fun _ h => absurd h List.not_mem_nil⟩⟩⟩
def lw_privs : List (MethodName × Nat) := lw_privs_1 ++ (lw_privs_2 ++ (lw_privs_3 ++ (lw_privs_4)))
def lw_tbl : List Cond := k2_sels lw_privs ++ tables_1
theorem lw_privs_ok : ∀ q ∈ lw_privs, lw_okq q := by
  show ∀ q ∈ lw_privs_1 ++ (lw_privs_2 ++ (lw_privs_3 ++ (lw_privs_4))), lw_okq q
  exact List.forall_mem_append.mpr ⟨lw_r1, List.forall_mem_append.mpr ⟨lw_r2, List.forall_mem_append.mpr ⟨lw_r3, lw_r4⟩⟩⟩
end
section
def RX0 : String := "NoticeMarket$Campaign"
def TX0 : u_T := fun k => match k with
  | 0 => ("NoticeMarket$Campaign", "sort", "I", true)
  | 1 => ("NoticeMarket$Campaign", "paysByPress", "Z", true)
  | 2 => ("NoticeMarket$Campaign", "mustHave", "I", true)
  | 3 => ("NoticeMarket$Campaign", "mustLack", "I", true)
  | 4 => ("NoticeMarket$Campaign", "bid", "I", true)
  | 5 => ("NoticeMarket$Campaign", "tally", "LNoticeMarket$Tally;", true)
  | 6 => ("NoticeMarket$Campaign", "dayBudget", "I", false)
  | 7 => ("NoticeMarket$Campaign", "allBudget", "I", false)
  | 8 => ("NoticeMarket$Campaign", "mostShowings", "I", false)
  | 9 => ("NoticeMarket$Campaign", "capSpan", "I", false)
  | 10 => ("NoticeMarket$Campaign", "throttle", "I", false)
  | 11 => ("NoticeMarket$Campaign", "stopped", "I", false)
  | 12 => ("NoticeMarket$Campaign", "apartFrom", "J", false)
  | 13 => ("NoticeMarket$Campaign", "promisedMany", "I", false)
  | 14 => ("NoticeMarket$Campaign", "promisedAt", "I", false)
  | _ => ("NoticeMarket$Campaign", "promiseEnd", "J", false)
def tyX0 : Nat → FieldType := fun k => match k with
  | 0 => .int
  | 1 => .boolean
  | 2 => .int
  | 3 => .int
  | 4 => .int
  | 5 => .object "NoticeMarket$Tally"
  | 6 => .int
  | 7 => .int
  | 8 => .int
  | 9 => .int
  | 10 => .int
  | 11 => .int
  | 12 => .long
  | 13 => .int
  | 14 => .int
  | _ => .long
abbrev wsX00 : List Cond := u_ws RX0 TX0 16
theorem nmX0 : ∀ a, a < 16 → ∀ b, b < 16 → a ≠ b → (TX0 a).2.1 ≠ (TX0 b).2.1 := by decide +kernel
theorem tyX0_ok : ∀ k, k < 16 → parseFieldDescriptor (TX0 k).2.2.1 = some (tyX0 k) := by decide +kernel
abbrev cX0_init : ByteArray := prog_2_method_1_code
def yX0_init : MethodName := ⟨RX0, "<init>", "(III)V"⟩
abbrev cX0_isApartFrom : ByteArray := prog_2_method_2_code
def yX0_isApartFrom : MethodName := ⟨RX0, "isApartFrom", "(I)Z"⟩
abbrev cX0_setApart : ByteArray := prog_2_method_3_code
def yX0_setApart : MethodName := ⟨RX0, "setApart", "(IZ)V"⟩
abbrev cX0_takePromise : ByteArray := prog_2_method_4_code
def yX0_takePromise : MethodName := ⟨RX0, "takePromise", "(IIJ)V"⟩
abbrev cX0_wants : ByteArray := prog_2_method_5_code
def yX0_wants : MethodName := ⟨RX0, "wants", "(I)Z"⟩
abbrev cX0_leftToday : ByteArray := prog_2_method_6_code
def yX0_leftToday : MethodName := ⟨RX0, "leftToday", "()I"⟩
abbrev cX0_leftInAll : ByteArray := prog_2_method_7_code
def yX0_leftInAll : MethodName := ⟨RX0, "leftInAll", "()I"⟩
abbrev cX0_isBehind : ByteArray := prog_2_method_8_code
def yX0_isBehind : MethodName := ⟨RX0, "isBehind", "(I)Z"⟩
abbrev cX0_dueBy : ByteArray := prog_2_method_9_code
def yX0_dueBy : MethodName := ⟨RX0, "dueBy", "(I)J"⟩
abbrev cX0_worthAt : ByteArray := prog_2_method_10_code
def yX0_worthAt : MethodName := ⟨RX0, "worthAt", "(IZ)J"⟩
abbrev cX0_setThrottle : ByteArray := prog_2_method_11_code
def yX0_setThrottle : MethodName := ⟨RX0, "setThrottle", "(I)V"⟩
def RX1 : String := "NoticeMarket$Giver"
def TX1 : u_T := fun k => match k with
  | 0 => ("NoticeMarket$Giver", "chosen", "[I", true)
  | 1 => ("NoticeMarket$Giver", "trial", "[I", true)
  | 2 => ("NoticeMarket$Giver", "weights", "[[J", true)
  | 3 => ("NoticeMarket$Giver", "order", "[[I", true)
  | 4 => ("NoticeMarket$Giver", "apartFrom", "[J", true)
  | 5 => ("NoticeMarket$Giver", "places", "I", false)
  | 6 => ("NoticeMarket$Giver", "offered", "I", false)
  | 7 => ("NoticeMarket$Giver", "offeredSet", "J", false)
  | _ => ("NoticeMarket$Giver", "bestWeight", "J", false)
def tyX1 : Nat → FieldType := fun k => match k with
  | 0 => .array .int
  | 1 => .array .int
  | 2 => .array (.array .long)
  | 3 => .array (.array .int)
  | 4 => .array .long
  | 5 => .int
  | 6 => .int
  | 7 => .long
  | _ => .long
abbrev wsX10 : List Cond := u_ws RX1 TX1 9
theorem nmX1 : ∀ a, a < 9 → ∀ b, b < 9 → a ≠ b → (TX1 a).2.1 ≠ (TX1 b).2.1 := by decide +kernel
theorem tyX1_ok : ∀ k, k < 9 → parseFieldDescriptor (TX1 k).2.2.1 = some (tyX1 k) := by decide +kernel
abbrev cX1_init : ByteArray := prog_3_method_1_code
def yX1_init : MethodName := ⟨RX1, "<init>", "()V"⟩
abbrev cX1_startFor : ByteArray := prog_3_method_2_code
def yX1_startFor : MethodName := ⟨RX1, "startFor", "(I)V"⟩
abbrev cX1_addWorth : ByteArray := prog_3_method_3_code
def yX1_addWorth : MethodName := ⟨RX1, "addWorth", "(IIJ)V"⟩
abbrev cX1_addCampaign : ByteArray := prog_3_method_4_code
def yX1_addCampaign : MethodName := ⟨RX1, "addCampaign", "(IJ)V"⟩
abbrev cX1_worthOf : ByteArray := prog_3_method_5_code
def yX1_worthOf : MethodName := ⟨RX1, "worthOf", "(II)J"⟩
abbrev cX1_bestSum : ByteArray := prog_3_method_6_code
def yX1_bestSum : MethodName := ⟨RX1, "bestSum", "()J"⟩
abbrev cX1_seek : ByteArray := prog_3_method_7_code
def yX1_seek : MethodName := ⟨RX1, "seek", "(I)J"⟩
abbrev cX1_fillFrom : ByteArray := prog_3_method_8_code
def yX1_fillFrom : MethodName := ⟨RX1, "fillFrom", "(IJJ)V"⟩
abbrev cX1_tryAt : ByteArray := prog_3_method_9_code
def yX1_tryAt : MethodName := ⟨RX1, "tryAt", "(IIJJ)V"⟩
abbrev cX1_keepIfBetter : ByteArray := prog_3_method_10_code
def yX1_keepIfBetter : MethodName := ⟨RX1, "keepIfBetter", "(J)V"⟩
abbrev cX1_mostFrom : ByteArray := prog_3_method_11_code
def yX1_mostFrom : MethodName := ⟨RX1, "mostFrom", "(IJ)J"⟩
abbrev cX1_greatestAt : ByteArray := prog_3_method_12_code
def yX1_greatestAt : MethodName := ⟨RX1, "greatestAt", "(IJ)J"⟩
def RX2 : String := "NoticeMarket$Page"
def TX2 : u_T := fun k => match k with
  | 0 => ("NoticeMarket$Page", "sizes", "[I", true)
  | 1 => ("NoticeMarket$Page", "places", "I", true)
  | 2 => ("NoticeMarket$Page", "earned", "I", false)
  | _ => ("NoticeMarket$Page", "shownNow", "J", false)
def tyX2 : Nat → FieldType := fun k => match k with
  | 0 => .array .int
  | 1 => .int
  | 2 => .int
  | _ => .long
abbrev wsX20 : List Cond := u_ws RX2 TX2 4
theorem nmX2 : ∀ a, a < 4 → ∀ b, b < 4 → a ≠ b → (TX2 a).2.1 ≠ (TX2 b).2.1 := by decide +kernel
theorem tyX2_ok : ∀ k, k < 4 → parseFieldDescriptor (TX2 k).2.2.1 = some (tyX2 k) := by decide +kernel
abbrev cX2_init : ByteArray := prog_4_method_1_code
def yX2_init : MethodName := ⟨RX2, "<init>", "(II)V"⟩
def RX3 : String := "NoticeMarket$Sale"
def TX3 : u_T := fun k => match k with
  | 0 => ("NoticeMarket$Sale", "soldAt", "I", true)
  | 1 => ("NoticeMarket$Sale", "reader", "I", true)
  | 2 => ("NoticeMarket$Sale", "page", "I", true)
  | 3 => ("NoticeMarket$Sale", "place", "I", true)
  | 4 => ("NoticeMarket$Sale", "campaign", "I", true)
  | 5 => ("NoticeMarket$Sale", "price", "I", false)
  | 6 => ("NoticeMarket$Sale", "state", "I", false)
  | 7 => ("NoticeMarket$Sale", "lastPress", "I", false)
  | 8 => ("NoticeMarket$Sale", "pressedAt", "I", false)
  | 9 => ("NoticeMarket$Sale", "paid", "I", false)
  | 10 => ("NoticeMarket$Sale", "held", "I", false)
  | _ => ("NoticeMarket$Sale", "earlier", "LNoticeMarket$Sale;", false)
def tyX3 : Nat → FieldType := fun k => match k with
  | 0 => .int
  | 1 => .int
  | 2 => .int
  | 3 => .int
  | 4 => .int
  | 5 => .int
  | 6 => .int
  | 7 => .int
  | 8 => .int
  | 9 => .int
  | 10 => .int
  | _ => .object "NoticeMarket$Sale"
abbrev wsX30 : List Cond := u_ws RX3 TX3 12
theorem nmX3 : ∀ a, a < 12 → ∀ b, b < 12 → a ≠ b → (TX3 a).2.1 ≠ (TX3 b).2.1 := by decide +kernel
theorem tyX3_ok : ∀ k, k < 12 → parseFieldDescriptor (TX3 k).2.2.1 = some (tyX3 k) := by decide +kernel
abbrev cX3_init : ByteArray := prog_5_method_1_code
def yX3_init : MethodName := ⟨RX3, "<init>", "(IIIII)V"⟩
def RX4 : String := "NoticeMarket$Tally"
def TX4 : u_T := fun k => match k with
  | 0 => ("NoticeMarket$Tally", "spent", "I", false)
  | 1 => ("NoticeMarket$Tally", "held", "I", false)
  | 2 => ("NoticeMarket$Tally", "usedToday", "I", false)
  | 3 => ("NoticeMarket$Tally", "shows", "I", false)
  | 4 => ("NoticeMarket$Tally", "showsNow", "I", false)
  | 5 => ("NoticeMarket$Tally", "presses", "I", false)
  | 6 => ("NoticeMarket$Tally", "pressesNow", "I", false)
  | _ => ("NoticeMarket$Tally", "newest", "LNoticeMarket$Sale;", false)
def tyX4 : Nat → FieldType := fun k => match k with
  | 0 => .int
  | 1 => .int
  | 2 => .int
  | 3 => .int
  | 4 => .int
  | 5 => .int
  | 6 => .int
  | _ => .object "NoticeMarket$Sale"
abbrev wsX40 : List Cond := u_ws RX4 TX4 8
theorem nmX4 : ∀ a, a < 8 → ∀ b, b < 8 → a ≠ b → (TX4 a).2.1 ≠ (TX4 b).2.1 := by decide +kernel
theorem tyX4_ok : ∀ k, k < 8 → parseFieldDescriptor (TX4 k).2.2.1 = some (tyX4 k) := by decide +kernel
abbrev cX4_init : ByteArray := prog_6_method_1_code
def yX4_init : MethodName := ⟨RX4, "<init>", "()V"⟩
abbrev cX4_addShowing : ByteArray := prog_6_method_2_code
def yX4_addShowing : MethodName := ⟨RX4, "addShowing", "(LNoticeMarket$Sale;)V"⟩
abbrev cX4_endTick : ByteArray := prog_6_method_3_code
def yX4_endTick : MethodName := ⟨RX4, "endTick", "()V"⟩
abbrev cX4_chanceOf : ByteArray := prog_6_method_4_code
def yX4_chanceOf : MethodName := ⟨RX4, "chanceOf", "(J)J"⟩
abbrev cX4_showsTo : ByteArray := prog_6_method_5_code
def yX4_showsTo : MethodName := ⟨RX4, "showsTo", "(II)I"⟩
def RX5 : String := "NoticeMarket"
def TX5 : u_T := fun k => match k with
  | 0 => ("NoticeMarket", "pages", "[LNoticeMarket$Page;", true)
  | 1 => ("NoticeMarket", "campaigns", "[LNoticeMarket$Campaign;", true)
  | 2 => ("NoticeMarket", "sales", "[LNoticeMarket$Sale;", true)
  | 3 => ("NoticeMarket", "readerMarks", "[I", true)
  | 4 => ("NoticeMarket", "giver", "LNoticeMarket$Giver;", true)
  | 5 => ("NoticeMarket", "given", "[I", true)
  | 6 => ("NoticeMarket", "prices", "[I", true)
  | 7 => ("NoticeMarket", "pageCount", "I", false)
  | 8 => ("NoticeMarket", "campaignCount", "I", false)
  | 9 => ("NoticeMarket", "saleCount", "I", false)
  | 10 => ("NoticeMarket", "backCount", "I", false)
  | 11 => ("NoticeMarket", "spentInAll", "I", false)
  | 12 => ("NoticeMarket", "now", "I", false)
  | 13 => ("NoticeMarket", "priceRule", "I", false)
  | 14 => ("NoticeMarket", "paceTicks", "I", false)
  | 15 => ("NoticeMarket", "pressWait", "I", false)
  | _ => ("NoticeMarket", "noneFreeBy", "I", false)
def tyX5 : Nat → FieldType := fun k => match k with
  | 0 => .array (.object "NoticeMarket$Page")
  | 1 => .array (.object "NoticeMarket$Campaign")
  | 2 => .array (.object "NoticeMarket$Sale")
  | 3 => .array .int
  | 4 => .object "NoticeMarket$Giver"
  | 5 => .array .int
  | 6 => .array .int
  | 7 => .int
  | 8 => .int
  | 9 => .int
  | 10 => .int
  | 11 => .int
  | 12 => .int
  | 13 => .int
  | 14 => .int
  | 15 => .int
  | _ => .int
abbrev wsX50 : List Cond := u_ws RX5 TX5 17
theorem nmX5 : ∀ a, a < 17 → ∀ b, b < 17 → a ≠ b → (TX5 a).2.1 ≠ (TX5 b).2.1 := by decide +kernel
theorem tyX5_ok : ∀ k, k < 17 → parseFieldDescriptor (TX5 k).2.2.1 = some (tyX5 k) := by decide +kernel
abbrev cX5_init : ByteArray := prog_1_method_1_code
def yX5_init : MethodName := ⟨RX5, "<init>", "()V"⟩
abbrev cX5_page : ByteArray := prog_1_method_2_code
def yX5_page : MethodName := ⟨RX5, "page", "(I)I"⟩
abbrev cX5_marks : ByteArray := prog_1_method_3_code
def yX5_marks : MethodName := ⟨RX5, "marks", "(II)I"⟩
abbrev cX5_campaign : ByteArray := prog_1_method_4_code
def yX5_campaign : MethodName := ⟨RX5, "campaign", "(III)I"⟩
abbrev cX5_budget : ByteArray := prog_1_method_5_code
def yX5_budget : MethodName := ⟨RX5, "budget", "(III)I"⟩
abbrev cX5_cap : ByteArray := prog_1_method_6_code
def yX5_cap : MethodName := ⟨RX5, "cap", "(III)I"⟩
abbrev cX5_apart : ByteArray := prog_1_method_7_code
def yX5_apart : MethodName := ⟨RX5, "apart", "(III)I"⟩
abbrev cX5_promise : ByteArray := prog_1_method_8_code
def yX5_promise : MethodName := ⟨RX5, "promise", "(III)I"⟩
abbrev cX5_stop : ByteArray := prog_1_method_9_code
def yX5_stop : MethodName := ⟨RX5, "stop", "(II)I"⟩
abbrev cX5_rule : ByteArray := prog_1_method_10_code
def yX5_rule : MethodName := ⟨RX5, "rule", "(I)I"⟩
abbrev cX5_pace : ByteArray := prog_1_method_11_code
def yX5_pace : MethodName := ⟨RX5, "pace", "(II)I"⟩
abbrev cX5_tick : ByteArray := prog_1_method_12_code
def yX5_tick : MethodName := ⟨RX5, "tick", "(I)I"⟩
abbrev cX5_come : ByteArray := prog_1_method_13_code
def yX5_come : MethodName := ⟨RX5, "come", "(II)I"⟩
abbrev cX5_why : ByteArray := prog_1_method_14_code
def yX5_why : MethodName := ⟨RX5, "why", "(III)I"⟩
abbrev cX5_best : ByteArray := prog_1_method_15_code
def yX5_best : MethodName := ⟨RX5, "best", "(II)J"⟩
abbrev cX5_give : ByteArray := prog_1_method_16_code
def yX5_give : MethodName := ⟨RX5, "give", "(III)I"⟩
abbrev cX5_sale : ByteArray := prog_1_method_17_code
def yX5_sale : MethodName := ⟨RX5, "sale", "(II)I"⟩
abbrev cX5_press : ByteArray := prog_1_method_18_code
def yX5_press : MethodName := ⟨RX5, "press", "(I)I"⟩
abbrev cX5_refund : ByteArray := prog_1_method_19_code
def yX5_refund : MethodName := ⟨RX5, "refund", "(I)I"⟩
abbrev cX5_told : ByteArray := prog_1_method_20_code
def yX5_told : MethodName := ⟨RX5, "told", "(II)I"⟩
abbrev cX5_chance : ByteArray := prog_1_method_21_code
def yX5_chance : MethodName := ⟨RX5, "chance", "(I)I"⟩
abbrev cX5_draw : ByteArray := prog_1_method_22_code
def yX5_draw : MethodName := ⟨RX5, "draw", "(II)I"⟩
abbrev cX5_income : ByteArray := prog_1_method_23_code
def yX5_income : MethodName := ⟨RX5, "income", "(I)I"⟩
abbrev cX5_count : ByteArray := prog_1_method_24_code
def yX5_count : MethodName := ⟨RX5, "count", "(I)I"⟩
abbrev cX5_isWithin : ByteArray := prog_1_method_25_code
def yX5_isWithin : MethodName := ⟨RX5, "isWithin", "(III)Z"⟩
abbrev cX5_isPage : ByteArray := prog_1_method_26_code
def yX5_isPage : MethodName := ⟨RX5, "isPage", "(I)Z"⟩
abbrev cX5_isReader : ByteArray := prog_1_method_27_code
def yX5_isReader : MethodName := ⟨RX5, "isReader", "(I)Z"⟩
abbrev cX5_isCampaign : ByteArray := prog_1_method_28_code
def yX5_isCampaign : MethodName := ⟨RX5, "isCampaign", "(I)Z"⟩
abbrev cX5_isSale : ByteArray := prog_1_method_29_code
def yX5_isSale : MethodName := ⟨RX5, "isSale", "(I)Z"⟩
abbrev cX5_isSort : ByteArray := prog_1_method_30_code
def yX5_isSort : MethodName := ⟨RX5, "isSort", "(I)Z"⟩
abbrev cX5_isWish : ByteArray := prog_1_method_31_code
def yX5_isWish : MethodName := ⟨RX5, "isWish", "(I)Z"⟩
abbrev cX5_isBid : ByteArray := prog_1_method_32_code
def yX5_isBid : MethodName := ⟨RX5, "isBid", "(II)Z"⟩
abbrev cX5_placesIn : ByteArray := prog_1_method_33_code
def yX5_placesIn : MethodName := ⟨RX5, "placesIn", "(I)I"⟩
abbrev cX5_closeTick : ByteArray := prog_1_method_34_code
def yX5_closeTick : MethodName := ⟨RX5, "closeTick", "()V"⟩
abbrev cX5_goOneTick : ByteArray := prog_1_method_35_code
def yX5_goOneTick : MethodName := ⟨RX5, "goOneTick", "()V"⟩
abbrev cX5_closeDay : ByteArray := prog_1_method_36_code
def yX5_closeDay : MethodName := ⟨RX5, "closeDay", "()V"⟩
abbrev cX5_freeLateSales : ByteArray := prog_1_method_37_code
def yX5_freeLateSales : MethodName := ⟨RX5, "freeLateSales", "()V"⟩
abbrev cX5_setThrottles : ByteArray := prog_1_method_38_code
def yX5_setThrottles : MethodName := ⟨RX5, "setThrottles", "()V"⟩
abbrev cX5_drawn : ByteArray := prog_1_method_39_code
def yX5_drawn : MethodName := ⟨RX5, "drawn", "(II)I"⟩
abbrev cX5_hindrance : ByteArray := prog_1_method_40_code
def yX5_hindrance : MethodName := ⟨RX5, "hindrance", "(IILNoticeMarket$Page;)I"⟩
abbrev cX5_seekBest : ByteArray := prog_1_method_41_code
def yX5_seekBest : MethodName := ⟨RX5, "seekBest", "(ILNoticeMarket$Page;)J"⟩
abbrev cX5_offer : ByteArray := prog_1_method_42_code
def yX5_offer : MethodName := ⟨RX5, "offer", "(ILNoticeMarket$Page;)V"⟩
abbrev cX5_keepGivenAndPrices : ByteArray := prog_1_method_43_code
def yX5_keepGivenAndPrices : MethodName := ⟨RX5, "keepGivenAndPrices", "(LNoticeMarket$Page;)V"⟩
abbrev cX5_priceAt : ByteArray := prog_1_method_44_code
def yX5_priceAt : MethodName := ⟨RX5, "priceAt", "(ILNoticeMarket$Page;J)I"⟩
abbrev cX5_sell : ByteArray := prog_1_method_45_code
def yX5_sell : MethodName := ⟨RX5, "sell", "(III)V"⟩
abbrev cX5_hold : ByteArray := prog_1_method_46_code
def yX5_hold : MethodName := ⟨RX5, "hold", "(LNoticeMarket$Sale;)V"⟩
abbrev cX5_spend : ByteArray := prog_1_method_47_code
def yX5_spend : MethodName := ⟨RX5, "spend", "(LNoticeMarket$Sale;)V"⟩
abbrev cX5_addSpent : ByteArray := prog_1_method_48_code
def yX5_addSpent : MethodName := ⟨RX5, "addSpent", "(LNoticeMarket$Sale;I)V"⟩
abbrev cX5_spendHeld : ByteArray := prog_1_method_49_code
def yX5_spendHeld : MethodName := ⟨RX5, "spendHeld", "(LNoticeMarket$Sale;)V"⟩
abbrev cX5_freeHeld : ByteArray := prog_1_method_50_code
def yX5_freeHeld : MethodName := ⟨RX5, "freeHeld", "(LNoticeMarket$Sale;)V"⟩
abbrev cX5_givePaidBack : ByteArray := prog_1_method_51_code
def yX5_givePaidBack : MethodName := ⟨RX5, "givePaidBack", "(LNoticeMarket$Sale;)V"⟩
abbrev cX5_lessenDay : ByteArray := prog_1_method_52_code
def yX5_lessenDay : MethodName := ⟨RX5, "lessenDay", "(LNoticeMarket$Sale;I)V"⟩
abbrev cX5_uncount : ByteArray := prog_1_method_53_code
def yX5_uncount : MethodName := ⟨RX5, "uncount", "(LNoticeMarket$Sale;)V"⟩
def RX6 : String := "NoticeMarketModel"
def TX6 : u_T := fun k => match k with
  | 0 => ("NoticeMarketModel", "code", "I", false)
  | 1 => ("NoticeMarketModel", "tick", "I", false)
  | 2 => ("NoticeMarketModel", "rule", "I", false)
  | 3 => ("NoticeMarketModel", "pace", "I", false)
  | 4 => ("NoticeMarketModel", "wait", "I", false)
  | 5 => ("NoticeMarketModel", "pages", "I", false)
  | 6 => ("NoticeMarketModel", "places", "[I", true)
  | 7 => ("NoticeMarketModel", "sizes", "[I", true)
  | 8 => ("NoticeMarketModel", "marks", "[I", true)
  | 9 => ("NoticeMarketModel", "campaigns", "I", false)
  | 10 => ("NoticeMarketModel", "sort", "[I", true)
  | 11 => ("NoticeMarketModel", "pays", "[I", true)
  | 12 => ("NoticeMarketModel", "must", "[I", true)
  | 13 => ("NoticeMarketModel", "never", "[I", true)
  | 14 => ("NoticeMarketModel", "bid", "[I", true)
  | 15 => ("NoticeMarketModel", "dayBudget", "[I", true)
  | 16 => ("NoticeMarketModel", "allBudget", "[I", true)
  | 17 => ("NoticeMarketModel", "cap", "[I", true)
  | 18 => ("NoticeMarketModel", "span", "[I", true)
  | 19 => ("NoticeMarketModel", "throttle", "[I", true)
  | 20 => ("NoticeMarketModel", "stopped", "[Z", true)
  | 21 => ("NoticeMarketModel", "apart", "[Z", true)
  | 22 => ("NoticeMarketModel", "promised", "[I", true)
  | 23 => ("NoticeMarketModel", "promiseDay", "[I", true)
  | 24 => ("NoticeMarketModel", "promiseFrom", "[I", true)
  | 25 => ("NoticeMarketModel", "sales", "I", false)
  | 26 => ("NoticeMarketModel", "saleTick", "[I", true)
  | 27 => ("NoticeMarketModel", "saleReader", "[I", true)
  | 28 => ("NoticeMarketModel", "salePage", "[I", true)
  | 29 => ("NoticeMarketModel", "salePlace", "[I", true)
  | 30 => ("NoticeMarketModel", "saleOf", "[I", true)
  | 31 => ("NoticeMarketModel", "price", "[I", true)
  | 32 => ("NoticeMarketModel", "state", "[I", true)
  | 33 => ("NoticeMarketModel", "saleWait", "[I", true)
  | 34 => ("NoticeMarketModel", "pressTick", "[I", true)
  | 35 => ("NoticeMarketModel", "may", "I", false)
  | 36 => ("NoticeMarketModel", "mayBe", "[I", true)
  | 37 => ("NoticeMarketModel", "worth", "[J", true)
  | 38 => ("NoticeMarketModel", "mostAt", "[J", true)
  | 39 => ("NoticeMarketModel", "spots", "I", false)
  | 40 => ("NoticeMarketModel", "at", "[I", true)
  | 41 => ("NoticeMarketModel", "upTo", "[J", true)
  | 42 => ("NoticeMarketModel", "filledTo", "[I", true)
  | 43 => ("NoticeMarketModel", "bestSum", "J", false)
  | 44 => ("NoticeMarketModel", "bestFilled", "I", false)
  | 45 => ("NoticeMarketModel", "hasBest", "Z", false)
  | 46 => ("NoticeMarketModel", "given", "[I", true)
  | 47 => ("NoticeMarketModel", "order", "[I", true)
  | 48 => ("NoticeMarketModel", "next", "[I", true)
  | 49 => ("NoticeMarketModel", "toSell", "[I", true)
  | _ => ("NoticeMarketModel", "toPay", "[I", true)
def tyX6 : Nat → FieldType := fun k => match k with
  | 0 => .int
  | 1 => .int
  | 2 => .int
  | 3 => .int
  | 4 => .int
  | 5 => .int
  | 6 => .array .int
  | 7 => .array .int
  | 8 => .array .int
  | 9 => .int
  | 10 => .array .int
  | 11 => .array .int
  | 12 => .array .int
  | 13 => .array .int
  | 14 => .array .int
  | 15 => .array .int
  | 16 => .array .int
  | 17 => .array .int
  | 18 => .array .int
  | 19 => .array .int
  | 20 => .array .boolean
  | 21 => .array .boolean
  | 22 => .array .int
  | 23 => .array .int
  | 24 => .array .int
  | 25 => .int
  | 26 => .array .int
  | 27 => .array .int
  | 28 => .array .int
  | 29 => .array .int
  | 30 => .array .int
  | 31 => .array .int
  | 32 => .array .int
  | 33 => .array .int
  | 34 => .array .int
  | 35 => .int
  | 36 => .array .int
  | 37 => .array .long
  | 38 => .array .long
  | 39 => .int
  | 40 => .array .int
  | 41 => .array .long
  | 42 => .array .int
  | 43 => .long
  | 44 => .int
  | 45 => .boolean
  | 46 => .array .int
  | 47 => .array .int
  | 48 => .array .int
  | 49 => .array .int
  | _ => .array .int
abbrev wsX60 : List Cond := u_ws RX6 TX6 51
theorem nmX6 : ∀ a, a < 51 → ∀ b, b < 51 → a ≠ b → (TX6 a).2.1 ≠ (TX6 b).2.1 := by decide +kernel
theorem tyX6_ok : ∀ k, k < 51 → parseFieldDescriptor (TX6 k).2.2.1 = some (tyX6 k) := by decide +kernel
abbrev cX6_init : ByteArray := prog_8_method_1_code
def yX6_init : MethodName := ⟨RX6, "<init>", "()V"⟩
abbrev cX6_in : ByteArray := prog_8_method_3_code
def yX6_in : MethodName := ⟨RX6, "in", "(III)Z"⟩
abbrev cX6_isPage : ByteArray := prog_8_method_4_code
def yX6_isPage : MethodName := ⟨RX6, "isPage", "(I)Z"⟩
abbrev cX6_isReader : ByteArray := prog_8_method_5_code
def yX6_isReader : MethodName := ⟨RX6, "isReader", "(I)Z"⟩
abbrev cX6_isCampaign : ByteArray := prog_8_method_6_code
def yX6_isCampaign : MethodName := ⟨RX6, "isCampaign", "(I)Z"⟩
abbrev cX6_page : ByteArray := prog_8_method_7_code
def yX6_page : MethodName := ⟨RX6, "page", "(I)I"⟩
abbrev cX6_marks : ByteArray := prog_8_method_8_code
def yX6_marks : MethodName := ⟨RX6, "marks", "(II)I"⟩
abbrev cX6_campaign : ByteArray := prog_8_method_9_code
def yX6_campaign : MethodName := ⟨RX6, "campaign", "(III)I"⟩
abbrev cX6_budget : ByteArray := prog_8_method_10_code
def yX6_budget : MethodName := ⟨RX6, "budget", "(III)I"⟩
abbrev cX6_cap : ByteArray := prog_8_method_11_code
def yX6_cap : MethodName := ⟨RX6, "cap", "(III)I"⟩
abbrev cX6_apart : ByteArray := prog_8_method_12_code
def yX6_apart : MethodName := ⟨RX6, "apart", "(III)I"⟩
abbrev cX6_promise : ByteArray := prog_8_method_13_code
def yX6_promise : MethodName := ⟨RX6, "promise", "(III)I"⟩
abbrev cX6_stop : ByteArray := prog_8_method_14_code
def yX6_stop : MethodName := ⟨RX6, "stop", "(II)I"⟩
abbrev cX6_rule : ByteArray := prog_8_method_15_code
def yX6_rule : MethodName := ⟨RX6, "rule", "(I)I"⟩
abbrev cX6_pace : ByteArray := prog_8_method_16_code
def yX6_pace : MethodName := ⟨RX6, "pace", "(II)I"⟩
abbrev cX6_coins : ByteArray := prog_8_method_17_code
def yX6_coins : MethodName := ⟨RX6, "coins", "(IZ)I"⟩
abbrev cX6_sum : ByteArray := prog_8_method_18_code
def yX6_sum : MethodName := ⟨RX6, "sum", "(IIZZ)I"⟩
abbrev cX6_leftOfDay : ByteArray := prog_8_method_19_code
def yX6_leftOfDay : MethodName := ⟨RX6, "leftOfDay", "(I)I"⟩
abbrev cX6_leftInAll : ByteArray := prog_8_method_20_code
def yX6_leftInAll : MethodName := ⟨RX6, "leftInAll", "(I)I"⟩
abbrev cX6_showings : ByteArray := prog_8_method_21_code
def yX6_showings : MethodName := ⟨RX6, "showings", "(II)I"⟩
abbrev cX6_presses : ByteArray := prog_8_method_22_code
def yX6_presses : MethodName := ⟨RX6, "presses", "(II)I"⟩
abbrev cX6_isBehind : ByteArray := prog_8_method_23_code
def yX6_isBehind : MethodName := ⟨RX6, "isBehind", "(I)Z"⟩
abbrev cX6_drawOf : ByteArray := prog_8_method_24_code
def yX6_drawOf : MethodName := ⟨RX6, "drawOf", "(II)I"⟩
abbrev cX6_hinders : ByteArray := prog_8_method_25_code
def yX6_hinders : MethodName := ⟨RX6, "hinders", "(III)I"⟩
abbrev cX6_worthOf : ByteArray := prog_8_method_26_code
def yX6_worthOf : MethodName := ⟨RX6, "worthOf", "(II)J"⟩
abbrev cX6_gather : ByteArray := prog_8_method_27_code
def yX6_gather : MethodName := ⟨RX6, "gather", "(II)V"⟩
abbrev cX6_reckon : ByteArray := prog_8_method_28_code
def yX6_reckon : MethodName := ⟨RX6, "reckon", "(I)V"⟩
abbrev cX6_fits : ByteArray := prog_8_method_29_code
def yX6_fits : MethodName := ⟨RX6, "fits", "(III)Z"⟩
abbrev cX6_go : ByteArray := prog_8_method_30_code
def yX6_go : MethodName := ⟨RX6, "go", "(ZI)V"⟩
abbrev cX6_find : ByteArray := prog_8_method_31_code
def yX6_find : MethodName := ⟨RX6, "find", "(II)J"⟩
abbrev cX6_sumWithout : ByteArray := prog_8_method_32_code
def yX6_sumWithout : MethodName := ⟨RX6, "sumWithout", "(I)J"⟩
abbrev cX6_tick : ByteArray := prog_8_method_33_code
def yX6_tick : MethodName := ⟨RX6, "tick", "(I)I"⟩
abbrev cX6_goesBy : ByteArray := prog_8_method_34_code
def yX6_goesBy : MethodName := ⟨RX6, "goesBy", "()V"⟩
abbrev cX6_come : ByteArray := prog_8_method_35_code
def yX6_come : MethodName := ⟨RX6, "come", "(II)I"⟩
abbrev cX6_priceOf : ByteArray := prog_8_method_36_code
def yX6_priceOf : MethodName := ⟨RX6, "priceOf", "(IIIJ)I"⟩
abbrev cX6_sell : ByteArray := prog_8_method_37_code
def yX6_sell : MethodName := ⟨RX6, "sell", "(III)V"⟩
abbrev cX6_why : ByteArray := prog_8_method_38_code
def yX6_why : MethodName := ⟨RX6, "why", "(III)I"⟩
abbrev cX6_best : ByteArray := prog_8_method_39_code
def yX6_best : MethodName := ⟨RX6, "best", "(II)J"⟩
abbrev cX6_give : ByteArray := prog_8_method_40_code
def yX6_give : MethodName := ⟨RX6, "give", "(III)I"⟩
abbrev cX6_isSale : ByteArray := prog_8_method_41_code
def yX6_isSale : MethodName := ⟨RX6, "isSale", "(I)Z"⟩
abbrev cX6_sale : ByteArray := prog_8_method_42_code
def yX6_sale : MethodName := ⟨RX6, "sale", "(II)I"⟩
abbrev cX6_press : ByteArray := prog_8_method_43_code
def yX6_press : MethodName := ⟨RX6, "press", "(I)I"⟩
abbrev cX6_refund : ByteArray := prog_8_method_44_code
def yX6_refund : MethodName := ⟨RX6, "refund", "(I)I"⟩
abbrev cX6_told : ByteArray := prog_8_method_45_code
def yX6_told : MethodName := ⟨RX6, "told", "(II)I"⟩
abbrev cX6_chance : ByteArray := prog_8_method_46_code
def yX6_chance : MethodName := ⟨RX6, "chance", "(I)I"⟩
abbrev cX6_draw : ByteArray := prog_8_method_47_code
def yX6_draw : MethodName := ⟨RX6, "draw", "(II)I"⟩
abbrev cX6_income : ByteArray := prog_8_method_48_code
def yX6_income : MethodName := ⟨RX6, "income", "(I)I"⟩
abbrev cX6_count : ByteArray := prog_8_method_49_code
def yX6_count : MethodName := ⟨RX6, "count", "(I)I"⟩
def RJ9 : String := "java/lang/Math"
def TJ9 : u_T := fun k => match k with
  | _ => ("", "", "", false)
def tyJ9 : Nat → FieldType := fun k => match k with
  | _ => .int
abbrev wsJ90 : List Cond := u_ws RJ9 TJ9 0
theorem nmJ9 : ∀ a, a < 0 → ∀ b, b < 0 → a ≠ b → (TJ9 a).2.1 ≠ (TJ9 b).2.1 := by decide +kernel
theorem tyJ9_ok : ∀ k, k < 0 → parseFieldDescriptor (TJ9 k).2.2.1 = some (tyJ9 k) := by decide +kernel
abbrev cJ9_max_7cf53 : ByteArray := prog_9_method_65_code
def yJ9_max_7cf53 : MethodName := ⟨RJ9, "max", "(II)I"⟩
abbrev cJ9_max_f86c9 : ByteArray := prog_9_method_66_code
def yJ9_max_f86c9 : MethodName := ⟨RJ9, "max", "(JJ)J"⟩
abbrev cJ9_min_7cf53 : ByteArray := prog_9_method_69_code
def yJ9_min_7cf53 : MethodName := ⟨RJ9, "min", "(II)I"⟩
abbrev cJ9_min_f86c9 : ByteArray := prog_9_method_70_code
def yJ9_min_f86c9 : MethodName := ⟨RJ9, "min", "(JJ)J"⟩
def RL : String := "NoticeMarketLaw"
abbrev cL_law : ByteArray := code
def yL_law : MethodName := ⟨RL, "law", "([I)Z"⟩
abbrev vwCl : List vw_C := [(RX0, TX0, 16), (RX1, TX1, 9), (RX2, TX2, 4), (RX3, TX3, 12), (RX4, TX4, 8), (RX5, TX5, 17), (RX6, TX6, 51)]
end
section
/-! the words: all good words of the tables, one list for every method -/
def lw_B : List Cond := lw_tbl.filter goodWord
theorem lb_m {w : Cond} (h : w ∈ lw_tbl) (g : goodWord w = true) : w ∈ lw_B := List.mem_filter.mpr ⟨h, g⟩
theorem lb_t {w : Cond} (h : w ∈ tables_1) (g : goodWord w = true) : w ∈ lw_B := lb_m (List.mem_append_right _ h) g
theorem lb_0 (i : Nat) {w : Cond} (h : (k2_sels lw_privs)[i]? = some w) (g : goodWord w = true) : w ∈ lw_B := lb_m (List.mem_append_left _ (List.mem_of_getElem? h)) g
theorem lb_1 (i : Nat) {w : Cond} (h : tables_1_1[i]? = some w) (g : goodWord w = true) : w ∈ lw_B := lb_t (List.mem_append_left _ (List.mem_of_getElem? h)) g
theorem lb_2 (i : Nat) {w : Cond} (h : tables_1_2[i]? = some w) (g : goodWord w = true) : w ∈ lw_B := lb_t (List.mem_append_right _ (List.mem_append_left _ (List.mem_of_getElem? h))) g
theorem lb_3 (i : Nat) {w : Cond} (h : tables_1_3[i]? = some w) (g : goodWord w = true) : w ∈ lw_B := lb_t (List.mem_append_right _ (List.mem_append_right _ (List.mem_append_left _ (List.mem_of_getElem? h)))) g
theorem lb_4 (i : Nat) {w : Cond} (h : tables_1_4[i]? = some w) (g : goodWord w = true) : w ∈ lw_B := lb_t (List.mem_append_right _ (List.mem_append_right _ (List.mem_append_right _ (List.mem_append_left _ (List.mem_of_getElem? h))))) g
theorem lb_5 (i : Nat) {w : Cond} (h : tables_1_5[i]? = some w) (g : goodWord w = true) : w ∈ lw_B := lb_t (List.mem_append_right _ (List.mem_append_right _ (List.mem_append_right _ (List.mem_append_right _ (List.mem_of_getElem? h))))) g
theorem lb_gd {w : Cond} (h : w ∈ lw_B) : (w.onTables && w.keeps) = true ∨ ∃ ty, w = .arrayClass ty := good_of_word (List.mem_filter.mp h).2
theorem lb_GI {ws : List Cond} (h : ∀ w ∈ ws, w ∈ lw_B) : GoodIn lw_B ws := fun w hw => ⟨h w hw, lb_gd (h w hw)⟩
theorem lb_c {c2 : Cond} (h : c2 ∈ lw_B) : ∀ w ∈ c2 :: lw_B, w ∈ lw_B := fun w hw => (List.mem_cons.mp hw).elim (fun e => by rw [e]; exact h) id
theorem lb_ps {ws : List Cond} (ps : List Nat) (hp : ws = ps.filterMap (fun i => tables_1[i]?)) (hg : ws.all goodWord = true) : ∀ w ∈ ws, w ∈ lw_B := by
  intro w hw
  have h1 := List.all_eq_true.mp hg w hw
  rw [hp] at hw
  obtain ⟨i, -, hi⟩ := List.mem_filterMap.mp hw
  exact lb_t (List.mem_of_getElem? hi) h1
theorem lb_V {own : String} {index : Nat} {C : String} {y : MethodName} {c2 : Cond} (w1 : Cond.methodLink own index y ∈ lw_B) (w2 : Cond.instanceMethod y ∈ lw_B) (w3 : Cond.selects C y y ∈ lw_B) (w4 : Cond.initialized C ∈ lw_B) (w5 : c2 ∈ lw_B) : GoodIn lw_B (wsV own index C y (c2 :: lw_B)) := lb_GI (fun w hw => by
  rcases List.mem_append.mp hw with h | h
  · simp only [List.mem_cons, List.not_mem_nil, or_false] at h
    rcases h with rfl | rfl | rfl | rfl <;> assumption
  · exact lb_c w5 w h)
theorem lb_S {own : String} {index : Nat} {y : MethodName} {c2 : Cond} (w1 : Cond.methodLink own index y ∈ lw_B) (w2 : Cond.static y ∈ lw_B) (w3 : Cond.initialized y.cls ∈ lw_B) (w5 : c2 ∈ lw_B) : GoodIn lw_B (va_wsS own index y (c2 :: lw_B)) := lb_GI (fun w hw => by
  rcases List.mem_append.mp hw with h | h
  · simp only [List.mem_cons, List.not_mem_nil, or_false] at h
    rcases h with rfl | rfl | rfl <;> assumption
  · exact lb_c w5 w h)
/-- a room by the depth of calls below -/
abbrev rmD (d cells slots : Nat) : Room := { frames := d, cells := cells, slots := slots, locals := 40 * d }
/-- methods that change nothing: their end -/
abbrev qR (post : Int32 → Prop) : Array Value → State → Outcome → State → Prop := va_Qi (fun r (_ : Unit) => post r) (fun _ _ => True) (fun _ => False)
abbrev qRl (post : Int64 → Prop) : Array Value → State → Outcome → State → Prop := va_Ql (fun r (_ : Unit) => post r) (fun _ _ => True) (fun _ => False)
/-- a static method that changes nothing -/
abbrev mS (l : Launch) (y : MethodName) (bytes : ByteArray) (maxL : Nat) (ret : FieldType) (d : Nat) (As : List Value) (post : Int32 → Prop) : Prop :=
  Met l y (Cond.code y bytes maxL (some ret) :: lw_B) (rmD d 0 0) (va_Pc As (fun _ => True)) (qR post) 0 0 (fun _ => False)
/-- a method of an object that changes nothing -/
abbrev mV (l : Launch) (y : MethodName) (bytes : ByteArray) (maxL : Nat) (ret : FieldType) (d : Nat) (D : va_G) (wc : va_W) (tc : List (ClassId × FieldType)) (As : List Value) (post : Int32 → Prop) : Prop :=
  Met l y (Cond.code y bytes maxL (some ret) :: lw_B) (rmD d 0 0) (va_Pc As (fun U => va_P D vwCl wc U.heap ∧ va_K D vwCl tc U)) (qR post) 0 0 (fun _ => False)
abbrev mVl (l : Launch) (y : MethodName) (bytes : ByteArray) (maxL : Nat) (ret : FieldType) (d : Nat) (D : va_G) (wc : va_W) (tc : List (ClassId × FieldType)) (As : List Value) (post : Int64 → Prop) : Prop :=
  Met l y (Cond.code y bytes maxL (some ret) :: lw_B) (rmD d 0 0) (va_Pc As (fun U => va_P D vwCl wc U.heap ∧ va_K D vwCl tc U)) (qRl post) 0 0 (fun _ => False)
theorem k_no1 (x : Int32) : ¬ (0 ≤ x ∧ x ≤ 0 - 1) := by
  rw [show (0 : Int32) - 1 = -1 from rfl]; simp only [Int32.le_iff_toInt_le, Int32.reduceToInt]; have := (show (-1 : Int32).toInt = -1 from rfl); omega
theorem k_ite {P Q : Prop} [Decidable P] [Decidable Q] (h : P ↔ Q) (a b : Int32) : (if P then a else b) = (if Q then a else b) := by
  by_cases hp : P
  · rw [if_pos hp, if_pos (h.mp hp)]
  · rw [if_neg hp, if_neg (fun q => hp (h.mpr q))]
theorem k_ff {P : Prop} [Decidable P] {r : Int32} (h : r = if P then 1 else 0) (c : r = 0) : ¬ P := fun q => by rw [h, if_pos q] at c; exact absurd c (by decide)
theorem k_ft {P : Prop} [Decidable P] {r : Int32} (h : r = if P then 1 else 0) (c : ¬ r = 0) : P := Classical.byContradiction (fun q => c (by rw [h, if_neg q]))
theorem k_sw5 (x : Int32) : (x.toInt < 0 ∨ 5 < x.toInt) ∨ x = 0 ∨ x = 1 ∨ x = 2 ∨ x = 3 ∨ x = 4 ∨ x = 5 := by
  simp only [← Int32.toInt_inj, Int32.reduceToInt]; omega
theorem k_sw22 (x : Int32) : (x.toInt < 0 ∨ 22 < x.toInt) ∨ x = 0 ∨ x = 1 ∨ x = 2 ∨ x = 3 ∨ x = 4 ∨ x = 5 ∨ x = 6 ∨ x = 7 ∨ x = 8 ∨ x = 9 ∨ x = 10 ∨ x = 11 ∨ x = 12 ∨ x = 13 ∨ x = 14 ∨ x = 15 ∨ x = 16 ∨ x = 17 ∨ x = 18 ∨ x = 19 ∨ x = 20 ∨ x = 21 ∨ x = 22 := by
  simp only [← Int32.toInt_inj, Int32.reduceToInt]; omega
theorem k_no0 (x : Int32) : ¬ (0 ≤ x ∧ x < 0) := by
  simp only [Int32.lt_iff_toInt_lt, Int32.le_iff_toInt_le]; omega
section KC
variable {p : Program} {l : Launch} {e : Env} {R : Room} {s : State} {m : MethodId} {args : Array Value} {below : List Frame} {meth : Method} {c : Code} {H : Heap} {locs : List Loc} {cells slots : Nat} {Q : State → Prop}
variable {A0 : Nat → Prop} {H0 : Heap} {D : va_G} {cl : List vw_C} {ws : va_W} {pc : Nat} {ls : Array Slot} {st0 rest : List Value} {y : MethodName} {bytes cc : ByteArray} {maxL nL index d n : Nat} {ret : FieldType} {own : String} {As : List Value} {post : Int32 → Prop}
theorem k_ro {a : Array Value} (hr : va_Run p l e R s m args below meth c H locs cells slots 0 0 (F0 m pc ls st0) rest (qR post a) (fun _ => False)) (hS : va_S A0 H0 H locs) (hP : va_P D cl ws H)
    (kk : ∀ (r : Int32) (H1 : Heap) (locs1 : List Loc), post r → va_P D cl ws H1 → va_S A0 H0 H1 locs1 → W p l e R s m args below meth c H1 locs1 cells slots Q (F0 m (pc + 3) ls (.int r :: rest))) : W p l e R s m args below meth c H locs cells slots Q (F0 m pc ls st0) :=
  va_calli hr hS (fun _ _ h => h.elim) (fun _ h => h.elim) (fun r _ _ H1 locs1 _ _ hp _ _ hk hS1 => kk r H1 locs1 hp (hP.kept fun k q hq => hk q.1 (hP k q hq).lt id) hS1)
/-- a call of a static method that changes nothing -/
theorem k_S (S : CallFix p m c cc nL s args lw_B own) (hM : mS l y bytes maxL ret d As post) (n : Nat) (w1 : Cond.methodLink own index y ∈ lw_B) (w2 : Cond.static y ∈ lw_B) (w3 : Cond.initialized y.cls ∈ lw_B) (w4 : Cond.code y bytes maxL (some ret) ∈ lw_B)
    (hd : y.cls ≠ "java/lang/invoke/MethodHandle" ∧ y.cls ≠ "java/lang/invoke/VarHandle" ∧ (parseMethodDescriptor y.desc).map (fun d => d.parameters.length) = some n) (hR : d + 1 ≤ R.frames ∧ 8 + (maxL + 11) + 40 * d ≤ R.locals)
    (hn : As.length = n) (hls : ls.size = nL) (hst : st0 = As.reverse ++ rest) (hW : (rest.map fun v => v.category).sum ≤ 8) (hdg : decode cc pc = .ok (.invokestatic index, 3)) (hf : cells + 0 ≤ R.cells ∧ slots + 0 ≤ R.slots)
    (hS : va_S A0 H0 H locs) (hP : va_P D cl ws H)
    (kk : ∀ (r : Int32) (H1 : Heap) (locs1 : List Loc), post r → va_P D cl ws H1 → va_S A0 H0 H1 locs1 → W p l e R s m args below meth c H1 locs1 cells slots Q (F0 m (pc + 3) ls (.int r :: rest))) : W p l e R s m args below meth c H locs cells slots Q (F0 m pc ls st0) :=
  k_ro (va_runS (As := As) (rest := rest) S hM (va_cwS n S.2.2.2.2 (lb_S w1 w2 w3 w4) rfl rfl rfl hd hR) ⟨fun _ _ _ _ q => q, fun _ _ _ => ⟨rfl, trivial⟩⟩ rfl hn hls hst (lv_room hW) hdg hf) hS hP kk
/-- a call of a method of an object that changes nothing -/
theorem k_V {wc : va_W} {tc : List (ClassId × FieldType)} {b ci q0 : Nat} {fs : List Value} {q : vw_C} (S : CallFix p m c cc nL s args lw_B own) (hM : mV l y bytes maxL ret d D wc tc (.ref b :: As) post) (n : Nat) (w1 : Cond.methodLink own index y ∈ lw_B) (w2 : Cond.instanceMethod y ∈ lw_B) (w3 : Cond.selects q.1 y y ∈ lw_B) (w4 : Cond.initialized q.1 ∈ lw_B) (w5 : Cond.code y bytes maxL (some ret) ∈ lw_B)
    (hd : y.cls = q.1 ∧ y.cls ≠ "java/lang/invoke/MethodHandle" ∧ y.cls ≠ "java/lang/invoke/VarHandle" ∧ (parseMethodDescriptor y.desc).map (fun d => d.parameters.length) = some n) (hR : d + 1 ≤ R.frames ∧ 8 + (maxL + 11) + 40 * d ≤ R.locals)
    (hPc : va_P D vwCl wc H) (hKc : va_K D vwCl tc s) (hc : vwCl[ci]? = some q) (he : wc[q0]? = some (b, .inr (ci, fs)))
    (hn : As.length = n) (hls : ls.size = nL) (hst : st0 = As.reverse ++ .ref b :: rest) (hW : (rest.map fun v => v.category).sum ≤ 8) (hdg : decode cc pc = .ok (.invokevirtual index, 3)) (hf : cells + 0 ≤ R.cells ∧ slots + 0 ≤ R.slots)
    (hS : va_S A0 H0 H locs) (hP : va_P D cl ws H)
    (kk : ∀ (r : Int32) (H1 : Heap) (locs1 : List Loc), post r → va_P D cl ws H1 → va_S A0 H0 H1 locs1 → W p l e R s m args below meth c H1 locs1 cells slots Q (F0 m (pc + 3) ls (.int r :: rest))) : W p l e R s m args below meth c H locs cells slots Q (F0 m pc ls st0) :=
  k_ro (va_runV (As := As) (rest := rest) S hM (cwV n S.2.2.2.2 (lb_V w1 w2 w3 w4 w5) rfl rfl rfl hd hR) ⟨fun a U g mk q => ⟨q.1, q.2.1, va_K.moved (u := U) (U := U.calling g mk a) (Vm.Alike.refl U.vm) q.2.2⟩, va_recv hKc hPc hc he, fun U hU hW => ⟨rfl, by rw [hU]; exact hPc, va_K.moved hW.alike hKc⟩⟩ rfl hn hls hst (lv_room hW) hdg hf) hS hP kk
end KC
set_option maxRecDepth 20000 in
theorem uB0 : ∀ w ∈ wsX00, w ∈ lw_B := lb_ps [239, 241, 243, 245, 247, 249, 251, 253, 255, 257, 259, 261, 263, 265, 267, 269] (by decide +kernel) (by decide +kernel)
set_option maxRecDepth 20000 in
theorem uB1 : ∀ w ∈ wsX10, w ∈ lw_B := lb_ps [43, 45, 47, 49, 51, 53, 55, 57, 59] (by decide +kernel) (by decide +kernel)
set_option maxRecDepth 20000 in
theorem uB2 : ∀ w ∈ wsX20, w ∈ lw_B := lb_ps [140, 142, 144, 146] (by decide +kernel) (by decide +kernel)
set_option maxRecDepth 20000 in
theorem uB3 : ∀ w ∈ wsX30, w ∈ lw_B := lb_ps [520, 522, 524, 526, 528, 530, 532, 534, 536, 538, 540, 542] (by decide +kernel) (by decide +kernel)
set_option maxRecDepth 20000 in
theorem uB4 : ∀ w ∈ wsX40, w ∈ lw_B := lb_ps [196, 198, 200, 202, 204, 206, 208, 210] (by decide +kernel) (by decide +kernel)
set_option maxRecDepth 20000 in
theorem uB5 : ∀ w ∈ wsX50, w ∈ lw_B := lb_ps [81, 83, 85, 87, 89, 91, 93, 95, 97, 99, 101, 103, 105, 107, 109, 111, 113] (by decide +kernel) (by decide +kernel)
set_option maxRecDepth 20000 in
theorem uB6 : ∀ w ∈ wsX60, w ∈ lw_B := lb_ps [680, 682, 684, 686, 688, 690, 692, 694, 696, 698, 700, 702, 704, 706, 708, 710, 712, 714, 716, 718, 720, 722, 724, 726, 728, 730, 732, 734, 736, 738, 740, 742, 744, 746, 748, 750, 752, 754, 756, 758, 760, 762, 764, 766, 768, 770, 772, 774, 776, 778, 780] (by decide +kernel) (by decide +kernel)
end
section
theorem wm_0 : Cond.methodLink RX5 65 yX5_isWithin ∈ lw_B := lb_1 123 (by decide +kernel) rfl
theorem wm_1 : Cond.static yX5_isWithin ∈ lw_B := lb_1 124 (by decide +kernel) rfl
theorem wm_2 : Cond.initialized RX5 ∈ lw_B := lb_1 1 (by decide +kernel) rfl
theorem wm_3 : Cond.code yX5_isWithin cX5_isWithin 3 (some .boolean) ∈ lw_B := lb_1 125 (by decide +kernel) rfl
theorem wm_4 : Cond.methodLink RX6 136 yX6_in ∈ lw_B := lb_4 68 (by decide +kernel) rfl
theorem wm_5 : Cond.static yX6_in ∈ lw_B := lb_4 69 (by decide +kernel) rfl
theorem wm_6 : Cond.initialized RX6 ∈ lw_B := lb_1 3 (by decide +kernel) rfl
theorem wm_7 : Cond.code yX6_in cX6_in 3 (some .boolean) ∈ lw_B := lb_4 70 (by decide +kernel) rfl
theorem wm_8 : Cond.fieldLink RX5 55 "NoticeMarket" "pageCount" "I" ∈ lw_B := lb_1 71 (by decide +kernel) rfl
theorem wm_9 : Cond.fieldLink RX5 79 "NoticeMarket" "campaignCount" "I" ∈ lw_B := lb_1 72 (by decide +kernel) rfl
theorem wm_10 : Cond.fieldLink RX5 138 "NoticeMarket" "saleCount" "I" ∈ lw_B := lb_1 73 (by decide +kernel) rfl
theorem wm_11 : Cond.fieldLink RX6 133 "NoticeMarketModel" "pages" "I" ∈ lw_B := lb_3 154 (by decide +kernel) rfl
theorem wm_12 : Cond.fieldLink RX6 140 "NoticeMarketModel" "campaigns" "I" ∈ lw_B := lb_3 158 (by decide +kernel) rfl
theorem wm_13 : Cond.fieldLink RX6 161 "NoticeMarketModel" "sales" "I" ∈ lw_B := lb_3 174 (by decide +kernel) rfl
theorem wm_14 : Cond.methodLink RX5 85 yX5_isCampaign ∈ lw_B := lb_2 36 (by decide +kernel) rfl
theorem wm_15 : Cond.instanceMethod yX5_isCampaign ∈ lw_B := lb_2 38 (by decide +kernel) rfl
theorem wm_16 : Cond.selects RX5 yX5_isCampaign yX5_isCampaign ∈ lw_B := lb_0 0 (by decide +kernel) rfl
theorem wm_17 : Cond.code yX5_isCampaign cX5_isCampaign 2 (some .boolean) ∈ lw_B := lb_2 39 (by decide +kernel) rfl
theorem wm_18 : Cond.methodLink RX6 148 yX6_isCampaign ∈ lw_B := lb_4 87 (by decide +kernel) rfl
theorem wm_19 : Cond.instanceMethod yX6_isCampaign ∈ lw_B := lb_4 89 (by decide +kernel) rfl
theorem wm_20 : Cond.selects RX6 yX6_isCampaign yX6_isCampaign ∈ lw_B := lb_0 29 (by decide +kernel) rfl
theorem wm_21 : Cond.code yX6_isCampaign cX6_isCampaign 2 (some .boolean) ∈ lw_B := lb_4 90 (by decide +kernel) rfl
theorem wm_22 : Cond.methodLink RX5 61 yX5_isReader ∈ lw_B := lb_1 153 (by decide +kernel) rfl
theorem wm_23 : Cond.static yX5_isReader ∈ lw_B := lb_1 154 (by decide +kernel) rfl
theorem wm_24 : Cond.code yX5_isReader cX5_isReader 1 (some .boolean) ∈ lw_B := lb_1 155 (by decide +kernel) rfl
theorem wm_25 : Cond.methodLink RX5 135 yX5_isPage ∈ lw_B := lb_2 129 (by decide +kernel) rfl
theorem wm_26 : Cond.instanceMethod yX5_isPage ∈ lw_B := lb_2 131 (by decide +kernel) rfl
theorem wm_27 : Cond.selects RX5 yX5_isPage yX5_isPage ∈ lw_B := lb_0 8 (by decide +kernel) rfl
theorem wm_28 : Cond.code yX5_isPage cX5_isPage 2 (some .boolean) ∈ lw_B := lb_2 132 (by decide +kernel) rfl
theorem wm_29 : Cond.methodLink RX6 143 yX6_isReader ∈ lw_B := lb_4 75 (by decide +kernel) rfl
theorem wm_30 : Cond.static yX6_isReader ∈ lw_B := lb_4 76 (by decide +kernel) rfl
theorem wm_31 : Cond.code yX6_isReader cX6_isReader 1 (some .boolean) ∈ lw_B := lb_4 77 (by decide +kernel) rfl
theorem wm_32 : Cond.methodLink RX6 243 yX6_isPage ∈ lw_B := lb_4 137 (by decide +kernel) rfl
theorem wm_33 : Cond.instanceMethod yX6_isPage ∈ lw_B := lb_4 139 (by decide +kernel) rfl
theorem wm_34 : Cond.selects RX6 yX6_isPage yX6_isPage ∈ lw_B := lb_0 33 (by decide +kernel) rfl
theorem wm_35 : Cond.code yX6_isPage cX6_isPage 2 (some .boolean) ∈ lw_B := lb_4 140 (by decide +kernel) rfl
theorem wm_36 : Cond.constantLong RX5 159 (-1) ∈ lw_B := lb_3 89 (by decide +kernel) rfl
theorem wm_37 : Cond.constantLong RX6 263 (-1) ∈ lw_B := lb_4 218 (by decide +kernel) rfl
theorem wm_38 : Cond.methodLink RX5 164 yX5_isSale ∈ lw_B := lb_3 98 (by decide +kernel) rfl
theorem wm_39 : Cond.instanceMethod yX5_isSale ∈ lw_B := lb_3 100 (by decide +kernel) rfl
theorem wm_40 : Cond.selects RX5 yX5_isSale yX5_isSale ∈ lw_B := lb_0 25 (by decide +kernel) rfl
theorem wm_41 : Cond.code yX5_isSale cX5_isSale 2 (some .boolean) ∈ lw_B := lb_3 101 (by decide +kernel) rfl
theorem wm_42 : Cond.methodLink RX6 265 yX6_isSale ∈ lw_B := lb_4 227 (by decide +kernel) rfl
theorem wm_43 : Cond.instanceMethod yX6_isSale ∈ lw_B := lb_4 229 (by decide +kernel) rfl
theorem wm_44 : Cond.selects RX6 yX6_isSale yX6_isSale ∈ lw_B := lb_0 50 (by decide +kernel) rfl
theorem wm_45 : Cond.code yX6_isSale cX6_isSale 2 (some .boolean) ∈ lw_B := lb_4 230 (by decide +kernel) rfl
theorem wm_46 : Cond.constant RX5 229 (-2000000) ∈ lw_B := lb_3 126 (by decide +kernel) rfl
theorem wm_47 : Cond.constant RX6 268 (-2000000) ∈ lw_B := lb_5 3 (by decide +kernel) rfl
theorem wm_48 : Cond.fieldLink RX5 123 "NoticeMarket" "priceRule" "I" ∈ lw_B := lb_1 77 (by decide +kernel) rfl
theorem wm_49 : Cond.fieldLink RX6 155 "NoticeMarketModel" "rule" "I" ∈ lw_B := lb_3 151 (by decide +kernel) rfl
theorem wm_50 : Cond.fieldLink RX5 126 "NoticeMarket" "paceTicks" "I" ∈ lw_B := lb_1 78 (by decide +kernel) rfl
theorem wm_51 : Cond.fieldLink RX5 44 "NoticeMarket" "pressWait" "I" ∈ lw_B := lb_1 79 (by decide +kernel) rfl
theorem wm_52 : Cond.fieldLink RX6 158 "NoticeMarketModel" "pace" "I" ∈ lw_B := lb_3 152 (by decide +kernel) rfl
theorem wm_53 : Cond.fieldLink RX6 7 "NoticeMarketModel" "wait" "I" ∈ lw_B := lb_3 153 (by decide +kernel) rfl
theorem wm_54 : Cond.fieldLink RX5 108 "NoticeMarket" "now" "I" ∈ lw_B := lb_1 76 (by decide +kernel) rfl
theorem wm_55 : Cond.fieldLink RX5 226 "NoticeMarket" "backCount" "I" ∈ lw_B := lb_1 74 (by decide +kernel) rfl
theorem wm_56 : Cond.fieldLink RX5 273 "NoticeMarket" "spentInAll" "I" ∈ lw_B := lb_1 75 (by decide +kernel) rfl
theorem wm_57 : Cond.fieldLink RX6 152 "NoticeMarketModel" "tick" "I" ∈ lw_B := lb_3 150 (by decide +kernel) rfl
theorem wm_58 : Cond.fieldLink RX5 48 "NoticeMarket" "noneFreeBy" "I" ∈ lw_B := lb_1 80 (by decide +kernel) rfl
theorem wm_59 : Cond.methodLink RX5 283 yX5_closeDay ∈ lw_B := lb_2 95 (by decide +kernel) rfl
theorem wm_60 : Cond.instanceMethod yX5_closeDay ∈ lw_B := lb_2 97 (by decide +kernel) rfl
theorem wm_61 : Cond.selects RX5 yX5_closeDay yX5_closeDay ∈ lw_B := lb_0 3 (by decide +kernel) rfl
theorem wm_62 : Cond.code yX5_closeDay cX5_closeDay 2 none ∈ lw_B := lb_2 98 (by decide +kernel) rfl
theorem wm_63 : Cond.methodLink RX5 129 yX5_closeTick ∈ lw_B := lb_2 83 (by decide +kernel) rfl
theorem wm_64 : Cond.instanceMethod yX5_closeTick ∈ lw_B := lb_2 85 (by decide +kernel) rfl
theorem wm_65 : Cond.selects RX5 yX5_closeTick yX5_closeTick ∈ lw_B := lb_0 1 (by decide +kernel) rfl
theorem wm_66 : Cond.code yX5_closeTick cX5_closeTick 2 none ∈ lw_B := lb_2 86 (by decide +kernel) rfl
theorem wm_67 : Cond.methodLink RX5 132 yX5_goOneTick ∈ lw_B := lb_2 91 (by decide +kernel) rfl
theorem wm_68 : Cond.instanceMethod yX5_goOneTick ∈ lw_B := lb_2 93 (by decide +kernel) rfl
theorem wm_69 : Cond.selects RX5 yX5_goOneTick yX5_goOneTick ∈ lw_B := lb_0 2 (by decide +kernel) rfl
theorem wm_70 : Cond.code yX5_goOneTick cX5_goOneTick 1 none ∈ lw_B := lb_2 94 (by decide +kernel) rfl
theorem wm_71 : Cond.methodLink RX6 238 yX6_goesBy ∈ lw_B := lb_4 120 (by decide +kernel) rfl
theorem wm_72 : Cond.instanceMethod yX6_goesBy ∈ lw_B := lb_4 122 (by decide +kernel) rfl
theorem wm_73 : Cond.selects RX6 yX6_goesBy yX6_goesBy ∈ lw_B := lb_0 30 (by decide +kernel) rfl
theorem wm_74 : Cond.code yX6_goesBy cX6_goesBy 6 none ∈ lw_B := lb_4 123 (by decide +kernel) rfl
theorem wm_75 : Cond.fieldLink RX5 27 "NoticeMarket" "readerMarks" "[I" ∈ lw_B := lb_1 67 (by decide +kernel) rfl
theorem wm_76 : Cond.fieldLink RX6 20 "NoticeMarketModel" "marks" "[I" ∈ lw_B := lb_3 157 (by decide +kernel) rfl
theorem wm_77 : Cond.methodLink RX2 3 objectInit ∈ lw_B := lb_1 130 (by decide +kernel) rfl
theorem wm_78 : Cond.instanceMethod objectInit ∈ lw_B := lb_1 15 (by decide +kernel) rfl
theorem wm_79 : Cond.code objectInit ⟨#[0xb1]⟩ 1 none ∈ lw_B := lb_1 16 (by decide +kernel) rfl
theorem wm_80 : Cond.arrayClass .int ∈ lw_B := lb_1 62 (by decide +kernel) rfl
theorem wm_81 : Cond.fieldLink RX2 9 "NoticeMarket$Page" "sizes" "[I" ∈ lw_B := lb_1 134 (by decide +kernel) rfl
theorem wm_82 : Cond.fieldLink RX2 15 "NoticeMarket$Page" "places" "I" ∈ lw_B := lb_1 136 (by decide +kernel) rfl
theorem wm_83 : Cond.methodLink RX2 19 Lib.Math.min.name ∈ lw_B := lb_1 131 (by decide +kernel) rfl
theorem wm_84 : Cond.static Lib.Math.min.name ∈ lw_B := lb_1 132 (by decide +kernel) rfl
theorem wm_85 : Cond.initialized RJ9 ∈ lw_B := lb_1 5 (by decide +kernel) rfl
theorem wm_86 : Cond.code Lib.Math.min.name Lib.Math.min.code 2 (some .int) ∈ lw_B := lb_1 133 (by decide +kernel) rfl
theorem wm_87 : Cond.methodLink RX5 51 yX5_placesIn ∈ lw_B := lb_1 120 (by decide +kernel) rfl
theorem wm_88 : Cond.static yX5_placesIn ∈ lw_B := lb_1 121 (by decide +kernel) rfl
theorem wm_89 : Cond.code yX5_placesIn cX5_placesIn 3 (some .int) ∈ lw_B := lb_1 122 (by decide +kernel) rfl
theorem wm_90 : Cond.fieldLink RX5 11 "NoticeMarket" "pages" "[LNoticeMarket$Page;" ∈ lw_B := lb_1 64 (by decide +kernel) rfl
theorem wm_91 : Cond.classLink RX5 9 RX2 ∈ lw_B := lb_1 17 (by decide +kernel) rfl
theorem wm_92 : Cond.instantiable RX2 4 ∈ lw_B := lb_1 126 (by decide +kernel) rfl
theorem wm_93 : Cond.initialized RX2 ∈ lw_B := lb_1 4 (by decide +kernel) rfl
theorem wm_94 : Cond.methodLink RX5 58 yX2_init ∈ lw_B := lb_1 127 (by decide +kernel) rfl
theorem wm_95 : Cond.instanceMethod yX2_init ∈ lw_B := lb_1 128 (by decide +kernel) rfl
theorem wm_96 : Cond.code yX2_init cX2_init 5 none ∈ lw_B := lb_1 129 (by decide +kernel) rfl
theorem wm_97 : Cond.methodLink RX4 3 objectInit ∈ lw_B := lb_1 179 (by decide +kernel) rfl
theorem wm_98 : Cond.methodLink RX0 3 objectInit ∈ lw_B := lb_1 173 (by decide +kernel) rfl
theorem wm_99 : Cond.classLink RX0 9 RX4 ∈ lw_B := lb_1 174 (by decide +kernel) rfl
theorem wm_100 : Cond.instantiable RX4 8 ∈ lw_B := lb_1 175 (by decide +kernel) rfl
theorem wm_101 : Cond.initialized RX4 ∈ lw_B := lb_1 7 (by decide +kernel) rfl
theorem wm_102 : Cond.instanceMethod yX4_init ∈ lw_B := lb_1 177 (by decide +kernel) rfl
theorem wm_103 : Cond.code yX4_init cX4_init 1 none ∈ lw_B := lb_1 178 (by decide +kernel) rfl
theorem wm_104 : Cond.fieldLink RX0 12 "NoticeMarket$Campaign" "tally" "LNoticeMarket$Tally;" ∈ lw_B := lb_1 221 (by decide +kernel) rfl
theorem wm_105 : Cond.fieldLink RX0 18 "NoticeMarket$Campaign" "mostShowings" "I" ∈ lw_B := lb_1 227 (by decide +kernel) rfl
theorem wm_106 : Cond.fieldLink RX0 22 "NoticeMarket$Campaign" "capSpan" "I" ∈ lw_B := lb_1 229 (by decide +kernel) rfl
theorem wm_107 : Cond.fieldLink RX0 25 "NoticeMarket$Campaign" "throttle" "I" ∈ lw_B := lb_1 231 (by decide +kernel) rfl
theorem wm_108 : Cond.fieldLink RX0 28 "NoticeMarket$Campaign" "sort" "I" ∈ lw_B := lb_1 213 (by decide +kernel) rfl
theorem wm_109 : Cond.fieldLink RX0 31 "NoticeMarket$Campaign" "paysByPress" "Z" ∈ lw_B := lb_1 215 (by decide +kernel) rfl
theorem wm_110 : Cond.fieldLink RX0 35 "NoticeMarket$Campaign" "mustHave" "I" ∈ lw_B := lb_1 217 (by decide +kernel) rfl
theorem wm_111 : Cond.fieldLink RX0 38 "NoticeMarket$Campaign" "mustLack" "I" ∈ lw_B := lb_1 218 (by decide +kernel) rfl
theorem wm_112 : Cond.fieldLink RX0 41 "NoticeMarket$Campaign" "bid" "I" ∈ lw_B := lb_1 219 (by decide +kernel) rfl
theorem wm_113 : Cond.methodLink RX5 69 yX5_isSort ∈ lw_B := lb_1 160 (by decide +kernel) rfl
theorem wm_114 : Cond.static yX5_isSort ∈ lw_B := lb_1 161 (by decide +kernel) rfl
theorem wm_115 : Cond.code yX5_isSort cX5_isSort 1 (some .boolean) ∈ lw_B := lb_1 162 (by decide +kernel) rfl
theorem wm_116 : Cond.methodLink RX5 72 yX5_isWish ∈ lw_B := lb_1 163 (by decide +kernel) rfl
theorem wm_117 : Cond.static yX5_isWish ∈ lw_B := lb_1 164 (by decide +kernel) rfl
theorem wm_118 : Cond.code yX5_isWish cX5_isWish 1 (some .boolean) ∈ lw_B := lb_1 165 (by decide +kernel) rfl
theorem wm_119 : Cond.methodLink RX5 75 yX5_isBid ∈ lw_B := lb_1 166 (by decide +kernel) rfl
theorem wm_120 : Cond.static yX5_isBid ∈ lw_B := lb_1 167 (by decide +kernel) rfl
theorem wm_121 : Cond.code yX5_isBid cX5_isBid 2 (some .boolean) ∈ lw_B := lb_1 168 (by decide +kernel) rfl
theorem wm_122 : Cond.fieldLink RX5 17 "NoticeMarket" "campaigns" "[LNoticeMarket$Campaign;" ∈ lw_B := lb_1 65 (by decide +kernel) rfl
theorem wm_123 : Cond.classLink RX5 15 RX0 ∈ lw_B := lb_1 19 (by decide +kernel) rfl
theorem wm_124 : Cond.instantiable RX0 16 ∈ lw_B := lb_1 169 (by decide +kernel) rfl
theorem wm_125 : Cond.initialized RX0 ∈ lw_B := lb_1 6 (by decide +kernel) rfl
theorem wm_126 : Cond.methodLink RX5 82 yX0_init ∈ lw_B := lb_1 170 (by decide +kernel) rfl
theorem wm_127 : Cond.instanceMethod yX0_init ∈ lw_B := lb_1 171 (by decide +kernel) rfl
theorem wm_128 : Cond.code yX0_init cX0_init 4 none ∈ lw_B := lb_1 172 (by decide +kernel) rfl
theorem wm_129 : Cond.constant RX6 147 (16777215) ∈ lw_B := lb_4 82 (by decide +kernel) rfl
theorem wm_130 : Cond.fieldLink RX6 23 "NoticeMarketModel" "sort" "[I" ∈ lw_B := lb_3 159 (by decide +kernel) rfl
theorem wm_131 : Cond.fieldLink RX6 26 "NoticeMarketModel" "pays" "[I" ∈ lw_B := lb_3 160 (by decide +kernel) rfl
theorem wm_132 : Cond.fieldLink RX6 29 "NoticeMarketModel" "must" "[I" ∈ lw_B := lb_3 161 (by decide +kernel) rfl
theorem wm_133 : Cond.fieldLink RX6 32 "NoticeMarketModel" "never" "[I" ∈ lw_B := lb_3 162 (by decide +kernel) rfl
theorem wm_134 : Cond.fieldLink RX6 35 "NoticeMarketModel" "bid" "[I" ∈ lw_B := lb_3 163 (by decide +kernel) rfl
theorem wm_135 : Cond.fieldLink RX6 44 "NoticeMarketModel" "cap" "[I" ∈ lw_B := lb_3 166 (by decide +kernel) rfl
theorem wm_136 : Cond.fieldLink RX6 47 "NoticeMarketModel" "span" "[I" ∈ lw_B := lb_3 167 (by decide +kernel) rfl
theorem wm_137 : Cond.fieldLink RX6 50 "NoticeMarketModel" "throttle" "[I" ∈ lw_B := lb_3 168 (by decide +kernel) rfl
theorem wm_138 : Cond.fieldLink RX6 60 "NoticeMarketModel" "promised" "[I" ∈ lw_B := lb_3 171 (by decide +kernel) rfl
theorem wm_139 : Cond.fieldLink RX6 13 "NoticeMarketModel" "places" "[I" ∈ lw_B := lb_3 155 (by decide +kernel) rfl
theorem wm_140 : Cond.fieldLink RX6 17 "NoticeMarketModel" "sizes" "[I" ∈ lw_B := lb_3 156 (by decide +kernel) rfl
theorem wm_141 : Cond.methodLink RX1 5 objectInit ∈ lw_B := lb_1 28 (by decide +kernel) rfl
theorem wm_142 : Cond.fieldLink RX1 11 "NoticeMarket$Giver" "chosen" "[I" ∈ lw_B := lb_1 33 (by decide +kernel) rfl
theorem wm_143 : Cond.fieldLink RX1 15 "NoticeMarket$Giver" "trial" "[I" ∈ lw_B := lb_1 35 (by decide +kernel) rfl
theorem wm_144 : Cond.classLink RX1 18 "[[J" ∈ lw_B := lb_1 29 (by decide +kernel) rfl
theorem wm_145 : Cond.arrayClass .long ∈ lw_B := lb_1 63 (by decide +kernel) rfl
theorem wm_146 : Cond.fieldLink RX1 20 "NoticeMarket$Giver" "weights" "[[J" ∈ lw_B := lb_1 36 (by decide +kernel) rfl
theorem wm_147 : Cond.classLink RX1 23 "[[I" ∈ lw_B := lb_1 31 (by decide +kernel) rfl
theorem wm_148 : Cond.fieldLink RX1 25 "NoticeMarket$Giver" "order" "[[I" ∈ lw_B := lb_1 37 (by decide +kernel) rfl
theorem wm_149 : Cond.fieldLink RX1 28 "NoticeMarket$Giver" "apartFrom" "[J" ∈ lw_B := lb_1 38 (by decide +kernel) rfl
theorem wm_150 : Cond.methodLink RX5 1 objectInit ∈ lw_B := lb_1 14 (by decide +kernel) rfl
theorem wm_151 : Cond.classLink RX5 21 RX3 ∈ lw_B := lb_1 21 (by decide +kernel) rfl
theorem wm_152 : Cond.fieldLink RX5 23 "NoticeMarket" "sales" "[LNoticeMarket$Sale;" ∈ lw_B := lb_1 66 (by decide +kernel) rfl
theorem wm_153 : Cond.classLink RX5 31 RX1 ∈ lw_B := lb_1 23 (by decide +kernel) rfl
theorem wm_154 : Cond.instantiable RX1 9 ∈ lw_B := lb_1 24 (by decide +kernel) rfl
theorem wm_155 : Cond.initialized RX1 ∈ lw_B := lb_1 2 (by decide +kernel) rfl
theorem wm_156 : Cond.instanceMethod yX1_init ∈ lw_B := lb_1 26 (by decide +kernel) rfl
theorem wm_157 : Cond.code yX1_init cX1_init 1 none ∈ lw_B := lb_1 27 (by decide +kernel) rfl
theorem wm_158 : Cond.fieldLink RX5 34 "NoticeMarket" "giver" "LNoticeMarket$Giver;" ∈ lw_B := lb_1 68 (by decide +kernel) rfl
theorem wm_159 : Cond.fieldLink RX5 38 "NoticeMarket" "given" "[I" ∈ lw_B := lb_1 69 (by decide +kernel) rfl
theorem wm_160 : Cond.fieldLink RX5 41 "NoticeMarket" "prices" "[I" ∈ lw_B := lb_1 70 (by decide +kernel) rfl
theorem wm_161 : Cond.methodLink RX6 1 objectInit ∈ lw_B := lb_3 149 (by decide +kernel) rfl
theorem wm_162 : Cond.fieldLink RX6 38 "NoticeMarketModel" "dayBudget" "[I" ∈ lw_B := lb_3 164 (by decide +kernel) rfl
theorem wm_163 : Cond.fieldLink RX6 41 "NoticeMarketModel" "allBudget" "[I" ∈ lw_B := lb_3 165 (by decide +kernel) rfl
theorem wm_164 : Cond.arrayClass .boolean ∈ lw_B := lb_4 63 (by decide +kernel) rfl
theorem wm_165 : Cond.fieldLink RX6 53 "NoticeMarketModel" "stopped" "[Z" ∈ lw_B := lb_3 169 (by decide +kernel) rfl
theorem wm_166 : Cond.fieldLink RX6 57 "NoticeMarketModel" "apart" "[Z" ∈ lw_B := lb_3 170 (by decide +kernel) rfl
theorem wm_167 : Cond.fieldLink RX6 63 "NoticeMarketModel" "promiseDay" "[I" ∈ lw_B := lb_3 172 (by decide +kernel) rfl
theorem wm_168 : Cond.fieldLink RX6 66 "NoticeMarketModel" "promiseFrom" "[I" ∈ lw_B := lb_3 173 (by decide +kernel) rfl
theorem wm_169 : Cond.fieldLink RX6 69 "NoticeMarketModel" "saleTick" "[I" ∈ lw_B := lb_3 175 (by decide +kernel) rfl
theorem wm_170 : Cond.fieldLink RX6 72 "NoticeMarketModel" "saleReader" "[I" ∈ lw_B := lb_3 176 (by decide +kernel) rfl
theorem wm_171 : Cond.fieldLink RX6 75 "NoticeMarketModel" "salePage" "[I" ∈ lw_B := lb_3 177 (by decide +kernel) rfl
theorem wm_172 : Cond.fieldLink RX6 78 "NoticeMarketModel" "salePlace" "[I" ∈ lw_B := lb_3 178 (by decide +kernel) rfl
theorem wm_173 : Cond.fieldLink RX6 81 "NoticeMarketModel" "saleOf" "[I" ∈ lw_B := lb_3 179 (by decide +kernel) rfl
theorem wm_174 : Cond.fieldLink RX6 84 "NoticeMarketModel" "price" "[I" ∈ lw_B := lb_3 180 (by decide +kernel) rfl
theorem wm_175 : Cond.fieldLink RX6 87 "NoticeMarketModel" "state" "[I" ∈ lw_B := lb_3 181 (by decide +kernel) rfl
theorem wm_176 : Cond.fieldLink RX6 90 "NoticeMarketModel" "saleWait" "[I" ∈ lw_B := lb_3 182 (by decide +kernel) rfl
theorem wm_177 : Cond.fieldLink RX6 93 "NoticeMarketModel" "pressTick" "[I" ∈ lw_B := lb_3 183 (by decide +kernel) rfl
theorem wm_178 : Cond.fieldLink RX6 96 "NoticeMarketModel" "mayBe" "[I" ∈ lw_B := lb_3 185 (by decide +kernel) rfl
theorem wm_179 : Cond.fieldLink RX6 99 "NoticeMarketModel" "worth" "[J" ∈ lw_B := lb_3 186 (by decide +kernel) rfl
theorem wm_180 : Cond.fieldLink RX6 103 "NoticeMarketModel" "mostAt" "[J" ∈ lw_B := lb_3 187 (by decide +kernel) rfl
theorem wm_181 : Cond.fieldLink RX6 106 "NoticeMarketModel" "at" "[I" ∈ lw_B := lb_3 189 (by decide +kernel) rfl
theorem wm_182 : Cond.fieldLink RX6 109 "NoticeMarketModel" "upTo" "[J" ∈ lw_B := lb_3 190 (by decide +kernel) rfl
theorem wm_183 : Cond.fieldLink RX6 112 "NoticeMarketModel" "filledTo" "[I" ∈ lw_B := lb_3 191 (by decide +kernel) rfl
theorem wm_184 : Cond.fieldLink RX6 115 "NoticeMarketModel" "given" "[I" ∈ lw_B := lb_3 195 (by decide +kernel) rfl
theorem wm_185 : Cond.fieldLink RX6 118 "NoticeMarketModel" "order" "[I" ∈ lw_B := lb_3 196 (by decide +kernel) rfl
theorem wm_186 : Cond.fieldLink RX6 121 "NoticeMarketModel" "next" "[I" ∈ lw_B := lb_3 197 (by decide +kernel) rfl
theorem wm_187 : Cond.fieldLink RX6 124 "NoticeMarketModel" "toSell" "[I" ∈ lw_B := lb_3 198 (by decide +kernel) rfl
theorem wm_188 : Cond.fieldLink RX6 127 "NoticeMarketModel" "toPay" "[I" ∈ lw_B := lb_3 199 (by decide +kernel) rfl
theorem dX5_isWithin_0 : decode cX5_isWithin 0 = .ok (.iload_n 0, 1) := by decide +kernel
theorem dX5_isWithin_1 : decode cX5_isWithin 1 = .ok (.iload_n 1, 1) := by decide +kernel
theorem dX5_isWithin_2 : decode cX5_isWithin 2 = .ok (.if_icmp .lt 12, 3) := by decide +kernel
theorem dX5_isWithin_5 : decode cX5_isWithin 5 = .ok (.iload_n 0, 1) := by decide +kernel
theorem dX5_isWithin_6 : decode cX5_isWithin 6 = .ok (.iload_n 2, 1) := by decide +kernel
theorem dX5_isWithin_7 : decode cX5_isWithin 7 = .ok (.if_icmp .gt 7, 3) := by decide +kernel
theorem dX5_isWithin_10 : decode cX5_isWithin 10 = .ok (.iconst 1, 1) := by decide +kernel
theorem dX5_isWithin_11 : decode cX5_isWithin 11 = .ok (.goto 4, 3) := by decide +kernel
theorem dX5_isWithin_14 : decode cX5_isWithin 14 = .ok (.iconst 0, 1) := by decide +kernel
theorem dX5_isWithin_15 : decode cX5_isWithin 15 = .ok (.ireturn, 1) := by decide +kernel
theorem dX6_in_0 : decode cX6_in 0 = .ok (.iload_n 0, 1) := by decide +kernel
theorem dX6_in_1 : decode cX6_in 1 = .ok (.iload_n 1, 1) := by decide +kernel
theorem dX6_in_2 : decode cX6_in 2 = .ok (.if_icmp .lt 12, 3) := by decide +kernel
theorem dX6_in_5 : decode cX6_in 5 = .ok (.iload_n 0, 1) := by decide +kernel
theorem dX6_in_6 : decode cX6_in 6 = .ok (.iload_n 2, 1) := by decide +kernel
theorem dX6_in_7 : decode cX6_in 7 = .ok (.if_icmp .gt 7, 3) := by decide +kernel
theorem dX6_in_10 : decode cX6_in 10 = .ok (.iconst 1, 1) := by decide +kernel
theorem dX6_in_11 : decode cX6_in 11 = .ok (.goto 4, 3) := by decide +kernel
theorem dX6_in_14 : decode cX6_in 14 = .ok (.iconst 0, 1) := by decide +kernel
theorem dX6_in_15 : decode cX6_in 15 = .ok (.ireturn, 1) := by decide +kernel
theorem dX5_isReader_0 : decode cX5_isReader 0 = .ok (.iload_n 0, 1) := by decide +kernel
theorem dX5_isReader_1 : decode cX5_isReader 1 = .ok (.ifCond .lt 13, 3) := by decide +kernel
theorem dX5_isReader_4 : decode cX5_isReader 4 = .ok (.iload_n 0, 1) := by decide +kernel
theorem dX5_isReader_5 : decode cX5_isReader 5 = .ok (.bipush 100, 2) := by decide +kernel
theorem dX5_isReader_7 : decode cX5_isReader 7 = .ok (.if_icmp .ge 7, 3) := by decide +kernel
theorem dX5_isReader_10 : decode cX5_isReader 10 = .ok (.iconst 1, 1) := by decide +kernel
theorem dX5_isReader_11 : decode cX5_isReader 11 = .ok (.goto 4, 3) := by decide +kernel
theorem dX5_isReader_14 : decode cX5_isReader 14 = .ok (.iconst 0, 1) := by decide +kernel
theorem dX5_isReader_15 : decode cX5_isReader 15 = .ok (.ireturn, 1) := by decide +kernel
theorem dX5_isSort_0 : decode cX5_isSort 0 = .ok (.iload_n 0, 1) := by decide +kernel
theorem dX5_isSort_1 : decode cX5_isSort 1 = .ok (.ifCond .eq 20, 3) := by decide +kernel
theorem dX5_isSort_4 : decode cX5_isSort 4 = .ok (.iload_n 0, 1) := by decide +kernel
theorem dX5_isSort_5 : decode cX5_isSort 5 = .ok (.iconst 1, 1) := by decide +kernel
theorem dX5_isSort_6 : decode cX5_isSort 6 = .ok (.if_icmp .eq 15, 3) := by decide +kernel
theorem dX5_isSort_9 : decode cX5_isSort 9 = .ok (.iload_n 0, 1) := by decide +kernel
theorem dX5_isSort_10 : decode cX5_isSort 10 = .ok (.bipush 10, 2) := by decide +kernel
theorem dX5_isSort_12 : decode cX5_isSort 12 = .ok (.if_icmp .eq 9, 3) := by decide +kernel
theorem dX5_isSort_15 : decode cX5_isSort 15 = .ok (.iload_n 0, 1) := by decide +kernel
theorem dX5_isSort_16 : decode cX5_isSort 16 = .ok (.bipush 20, 2) := by decide +kernel
theorem dX5_isSort_18 : decode cX5_isSort 18 = .ok (.if_icmp .ne 7, 3) := by decide +kernel
theorem dX5_isSort_21 : decode cX5_isSort 21 = .ok (.iconst 1, 1) := by decide +kernel
theorem dX5_isSort_22 : decode cX5_isSort 22 = .ok (.goto 4, 3) := by decide +kernel
theorem dX5_isSort_25 : decode cX5_isSort 25 = .ok (.iconst 0, 1) := by decide +kernel
theorem dX5_isSort_26 : decode cX5_isSort 26 = .ok (.ireturn, 1) := by decide +kernel
theorem dX5_isWish_0 : decode cX5_isWish 0 = .ok (.iload_n 0, 1) := by decide +kernel
theorem dX5_isWish_1 : decode cX5_isWish 1 = .ok (.ifCond .lt 14, 3) := by decide +kernel
theorem dX5_isWish_4 : decode cX5_isWish 4 = .ok (.iload_n 0, 1) := by decide +kernel
theorem dX5_isWish_5 : decode cX5_isWish 5 = .ok (.sipush 4096, 3) := by decide +kernel
theorem dX5_isWish_8 : decode cX5_isWish 8 = .ok (.idiv, 1) := by decide +kernel
theorem dX5_isWish_9 : decode cX5_isWish 9 = .ok (.sipush 4095, 3) := by decide +kernel
theorem dX5_isWish_12 : decode cX5_isWish 12 = .ok (.if_icmp .le 5, 3) := by decide +kernel
theorem dX5_isWish_15 : decode cX5_isWish 15 = .ok (.iconst 0, 1) := by decide +kernel
theorem dX5_isWish_16 : decode cX5_isWish 16 = .ok (.ireturn, 1) := by decide +kernel
theorem dX5_isWish_17 : decode cX5_isWish 17 = .ok (.iload_n 0, 1) := by decide +kernel
theorem dX5_isWish_18 : decode cX5_isWish 18 = .ok (.sipush 4096, 3) := by decide +kernel
theorem dX5_isWish_21 : decode cX5_isWish 21 = .ok (.idiv, 1) := by decide +kernel
theorem dX5_isWish_22 : decode cX5_isWish 22 = .ok (.iload_n 0, 1) := by decide +kernel
theorem dX5_isWish_23 : decode cX5_isWish 23 = .ok (.sipush 4096, 3) := by decide +kernel
theorem dX5_isWish_26 : decode cX5_isWish 26 = .ok (.irem, 1) := by decide +kernel
theorem dX5_isWish_27 : decode cX5_isWish 27 = .ok (.iand, 1) := by decide +kernel
theorem dX5_isWish_28 : decode cX5_isWish 28 = .ok (.ifCond .ne 7, 3) := by decide +kernel
theorem dX5_isWish_31 : decode cX5_isWish 31 = .ok (.iconst 1, 1) := by decide +kernel
theorem dX5_isWish_32 : decode cX5_isWish 32 = .ok (.goto 4, 3) := by decide +kernel
theorem dX5_isWish_35 : decode cX5_isWish 35 = .ok (.iconst 0, 1) := by decide +kernel
theorem dX5_isWish_36 : decode cX5_isWish 36 = .ok (.ireturn, 1) := by decide +kernel
theorem dX5_isBid_0 : decode cX5_isBid 0 = .ok (.iload_n 0, 1) := by decide +kernel
theorem dX5_isBid_1 : decode cX5_isBid 1 = .ok (.iconst 2, 1) := by decide +kernel
theorem dX5_isBid_2 : decode cX5_isBid 2 = .ok (.if_icmp .ne 15, 3) := by decide +kernel
theorem dX5_isBid_5 : decode cX5_isBid 5 = .ok (.iload_n 1, 1) := by decide +kernel
theorem dX5_isBid_6 : decode cX5_isBid 6 = .ok (.ifCond .ne 7, 3) := by decide +kernel
theorem dX5_isBid_9 : decode cX5_isBid 9 = .ok (.iconst 1, 1) := by decide +kernel
theorem dX5_isBid_10 : decode cX5_isBid 10 = .ok (.goto 15, 3) := by decide +kernel
theorem dX5_isBid_13 : decode cX5_isBid 13 = .ok (.iconst 0, 1) := by decide +kernel
theorem dX5_isBid_14 : decode cX5_isBid 14 = .ok (.goto 11, 3) := by decide +kernel
theorem dX5_isBid_17 : decode cX5_isBid 17 = .ok (.iload_n 1, 1) := by decide +kernel
theorem dX5_isBid_18 : decode cX5_isBid 18 = .ok (.iconst 1, 1) := by decide +kernel
theorem dX5_isBid_19 : decode cX5_isBid 19 = .ok (.sipush 1000, 3) := by decide +kernel
theorem dX5_isBid_22 : decode cX5_isBid 22 = .ok (.invokestatic 65, 3) := by decide +kernel
theorem dX5_isBid_25 : decode cX5_isBid 25 = .ok (.ireturn, 1) := by decide +kernel
theorem dX6_isReader_0 : decode cX6_isReader 0 = .ok (.iload_n 0, 1) := by decide +kernel
theorem dX6_isReader_1 : decode cX6_isReader 1 = .ok (.iconst 0, 1) := by decide +kernel
theorem dX6_isReader_2 : decode cX6_isReader 2 = .ok (.bipush 99, 2) := by decide +kernel
theorem dX6_isReader_4 : decode cX6_isReader 4 = .ok (.invokestatic 136, 3) := by decide +kernel
theorem dX6_isReader_7 : decode cX6_isReader 7 = .ok (.ireturn, 1) := by decide +kernel
theorem dX5_isPage_0 : decode cX5_isPage 0 = .ok (.iload_n 1, 1) := by decide +kernel
theorem dX5_isPage_1 : decode cX5_isPage 1 = .ok (.ifCond .lt 15, 3) := by decide +kernel
theorem dX5_isPage_4 : decode cX5_isPage 4 = .ok (.iload_n 1, 1) := by decide +kernel
theorem dX5_isPage_5 : decode cX5_isPage 5 = .ok (.aload_n 0, 1) := by decide +kernel
theorem dX5_isPage_6 : decode cX5_isPage 6 = .ok (.getfield 55, 3) := by decide +kernel
theorem dX5_isPage_9 : decode cX5_isPage 9 = .ok (.if_icmp .ge 7, 3) := by decide +kernel
theorem dX5_isPage_12 : decode cX5_isPage 12 = .ok (.iconst 1, 1) := by decide +kernel
theorem dX5_isPage_13 : decode cX5_isPage 13 = .ok (.goto 4, 3) := by decide +kernel
theorem dX5_isPage_16 : decode cX5_isPage 16 = .ok (.iconst 0, 1) := by decide +kernel
theorem dX5_isPage_17 : decode cX5_isPage 17 = .ok (.ireturn, 1) := by decide +kernel
theorem dX5_isCampaign_0 : decode cX5_isCampaign 0 = .ok (.iload_n 1, 1) := by decide +kernel
theorem dX5_isCampaign_1 : decode cX5_isCampaign 1 = .ok (.ifCond .lt 15, 3) := by decide +kernel
theorem dX5_isCampaign_4 : decode cX5_isCampaign 4 = .ok (.iload_n 1, 1) := by decide +kernel
theorem dX5_isCampaign_5 : decode cX5_isCampaign 5 = .ok (.aload_n 0, 1) := by decide +kernel
theorem dX5_isCampaign_6 : decode cX5_isCampaign 6 = .ok (.getfield 79, 3) := by decide +kernel
theorem dX5_isCampaign_9 : decode cX5_isCampaign 9 = .ok (.if_icmp .ge 7, 3) := by decide +kernel
theorem dX5_isCampaign_12 : decode cX5_isCampaign 12 = .ok (.iconst 1, 1) := by decide +kernel
theorem dX5_isCampaign_13 : decode cX5_isCampaign 13 = .ok (.goto 4, 3) := by decide +kernel
theorem dX5_isCampaign_16 : decode cX5_isCampaign 16 = .ok (.iconst 0, 1) := by decide +kernel
theorem dX5_isCampaign_17 : decode cX5_isCampaign 17 = .ok (.ireturn, 1) := by decide +kernel
theorem dX5_isSale_0 : decode cX5_isSale 0 = .ok (.iload_n 1, 1) := by decide +kernel
theorem dX5_isSale_1 : decode cX5_isSale 1 = .ok (.ifCond .lt 15, 3) := by decide +kernel
theorem dX5_isSale_4 : decode cX5_isSale 4 = .ok (.iload_n 1, 1) := by decide +kernel
theorem dX5_isSale_5 : decode cX5_isSale 5 = .ok (.aload_n 0, 1) := by decide +kernel
theorem dX5_isSale_6 : decode cX5_isSale 6 = .ok (.getfield 138, 3) := by decide +kernel
theorem dX5_isSale_9 : decode cX5_isSale 9 = .ok (.if_icmp .ge 7, 3) := by decide +kernel
theorem dX5_isSale_12 : decode cX5_isSale 12 = .ok (.iconst 1, 1) := by decide +kernel
theorem dX5_isSale_13 : decode cX5_isSale 13 = .ok (.goto 4, 3) := by decide +kernel
theorem dX5_isSale_16 : decode cX5_isSale 16 = .ok (.iconst 0, 1) := by decide +kernel
theorem dX5_isSale_17 : decode cX5_isSale 17 = .ok (.ireturn, 1) := by decide +kernel
theorem dX6_isPage_0 : decode cX6_isPage 0 = .ok (.iload_n 1, 1) := by decide +kernel
theorem dX6_isPage_1 : decode cX6_isPage 1 = .ok (.iconst 0, 1) := by decide +kernel
theorem dX6_isPage_2 : decode cX6_isPage 2 = .ok (.aload_n 0, 1) := by decide +kernel
theorem dX6_isPage_3 : decode cX6_isPage 3 = .ok (.getfield 133, 3) := by decide +kernel
theorem dX6_isPage_6 : decode cX6_isPage 6 = .ok (.iconst 1, 1) := by decide +kernel
theorem dX6_isPage_7 : decode cX6_isPage 7 = .ok (.isub, 1) := by decide +kernel
theorem dX6_isPage_8 : decode cX6_isPage 8 = .ok (.invokestatic 136, 3) := by decide +kernel
theorem dX6_isPage_11 : decode cX6_isPage 11 = .ok (.ireturn, 1) := by decide +kernel
theorem dX6_isCampaign_0 : decode cX6_isCampaign 0 = .ok (.iload_n 1, 1) := by decide +kernel
theorem dX6_isCampaign_1 : decode cX6_isCampaign 1 = .ok (.iconst 0, 1) := by decide +kernel
theorem dX6_isCampaign_2 : decode cX6_isCampaign 2 = .ok (.aload_n 0, 1) := by decide +kernel
theorem dX6_isCampaign_3 : decode cX6_isCampaign 3 = .ok (.getfield 140, 3) := by decide +kernel
theorem dX6_isCampaign_6 : decode cX6_isCampaign 6 = .ok (.iconst 1, 1) := by decide +kernel
theorem dX6_isCampaign_7 : decode cX6_isCampaign 7 = .ok (.isub, 1) := by decide +kernel
theorem dX6_isCampaign_8 : decode cX6_isCampaign 8 = .ok (.invokestatic 136, 3) := by decide +kernel
theorem dX6_isCampaign_11 : decode cX6_isCampaign 11 = .ok (.ireturn, 1) := by decide +kernel
theorem dX6_isSale_0 : decode cX6_isSale 0 = .ok (.iload_n 1, 1) := by decide +kernel
theorem dX6_isSale_1 : decode cX6_isSale 1 = .ok (.iconst 0, 1) := by decide +kernel
theorem dX6_isSale_2 : decode cX6_isSale 2 = .ok (.aload_n 0, 1) := by decide +kernel
theorem dX6_isSale_3 : decode cX6_isSale 3 = .ok (.getfield 161, 3) := by decide +kernel
theorem dX6_isSale_6 : decode cX6_isSale 6 = .ok (.iconst 1, 1) := by decide +kernel
theorem dX6_isSale_7 : decode cX6_isSale 7 = .ok (.isub, 1) := by decide +kernel
theorem dX6_isSale_8 : decode cX6_isSale 8 = .ok (.invokestatic 136, 3) := by decide +kernel
theorem dX6_isSale_11 : decode cX6_isSale 11 = .ok (.ireturn, 1) := by decide +kernel
theorem dX5_budget_0 : decode cX5_budget 0 = .ok (.aload_n 0, 1) := by decide +kernel
theorem dX5_budget_1 : decode cX5_budget 1 = .ok (.iload_n 1, 1) := by decide +kernel
theorem dX5_budget_2 : decode cX5_budget 2 = .ok (.invokevirtual 85, 3) := by decide +kernel
theorem dX5_budget_5 : decode cX5_budget 5 = .ok (.ifCond .eq 23, 3) := by decide +kernel
theorem dX5_budget_28 : decode cX5_budget 28 = .ok (.iconst (-1), 1) := by decide +kernel
theorem dX5_budget_29 : decode cX5_budget 29 = .ok (.ireturn, 1) := by decide +kernel
theorem dX6_budget_0 : decode cX6_budget 0 = .ok (.aload_n 0, 1) := by decide +kernel
theorem dX6_budget_1 : decode cX6_budget 1 = .ok (.iload_n 1, 1) := by decide +kernel
theorem dX6_budget_2 : decode cX6_budget 2 = .ok (.invokevirtual 148, 3) := by decide +kernel
theorem dX6_budget_5 : decode cX6_budget 5 = .ok (.ifCond .eq 23, 3) := by decide +kernel
theorem dX6_budget_28 : decode cX6_budget 28 = .ok (.iconst (-1), 1) := by decide +kernel
theorem dX6_budget_29 : decode cX6_budget 29 = .ok (.ireturn, 1) := by decide +kernel
theorem dX5_cap_0 : decode cX5_cap 0 = .ok (.aload_n 0, 1) := by decide +kernel
theorem dX5_cap_1 : decode cX5_cap 1 = .ok (.iload_n 1, 1) := by decide +kernel
theorem dX5_cap_2 : decode cX5_cap 2 = .ok (.invokevirtual 85, 3) := by decide +kernel
theorem dX5_cap_5 : decode cX5_cap 5 = .ok (.ifCond .eq 24, 3) := by decide +kernel
theorem dX5_cap_29 : decode cX5_cap 29 = .ok (.iconst (-1), 1) := by decide +kernel
theorem dX5_cap_30 : decode cX5_cap 30 = .ok (.ireturn, 1) := by decide +kernel
theorem dX6_cap_0 : decode cX6_cap 0 = .ok (.aload_n 0, 1) := by decide +kernel
theorem dX6_cap_1 : decode cX6_cap 1 = .ok (.iload_n 1, 1) := by decide +kernel
theorem dX6_cap_2 : decode cX6_cap 2 = .ok (.invokevirtual 148, 3) := by decide +kernel
theorem dX6_cap_5 : decode cX6_cap 5 = .ok (.ifCond .eq 24, 3) := by decide +kernel
theorem dX6_cap_29 : decode cX6_cap 29 = .ok (.iconst (-1), 1) := by decide +kernel
theorem dX6_cap_30 : decode cX6_cap 30 = .ok (.ireturn, 1) := by decide +kernel
theorem dX5_apart_0 : decode cX5_apart 0 = .ok (.aload_n 0, 1) := by decide +kernel
theorem dX5_apart_1 : decode cX5_apart 1 = .ok (.iload_n 1, 1) := by decide +kernel
theorem dX5_apart_2 : decode cX5_apart 2 = .ok (.invokevirtual 85, 3) := by decide +kernel
theorem dX5_apart_5 : decode cX5_apart 5 = .ok (.ifCond .eq 25, 3) := by decide +kernel
theorem dX5_apart_30 : decode cX5_apart 30 = .ok (.iconst (-1), 1) := by decide +kernel
theorem dX5_apart_31 : decode cX5_apart 31 = .ok (.ireturn, 1) := by decide +kernel
theorem dX6_apart_0 : decode cX6_apart 0 = .ok (.aload_n 0, 1) := by decide +kernel
theorem dX6_apart_1 : decode cX6_apart 1 = .ok (.iload_n 1, 1) := by decide +kernel
theorem dX6_apart_2 : decode cX6_apart 2 = .ok (.invokevirtual 148, 3) := by decide +kernel
theorem dX6_apart_5 : decode cX6_apart 5 = .ok (.ifCond .eq 25, 3) := by decide +kernel
theorem dX6_apart_30 : decode cX6_apart 30 = .ok (.iconst (-1), 1) := by decide +kernel
theorem dX6_apart_31 : decode cX6_apart 31 = .ok (.ireturn, 1) := by decide +kernel
theorem dX5_promise_0 : decode cX5_promise 0 = .ok (.aload_n 0, 1) := by decide +kernel
theorem dX5_promise_1 : decode cX5_promise 1 = .ok (.iload_n 1, 1) := by decide +kernel
theorem dX5_promise_2 : decode cX5_promise 2 = .ok (.invokevirtual 85, 3) := by decide +kernel
theorem dX5_promise_5 : decode cX5_promise 5 = .ok (.ifCond .eq 25, 3) := by decide +kernel
theorem dX5_promise_30 : decode cX5_promise 30 = .ok (.iconst (-1), 1) := by decide +kernel
theorem dX5_promise_31 : decode cX5_promise 31 = .ok (.ireturn, 1) := by decide +kernel
theorem dX6_promise_0 : decode cX6_promise 0 = .ok (.aload_n 0, 1) := by decide +kernel
theorem dX6_promise_1 : decode cX6_promise 1 = .ok (.iload_n 1, 1) := by decide +kernel
theorem dX6_promise_2 : decode cX6_promise 2 = .ok (.invokevirtual 148, 3) := by decide +kernel
theorem dX6_promise_5 : decode cX6_promise 5 = .ok (.ifCond .eq 35, 3) := by decide +kernel
theorem dX6_promise_40 : decode cX6_promise 40 = .ok (.iconst (-1), 1) := by decide +kernel
theorem dX6_promise_41 : decode cX6_promise 41 = .ok (.ireturn, 1) := by decide +kernel
theorem dX5_stop_0 : decode cX5_stop 0 = .ok (.aload_n 0, 1) := by decide +kernel
theorem dX5_stop_1 : decode cX5_stop 1 = .ok (.iload_n 1, 1) := by decide +kernel
theorem dX5_stop_2 : decode cX5_stop 2 = .ok (.invokevirtual 85, 3) := by decide +kernel
theorem dX5_stop_5 : decode cX5_stop 5 = .ok (.ifCond .eq 12, 3) := by decide +kernel
theorem dX5_stop_17 : decode cX5_stop 17 = .ok (.iconst (-1), 1) := by decide +kernel
theorem dX5_stop_18 : decode cX5_stop 18 = .ok (.ireturn, 1) := by decide +kernel
theorem dX6_stop_0 : decode cX6_stop 0 = .ok (.aload_n 0, 1) := by decide +kernel
theorem dX6_stop_1 : decode cX6_stop 1 = .ok (.iload_n 1, 1) := by decide +kernel
theorem dX6_stop_2 : decode cX6_stop 2 = .ok (.invokevirtual 148, 3) := by decide +kernel
theorem dX6_stop_5 : decode cX6_stop 5 = .ok (.ifCond .eq 12, 3) := by decide +kernel
theorem dX6_stop_17 : decode cX6_stop 17 = .ok (.iconst (-1), 1) := by decide +kernel
theorem dX6_stop_18 : decode cX6_stop 18 = .ok (.ireturn, 1) := by decide +kernel
theorem dX5_come_0 : decode cX5_come 0 = .ok (.iload_n 1, 1) := by decide +kernel
theorem dX5_come_1 : decode cX5_come 1 = .ok (.invokestatic 61, 3) := by decide +kernel
theorem dX5_come_4 : decode cX5_come 4 = .ok (.ifCond .eq 11, 3) := by decide +kernel
theorem dX5_come_7 : decode cX5_come 7 = .ok (.aload_n 0, 1) := by decide +kernel
theorem dX5_come_8 : decode cX5_come 8 = .ok (.iload_n 2, 1) := by decide +kernel
theorem dX5_come_9 : decode cX5_come 9 = .ok (.invokevirtual 135, 3) := by decide +kernel
theorem dX5_come_12 : decode cX5_come 12 = .ok (.ifCond .ne 5, 3) := by decide +kernel
theorem dX5_come_15 : decode cX5_come 15 = .ok (.iconst (-1), 1) := by decide +kernel
theorem dX5_come_16 : decode cX5_come 16 = .ok (.ireturn, 1) := by decide +kernel
theorem dX6_come_0 : decode cX6_come 0 = .ok (.iload_n 1, 1) := by decide +kernel
theorem dX6_come_1 : decode cX6_come 1 = .ok (.invokestatic 143, 3) := by decide +kernel
theorem dX6_come_4 : decode cX6_come 4 = .ok (.ifCond .eq 11, 3) := by decide +kernel
theorem dX6_come_7 : decode cX6_come 7 = .ok (.aload_n 0, 1) := by decide +kernel
theorem dX6_come_8 : decode cX6_come 8 = .ok (.iload_n 2, 1) := by decide +kernel
theorem dX6_come_9 : decode cX6_come 9 = .ok (.invokevirtual 243, 3) := by decide +kernel
theorem dX6_come_12 : decode cX6_come 12 = .ok (.ifCond .ne 5, 3) := by decide +kernel
theorem dX6_come_15 : decode cX6_come 15 = .ok (.iconst (-1), 1) := by decide +kernel
theorem dX6_come_16 : decode cX6_come 16 = .ok (.ireturn, 1) := by decide +kernel
theorem dX5_why_0 : decode cX5_why 0 = .ok (.aload_n 0, 1) := by decide +kernel
theorem dX5_why_1 : decode cX5_why 1 = .ok (.iload_n 1, 1) := by decide +kernel
theorem dX5_why_2 : decode cX5_why 2 = .ok (.invokevirtual 85, 3) := by decide +kernel
theorem dX5_why_5 : decode cX5_why 5 = .ok (.ifCond .eq 18, 3) := by decide +kernel
theorem dX5_why_23 : decode cX5_why 23 = .ok (.iconst (-1), 1) := by decide +kernel
theorem dX5_why_24 : decode cX5_why 24 = .ok (.ireturn, 1) := by decide +kernel
theorem dX6_why_0 : decode cX6_why 0 = .ok (.aload_n 0, 1) := by decide +kernel
theorem dX6_why_1 : decode cX6_why 1 = .ok (.iload_n 1, 1) := by decide +kernel
theorem dX6_why_2 : decode cX6_why 2 = .ok (.invokevirtual 148, 3) := by decide +kernel
theorem dX6_why_5 : decode cX6_why 5 = .ok (.ifCond .eq 28, 3) := by decide +kernel
theorem dX6_why_33 : decode cX6_why 33 = .ok (.iconst (-1), 1) := by decide +kernel
theorem dX6_why_34 : decode cX6_why 34 = .ok (.ireturn, 1) := by decide +kernel
theorem dX5_best_0 : decode cX5_best 0 = .ok (.iload_n 1, 1) := by decide +kernel
theorem dX5_best_1 : decode cX5_best 1 = .ok (.invokestatic 61, 3) := by decide +kernel
theorem dX5_best_4 : decode cX5_best 4 = .ok (.ifCond .eq 11, 3) := by decide +kernel
theorem dX5_best_7 : decode cX5_best 7 = .ok (.aload_n 0, 1) := by decide +kernel
theorem dX5_best_8 : decode cX5_best 8 = .ok (.iload_n 2, 1) := by decide +kernel
theorem dX5_best_9 : decode cX5_best 9 = .ok (.invokevirtual 135, 3) := by decide +kernel
theorem dX5_best_12 : decode cX5_best 12 = .ok (.ifCond .ne 7, 3) := by decide +kernel
theorem dX5_best_15 : decode cX5_best 15 = .ok (.ldc2_w 159, 3) := by decide +kernel
theorem dX5_best_18 : decode cX5_best 18 = .ok (.lreturn, 1) := by decide +kernel
theorem dX6_best_0 : decode cX6_best 0 = .ok (.iload_n 1, 1) := by decide +kernel
theorem dX6_best_1 : decode cX6_best 1 = .ok (.invokestatic 143, 3) := by decide +kernel
theorem dX6_best_4 : decode cX6_best 4 = .ok (.ifCond .eq 20, 3) := by decide +kernel
theorem dX6_best_7 : decode cX6_best 7 = .ok (.aload_n 0, 1) := by decide +kernel
theorem dX6_best_8 : decode cX6_best 8 = .ok (.iload_n 2, 1) := by decide +kernel
theorem dX6_best_9 : decode cX6_best 9 = .ok (.invokevirtual 243, 3) := by decide +kernel
theorem dX6_best_12 : decode cX6_best 12 = .ok (.ifCond .eq 12, 3) := by decide +kernel
theorem dX6_best_24 : decode cX6_best 24 = .ok (.ldc2_w 263, 3) := by decide +kernel
theorem dX6_best_27 : decode cX6_best 27 = .ok (.lreturn, 1) := by decide +kernel
theorem dX5_give_0 : decode cX5_give 0 = .ok (.iload_n 1, 1) := by decide +kernel
theorem dX5_give_1 : decode cX5_give 1 = .ok (.invokestatic 61, 3) := by decide +kernel
theorem dX5_give_4 : decode cX5_give 4 = .ok (.ifCond .eq 30, 3) := by decide +kernel
theorem dX5_give_7 : decode cX5_give 7 = .ok (.aload_n 0, 1) := by decide +kernel
theorem dX5_give_8 : decode cX5_give 8 = .ok (.iload_n 2, 1) := by decide +kernel
theorem dX5_give_9 : decode cX5_give 9 = .ok (.invokevirtual 135, 3) := by decide +kernel
theorem dX5_give_12 : decode cX5_give 12 = .ok (.ifCond .eq 22, 3) := by decide +kernel
theorem dX5_give_34 : decode cX5_give 34 = .ok (.iconst (-1), 1) := by decide +kernel
theorem dX5_give_35 : decode cX5_give 35 = .ok (.ireturn, 1) := by decide +kernel
theorem dX6_give_0 : decode cX6_give 0 = .ok (.iload_n 1, 1) := by decide +kernel
theorem dX6_give_1 : decode cX6_give 1 = .ok (.invokestatic 143, 3) := by decide +kernel
theorem dX6_give_4 : decode cX6_give 4 = .ok (.ifCond .eq 27, 3) := by decide +kernel
theorem dX6_give_7 : decode cX6_give 7 = .ok (.aload_n 0, 1) := by decide +kernel
theorem dX6_give_8 : decode cX6_give 8 = .ok (.iload_n 2, 1) := by decide +kernel
theorem dX6_give_9 : decode cX6_give 9 = .ok (.invokevirtual 243, 3) := by decide +kernel
theorem dX6_give_12 : decode cX6_give 12 = .ok (.ifCond .eq 19, 3) := by decide +kernel
theorem dX6_give_31 : decode cX6_give 31 = .ok (.iconst (-1), 1) := by decide +kernel
theorem dX6_give_32 : decode cX6_give 32 = .ok (.ireturn, 1) := by decide +kernel
theorem dX5_sale_0 : decode cX5_sale 0 = .ok (.aload_n 0, 1) := by decide +kernel
theorem dX5_sale_1 : decode cX5_sale 1 = .ok (.iload_n 1, 1) := by decide +kernel
theorem dX5_sale_2 : decode cX5_sale 2 = .ok (.invokevirtual 164, 3) := by decide +kernel
theorem dX5_sale_5 : decode cX5_sale 5 = .ok (.ifCond .ne 5, 3) := by decide +kernel
theorem dX5_sale_8 : decode cX5_sale 8 = .ok (.iconst (-1), 1) := by decide +kernel
theorem dX5_sale_9 : decode cX5_sale 9 = .ok (.ireturn, 1) := by decide +kernel
theorem dX6_sale_0 : decode cX6_sale 0 = .ok (.aload_n 0, 1) := by decide +kernel
theorem dX6_sale_1 : decode cX6_sale 1 = .ok (.iload_n 1, 1) := by decide +kernel
theorem dX6_sale_2 : decode cX6_sale 2 = .ok (.invokevirtual 265, 3) := by decide +kernel
theorem dX6_sale_5 : decode cX6_sale 5 = .ok (.ifCond .ne 5, 3) := by decide +kernel
theorem dX6_sale_8 : decode cX6_sale 8 = .ok (.iconst (-1), 1) := by decide +kernel
theorem dX6_sale_9 : decode cX6_sale 9 = .ok (.ireturn, 1) := by decide +kernel
theorem dX5_press_0 : decode cX5_press 0 = .ok (.aload_n 0, 1) := by decide +kernel
theorem dX5_press_1 : decode cX5_press 1 = .ok (.iload_n 1, 1) := by decide +kernel
theorem dX5_press_2 : decode cX5_press 2 = .ok (.invokevirtual 164, 3) := by decide +kernel
theorem dX5_press_5 : decode cX5_press 5 = .ok (.ifCond .ne 5, 3) := by decide +kernel
theorem dX5_press_8 : decode cX5_press 8 = .ok (.iconst (-1), 1) := by decide +kernel
theorem dX5_press_9 : decode cX5_press 9 = .ok (.ireturn, 1) := by decide +kernel
theorem dX6_press_0 : decode cX6_press 0 = .ok (.aload_n 0, 1) := by decide +kernel
theorem dX6_press_1 : decode cX6_press 1 = .ok (.iload_n 1, 1) := by decide +kernel
theorem dX6_press_2 : decode cX6_press 2 = .ok (.invokevirtual 265, 3) := by decide +kernel
theorem dX6_press_5 : decode cX6_press 5 = .ok (.ifCond .ne 5, 3) := by decide +kernel
theorem dX6_press_8 : decode cX6_press 8 = .ok (.iconst (-1), 1) := by decide +kernel
theorem dX6_press_9 : decode cX6_press 9 = .ok (.ireturn, 1) := by decide +kernel
theorem dX5_refund_0 : decode cX5_refund 0 = .ok (.aload_n 0, 1) := by decide +kernel
theorem dX5_refund_1 : decode cX5_refund 1 = .ok (.iload_n 1, 1) := by decide +kernel
theorem dX5_refund_2 : decode cX5_refund 2 = .ok (.invokevirtual 164, 3) := by decide +kernel
theorem dX5_refund_5 : decode cX5_refund 5 = .ok (.ifCond .ne 5, 3) := by decide +kernel
theorem dX5_refund_8 : decode cX5_refund 8 = .ok (.iconst (-1), 1) := by decide +kernel
theorem dX5_refund_9 : decode cX5_refund 9 = .ok (.ireturn, 1) := by decide +kernel
theorem dX6_refund_0 : decode cX6_refund 0 = .ok (.aload_n 0, 1) := by decide +kernel
theorem dX6_refund_1 : decode cX6_refund 1 = .ok (.iload_n 1, 1) := by decide +kernel
theorem dX6_refund_2 : decode cX6_refund 2 = .ok (.invokevirtual 265, 3) := by decide +kernel
theorem dX6_refund_5 : decode cX6_refund 5 = .ok (.ifCond .ne 5, 3) := by decide +kernel
theorem dX6_refund_8 : decode cX6_refund 8 = .ok (.iconst (-1), 1) := by decide +kernel
theorem dX6_refund_9 : decode cX6_refund 9 = .ok (.ireturn, 1) := by decide +kernel
theorem dX5_told_0 : decode cX5_told 0 = .ok (.aload_n 0, 1) := by decide +kernel
theorem dX5_told_1 : decode cX5_told 1 = .ok (.iload_n 1, 1) := by decide +kernel
theorem dX5_told_2 : decode cX5_told 2 = .ok (.invokevirtual 85, 3) := by decide +kernel
theorem dX5_told_5 : decode cX5_told 5 = .ok (.ifCond .ne 6, 3) := by decide +kernel
theorem dX5_told_8 : decode cX5_told 8 = .ok (.ldc 229, 2) := by decide +kernel
theorem dX5_told_10 : decode cX5_told 10 = .ok (.ireturn, 1) := by decide +kernel
theorem dX6_told_0 : decode cX6_told 0 = .ok (.aload_n 0, 1) := by decide +kernel
theorem dX6_told_1 : decode cX6_told 1 = .ok (.iload_n 1, 1) := by decide +kernel
theorem dX6_told_2 : decode cX6_told 2 = .ok (.invokevirtual 148, 3) := by decide +kernel
theorem dX6_told_5 : decode cX6_told 5 = .ok (.ifCond .ne 7, 3) := by decide +kernel
theorem dX6_told_8 : decode cX6_told 8 = .ok (.ldc_w 268, 3) := by decide +kernel
theorem dX6_told_11 : decode cX6_told 11 = .ok (.ireturn, 1) := by decide +kernel
theorem dX5_chance_0 : decode cX5_chance 0 = .ok (.aload_n 0, 1) := by decide +kernel
theorem dX5_chance_1 : decode cX5_chance 1 = .ok (.iload_n 1, 1) := by decide +kernel
theorem dX5_chance_2 : decode cX5_chance 2 = .ok (.invokevirtual 85, 3) := by decide +kernel
theorem dX5_chance_5 : decode cX5_chance 5 = .ok (.ifCond .ne 5, 3) := by decide +kernel
theorem dX5_chance_8 : decode cX5_chance 8 = .ok (.iconst (-1), 1) := by decide +kernel
theorem dX5_chance_9 : decode cX5_chance 9 = .ok (.ireturn, 1) := by decide +kernel
theorem dX6_chance_0 : decode cX6_chance 0 = .ok (.aload_n 0, 1) := by decide +kernel
theorem dX6_chance_1 : decode cX6_chance 1 = .ok (.iload_n 1, 1) := by decide +kernel
theorem dX6_chance_2 : decode cX6_chance 2 = .ok (.invokevirtual 148, 3) := by decide +kernel
theorem dX6_chance_5 : decode cX6_chance 5 = .ok (.ifCond .eq 37, 3) := by decide +kernel
theorem dX6_chance_42 : decode cX6_chance 42 = .ok (.iconst (-1), 1) := by decide +kernel
theorem dX6_chance_43 : decode cX6_chance 43 = .ok (.ireturn, 1) := by decide +kernel
theorem dX5_draw_0 : decode cX5_draw 0 = .ok (.aload_n 0, 1) := by decide +kernel
theorem dX5_draw_1 : decode cX5_draw 1 = .ok (.iload_n 1, 1) := by decide +kernel
theorem dX5_draw_2 : decode cX5_draw 2 = .ok (.invokevirtual 85, 3) := by decide +kernel
theorem dX5_draw_5 : decode cX5_draw 5 = .ok (.ifCond .eq 10, 3) := by decide +kernel
theorem dX5_draw_15 : decode cX5_draw 15 = .ok (.iconst (-1), 1) := by decide +kernel
theorem dX5_draw_16 : decode cX5_draw 16 = .ok (.ireturn, 1) := by decide +kernel
theorem dX6_draw_0 : decode cX6_draw 0 = .ok (.aload_n 0, 1) := by decide +kernel
theorem dX6_draw_1 : decode cX6_draw 1 = .ok (.iload_n 1, 1) := by decide +kernel
theorem dX6_draw_2 : decode cX6_draw 2 = .ok (.invokevirtual 148, 3) := by decide +kernel
theorem dX6_draw_5 : decode cX6_draw 5 = .ok (.ifCond .eq 19, 3) := by decide +kernel
theorem dX6_draw_24 : decode cX6_draw 24 = .ok (.iconst (-1), 1) := by decide +kernel
theorem dX6_draw_25 : decode cX6_draw 25 = .ok (.ireturn, 1) := by decide +kernel
theorem dX5_income_0 : decode cX5_income 0 = .ok (.aload_n 0, 1) := by decide +kernel
theorem dX5_income_1 : decode cX5_income 1 = .ok (.iload_n 1, 1) := by decide +kernel
theorem dX5_income_2 : decode cX5_income 2 = .ok (.invokevirtual 135, 3) := by decide +kernel
theorem dX5_income_5 : decode cX5_income 5 = .ok (.ifCond .ne 5, 3) := by decide +kernel
theorem dX5_income_8 : decode cX5_income 8 = .ok (.iconst (-1), 1) := by decide +kernel
theorem dX5_income_9 : decode cX5_income 9 = .ok (.ireturn, 1) := by decide +kernel
theorem dX6_income_0 : decode cX6_income 0 = .ok (.aload_n 0, 1) := by decide +kernel
theorem dX6_income_1 : decode cX6_income 1 = .ok (.iload_n 1, 1) := by decide +kernel
theorem dX6_income_2 : decode cX6_income 2 = .ok (.invokevirtual 243, 3) := by decide +kernel
theorem dX6_income_5 : decode cX6_income 5 = .ok (.ifCond .ne 5, 3) := by decide +kernel
theorem dX6_income_8 : decode cX6_income 8 = .ok (.iconst (-1), 1) := by decide +kernel
theorem dX6_income_9 : decode cX6_income 9 = .ok (.ireturn, 1) := by decide +kernel
theorem dX5_rule_0 : decode cX5_rule 0 = .ok (.iload_n 1, 1) := by decide +kernel
theorem dX5_rule_1 : decode cX5_rule 1 = .ok (.ifCond .eq 10, 3) := by decide +kernel
theorem dX5_rule_4 : decode cX5_rule 4 = .ok (.iload_n 1, 1) := by decide +kernel
theorem dX5_rule_5 : decode cX5_rule 5 = .ok (.iconst 1, 1) := by decide +kernel
theorem dX5_rule_6 : decode cX5_rule 6 = .ok (.if_icmp .eq 5, 3) := by decide +kernel
theorem dX5_rule_9 : decode cX5_rule 9 = .ok (.iconst (-1), 1) := by decide +kernel
theorem dX5_rule_10 : decode cX5_rule 10 = .ok (.ireturn, 1) := by decide +kernel
theorem dX5_rule_11 : decode cX5_rule 11 = .ok (.aload_n 0, 1) := by decide +kernel
theorem dX5_rule_12 : decode cX5_rule 12 = .ok (.getfield 123, 3) := by decide +kernel
theorem dX5_rule_15 : decode cX5_rule 15 = .ok (.istore_n 2, 1) := by decide +kernel
theorem dX5_rule_16 : decode cX5_rule 16 = .ok (.aload_n 0, 1) := by decide +kernel
theorem dX5_rule_17 : decode cX5_rule 17 = .ok (.iload_n 1, 1) := by decide +kernel
theorem dX5_rule_18 : decode cX5_rule 18 = .ok (.putfield 123, 3) := by decide +kernel
theorem dX5_rule_21 : decode cX5_rule 21 = .ok (.iload_n 2, 1) := by decide +kernel
theorem dX5_rule_22 : decode cX5_rule 22 = .ok (.ireturn, 1) := by decide +kernel
theorem dX6_rule_0 : decode cX6_rule 0 = .ok (.iload_n 1, 1) := by decide +kernel
theorem dX6_rule_1 : decode cX6_rule 1 = .ok (.iconst 0, 1) := by decide +kernel
theorem dX6_rule_2 : decode cX6_rule 2 = .ok (.iconst 1, 1) := by decide +kernel
theorem dX6_rule_3 : decode cX6_rule 3 = .ok (.invokestatic 136, 3) := by decide +kernel
theorem dX6_rule_6 : decode cX6_rule 6 = .ok (.ifCond .ne 5, 3) := by decide +kernel
theorem dX6_rule_9 : decode cX6_rule 9 = .ok (.iconst (-1), 1) := by decide +kernel
theorem dX6_rule_10 : decode cX6_rule 10 = .ok (.ireturn, 1) := by decide +kernel
theorem dX6_rule_11 : decode cX6_rule 11 = .ok (.aload_n 0, 1) := by decide +kernel
theorem dX6_rule_12 : decode cX6_rule 12 = .ok (.getfield 155, 3) := by decide +kernel
theorem dX6_rule_15 : decode cX6_rule 15 = .ok (.istore_n 2, 1) := by decide +kernel
theorem dX6_rule_16 : decode cX6_rule 16 = .ok (.aload_n 0, 1) := by decide +kernel
theorem dX6_rule_17 : decode cX6_rule 17 = .ok (.iload_n 1, 1) := by decide +kernel
theorem dX6_rule_18 : decode cX6_rule 18 = .ok (.putfield 155, 3) := by decide +kernel
theorem dX6_rule_21 : decode cX6_rule 21 = .ok (.iload_n 2, 1) := by decide +kernel
theorem dX6_rule_22 : decode cX6_rule 22 = .ok (.ireturn, 1) := by decide +kernel
theorem dX5_pace_0 : decode cX5_pace 0 = .ok (.iload_n 1, 1) := by decide +kernel
theorem dX5_pace_1 : decode cX5_pace 1 = .ok (.ifCond .eq 16, 3) := by decide +kernel
theorem dX5_pace_4 : decode cX5_pace 4 = .ok (.iload_n 1, 1) := by decide +kernel
theorem dX5_pace_5 : decode cX5_pace 5 = .ok (.bipush 10, 2) := by decide +kernel
theorem dX5_pace_7 : decode cX5_pace 7 = .ok (.bipush 100, 2) := by decide +kernel
theorem dX5_pace_9 : decode cX5_pace 9 = .ok (.invokestatic 65, 3) := by decide +kernel
theorem dX5_pace_12 : decode cX5_pace 12 = .ok (.ifCond .ne 5, 3) := by decide +kernel
theorem dX5_pace_15 : decode cX5_pace 15 = .ok (.iconst (-1), 1) := by decide +kernel
theorem dX5_pace_16 : decode cX5_pace 16 = .ok (.ireturn, 1) := by decide +kernel
theorem dX5_pace_17 : decode cX5_pace 17 = .ok (.iload_n 2, 1) := by decide +kernel
theorem dX5_pace_18 : decode cX5_pace 18 = .ok (.iconst 1, 1) := by decide +kernel
theorem dX5_pace_19 : decode cX5_pace 19 = .ok (.sipush 200, 3) := by decide +kernel
theorem dX5_pace_22 : decode cX5_pace 22 = .ok (.invokestatic 65, 3) := by decide +kernel
theorem dX5_pace_25 : decode cX5_pace 25 = .ok (.ifCond .ne 5, 3) := by decide +kernel
theorem dX5_pace_28 : decode cX5_pace 28 = .ok (.iconst (-1), 1) := by decide +kernel
theorem dX5_pace_29 : decode cX5_pace 29 = .ok (.ireturn, 1) := by decide +kernel
theorem dX5_pace_30 : decode cX5_pace 30 = .ok (.aload_n 0, 1) := by decide +kernel
theorem dX5_pace_31 : decode cX5_pace 31 = .ok (.iload_n 1, 1) := by decide +kernel
theorem dX5_pace_32 : decode cX5_pace 32 = .ok (.putfield 126, 3) := by decide +kernel
theorem dX5_pace_35 : decode cX5_pace 35 = .ok (.aload_n 0, 1) := by decide +kernel
theorem dX5_pace_36 : decode cX5_pace 36 = .ok (.iload_n 2, 1) := by decide +kernel
theorem dX5_pace_37 : decode cX5_pace 37 = .ok (.putfield 44, 3) := by decide +kernel
theorem dX5_pace_40 : decode cX5_pace 40 = .ok (.iconst 1, 1) := by decide +kernel
theorem dX5_pace_41 : decode cX5_pace 41 = .ok (.ireturn, 1) := by decide +kernel
theorem dX6_pace_0 : decode cX6_pace 0 = .ok (.iload_n 1, 1) := by decide +kernel
theorem dX6_pace_1 : decode cX6_pace 1 = .ok (.ifCond .eq 14, 3) := by decide +kernel
theorem dX6_pace_4 : decode cX6_pace 4 = .ok (.iload_n 1, 1) := by decide +kernel
theorem dX6_pace_5 : decode cX6_pace 5 = .ok (.bipush 10, 2) := by decide +kernel
theorem dX6_pace_7 : decode cX6_pace 7 = .ok (.bipush 100, 2) := by decide +kernel
theorem dX6_pace_9 : decode cX6_pace 9 = .ok (.invokestatic 136, 3) := by decide +kernel
theorem dX6_pace_12 : decode cX6_pace 12 = .ok (.ifCond .eq 14, 3) := by decide +kernel
theorem dX6_pace_15 : decode cX6_pace 15 = .ok (.iload_n 2, 1) := by decide +kernel
theorem dX6_pace_16 : decode cX6_pace 16 = .ok (.iconst 1, 1) := by decide +kernel
theorem dX6_pace_17 : decode cX6_pace 17 = .ok (.sipush 200, 3) := by decide +kernel
theorem dX6_pace_20 : decode cX6_pace 20 = .ok (.invokestatic 136, 3) := by decide +kernel
theorem dX6_pace_23 : decode cX6_pace 23 = .ok (.ifCond .ne 5, 3) := by decide +kernel
theorem dX6_pace_26 : decode cX6_pace 26 = .ok (.iconst (-1), 1) := by decide +kernel
theorem dX6_pace_27 : decode cX6_pace 27 = .ok (.ireturn, 1) := by decide +kernel
theorem dX6_pace_28 : decode cX6_pace 28 = .ok (.aload_n 0, 1) := by decide +kernel
theorem dX6_pace_29 : decode cX6_pace 29 = .ok (.iload_n 1, 1) := by decide +kernel
theorem dX6_pace_30 : decode cX6_pace 30 = .ok (.putfield 158, 3) := by decide +kernel
theorem dX6_pace_33 : decode cX6_pace 33 = .ok (.aload_n 0, 1) := by decide +kernel
theorem dX6_pace_34 : decode cX6_pace 34 = .ok (.iload_n 2, 1) := by decide +kernel
theorem dX6_pace_35 : decode cX6_pace 35 = .ok (.putfield 7, 3) := by decide +kernel
theorem dX6_pace_38 : decode cX6_pace 38 = .ok (.iconst 1, 1) := by decide +kernel
theorem dX6_pace_39 : decode cX6_pace 39 = .ok (.ireturn, 1) := by decide +kernel
theorem dX5_count_0 : decode cX5_count 0 = .ok (.iload_n 1, 1) := by decide +kernel
theorem dX5_count_1 : decode cX5_count 1 = .ok (.tableswitch 69 0 5 #[39, 44, 49, 54, 59, 64], 39) := by decide +kernel
theorem dX5_count_40 : decode cX5_count 40 = .ok (.aload_n 0, 1) := by decide +kernel
theorem dX5_count_41 : decode cX5_count 41 = .ok (.getfield 55, 3) := by decide +kernel
theorem dX5_count_44 : decode cX5_count 44 = .ok (.ireturn, 1) := by decide +kernel
theorem dX5_count_45 : decode cX5_count 45 = .ok (.aload_n 0, 1) := by decide +kernel
theorem dX5_count_46 : decode cX5_count 46 = .ok (.getfield 79, 3) := by decide +kernel
theorem dX5_count_49 : decode cX5_count 49 = .ok (.ireturn, 1) := by decide +kernel
theorem dX5_count_50 : decode cX5_count 50 = .ok (.aload_n 0, 1) := by decide +kernel
theorem dX5_count_51 : decode cX5_count 51 = .ok (.getfield 138, 3) := by decide +kernel
theorem dX5_count_54 : decode cX5_count 54 = .ok (.ireturn, 1) := by decide +kernel
theorem dX5_count_55 : decode cX5_count 55 = .ok (.aload_n 0, 1) := by decide +kernel
theorem dX5_count_56 : decode cX5_count 56 = .ok (.getfield 108, 3) := by decide +kernel
theorem dX5_count_59 : decode cX5_count 59 = .ok (.ireturn, 1) := by decide +kernel
theorem dX5_count_60 : decode cX5_count 60 = .ok (.aload_n 0, 1) := by decide +kernel
theorem dX5_count_61 : decode cX5_count 61 = .ok (.getfield 226, 3) := by decide +kernel
theorem dX5_count_64 : decode cX5_count 64 = .ok (.ireturn, 1) := by decide +kernel
theorem dX5_count_65 : decode cX5_count 65 = .ok (.aload_n 0, 1) := by decide +kernel
theorem dX5_count_66 : decode cX5_count 66 = .ok (.getfield 273, 3) := by decide +kernel
theorem dX5_count_69 : decode cX5_count 69 = .ok (.ireturn, 1) := by decide +kernel
theorem dX5_count_70 : decode cX5_count 70 = .ok (.iconst (-1), 1) := by decide +kernel
theorem dX5_count_71 : decode cX5_count 71 = .ok (.ireturn, 1) := by decide +kernel
theorem dX6_count_0 : decode cX6_count 0 = .ok (.iconst 0, 1) := by decide +kernel
theorem dX6_count_1 : decode cX6_count 1 = .ok (.istore_n 2, 1) := by decide +kernel
theorem dX6_count_2 : decode cX6_count 2 = .ok (.iload_n 1, 1) := by decide +kernel
theorem dX6_count_3 : decode cX6_count 3 = .ok (.tableswitch 120 0 5 #[37, 42, 47, 52, 57, 93], 37) := by decide +kernel
theorem dX6_count_40 : decode cX6_count 40 = .ok (.aload_n 0, 1) := by decide +kernel
theorem dX6_count_41 : decode cX6_count 41 = .ok (.getfield 133, 3) := by decide +kernel
theorem dX6_count_44 : decode cX6_count 44 = .ok (.ireturn, 1) := by decide +kernel
theorem dX6_count_45 : decode cX6_count 45 = .ok (.aload_n 0, 1) := by decide +kernel
theorem dX6_count_46 : decode cX6_count 46 = .ok (.getfield 140, 3) := by decide +kernel
theorem dX6_count_49 : decode cX6_count 49 = .ok (.ireturn, 1) := by decide +kernel
theorem dX6_count_50 : decode cX6_count 50 = .ok (.aload_n 0, 1) := by decide +kernel
theorem dX6_count_51 : decode cX6_count 51 = .ok (.getfield 161, 3) := by decide +kernel
theorem dX6_count_54 : decode cX6_count 54 = .ok (.ireturn, 1) := by decide +kernel
theorem dX6_count_55 : decode cX6_count 55 = .ok (.aload_n 0, 1) := by decide +kernel
theorem dX6_count_56 : decode cX6_count 56 = .ok (.getfield 152, 3) := by decide +kernel
theorem dX6_count_59 : decode cX6_count 59 = .ok (.ireturn, 1) := by decide +kernel
theorem dX6_count_60 : decode cX6_count 60 = .ok (.iconst 0, 1) := by decide +kernel
theorem dX6_count_61 : decode cX6_count 61 = .ok (.istore_n 3, 1) := by decide +kernel
theorem dX6_count_62 : decode cX6_count 62 = .ok (.iload_n 3, 1) := by decide +kernel
theorem dX6_count_63 : decode cX6_count 63 = .ok (.aload_n 0, 1) := by decide +kernel
theorem dX6_count_64 : decode cX6_count 64 = .ok (.getfield 161, 3) := by decide +kernel
theorem dX6_count_67 : decode cX6_count 67 = .ok (.if_icmp .ge 27, 3) := by decide +kernel
theorem dX6_count_94 : decode cX6_count 94 = .ok (.iload_n 2, 1) := by decide +kernel
theorem dX6_count_95 : decode cX6_count 95 = .ok (.ireturn, 1) := by decide +kernel
theorem dX6_count_96 : decode cX6_count 96 = .ok (.iconst 0, 1) := by decide +kernel
theorem dX6_count_97 : decode cX6_count 97 = .ok (.istore_n 3, 1) := by decide +kernel
theorem dX6_count_98 : decode cX6_count 98 = .ok (.iload_n 3, 1) := by decide +kernel
theorem dX6_count_99 : decode cX6_count 99 = .ok (.aload_n 0, 1) := by decide +kernel
theorem dX6_count_100 : decode cX6_count 100 = .ok (.getfield 161, 3) := by decide +kernel
theorem dX6_count_103 : decode cX6_count 103 = .ok (.if_icmp .ge 18, 3) := by decide +kernel
theorem dX6_count_121 : decode cX6_count 121 = .ok (.iload_n 2, 1) := by decide +kernel
theorem dX6_count_122 : decode cX6_count 122 = .ok (.ireturn, 1) := by decide +kernel
theorem dX6_count_123 : decode cX6_count 123 = .ok (.iconst (-1), 1) := by decide +kernel
theorem dX6_count_124 : decode cX6_count 124 = .ok (.ireturn, 1) := by decide +kernel
theorem dX5_closeDay_0 : decode cX5_closeDay 0 = .ok (.iconst 0, 1) := by decide +kernel
theorem dX5_closeDay_1 : decode cX5_closeDay 1 = .ok (.istore_n 1, 1) := by decide +kernel
theorem dX5_closeDay_2 : decode cX5_closeDay 2 = .ok (.iload_n 1, 1) := by decide +kernel
theorem dX5_closeDay_3 : decode cX5_closeDay 3 = .ok (.aload_n 0, 1) := by decide +kernel
theorem dX5_closeDay_4 : decode cX5_closeDay 4 = .ok (.getfield 79, 3) := by decide +kernel
theorem dX5_closeDay_7 : decode cX5_closeDay 7 = .ok (.if_icmp .ge 22, 3) := by decide +kernel
theorem dX5_closeDay_29 : decode cX5_closeDay 29 = .ok (.return_, 1) := by decide +kernel
theorem dX5_closeTick_0 : decode cX5_closeTick 0 = .ok (.iconst 0, 1) := by decide +kernel
theorem dX5_closeTick_1 : decode cX5_closeTick 1 = .ok (.istore_n 1, 1) := by decide +kernel
theorem dX5_closeTick_2 : decode cX5_closeTick 2 = .ok (.iload_n 1, 1) := by decide +kernel
theorem dX5_closeTick_3 : decode cX5_closeTick 3 = .ok (.aload_n 0, 1) := by decide +kernel
theorem dX5_closeTick_4 : decode cX5_closeTick 4 = .ok (.getfield 79, 3) := by decide +kernel
theorem dX5_closeTick_7 : decode cX5_closeTick 7 = .ok (.if_icmp .ge 21, 3) := by decide +kernel
theorem dX5_closeTick_28 : decode cX5_closeTick 28 = .ok (.iconst 0, 1) := by decide +kernel
theorem dX5_closeTick_29 : decode cX5_closeTick 29 = .ok (.istore_n 1, 1) := by decide +kernel
theorem dX5_closeTick_30 : decode cX5_closeTick 30 = .ok (.iload_n 1, 1) := by decide +kernel
theorem dX5_closeTick_31 : decode cX5_closeTick 31 = .ok (.aload_n 0, 1) := by decide +kernel
theorem dX5_closeTick_32 : decode cX5_closeTick 32 = .ok (.getfield 55, 3) := by decide +kernel
theorem dX5_closeTick_35 : decode cX5_closeTick 35 = .ok (.if_icmp .ge 19, 3) := by decide +kernel
theorem dX5_closeTick_54 : decode cX5_closeTick 54 = .ok (.return_, 1) := by decide +kernel
theorem dX5_goOneTick_0 : decode cX5_goOneTick 0 = .ok (.aload_n 0, 1) := by decide +kernel
theorem dX5_goOneTick_1 : decode cX5_goOneTick 1 = .ok (.dup, 1) := by decide +kernel
theorem dX5_goOneTick_2 : decode cX5_goOneTick 2 = .ok (.getfield 108, 3) := by decide +kernel
theorem dX5_goOneTick_5 : decode cX5_goOneTick 5 = .ok (.iconst 1, 1) := by decide +kernel
theorem dX5_goOneTick_6 : decode cX5_goOneTick 6 = .ok (.iadd, 1) := by decide +kernel
theorem dX5_goOneTick_7 : decode cX5_goOneTick 7 = .ok (.putfield 108, 3) := by decide +kernel
theorem dX5_goOneTick_10 : decode cX5_goOneTick 10 = .ok (.aload_n 0, 1) := by decide +kernel
theorem dX5_goOneTick_11 : decode cX5_goOneTick 11 = .ok (.getfield 108, 3) := by decide +kernel
theorem dX5_goOneTick_14 : decode cX5_goOneTick 14 = .ok (.bipush 100, 2) := by decide +kernel
theorem dX5_goOneTick_16 : decode cX5_goOneTick 16 = .ok (.irem, 1) := by decide +kernel
theorem dX5_goOneTick_17 : decode cX5_goOneTick 17 = .ok (.ifCond .ne 7, 3) := by decide +kernel
theorem dX5_goOneTick_20 : decode cX5_goOneTick 20 = .ok (.aload_n 0, 1) := by decide +kernel
theorem dX5_goOneTick_21 : decode cX5_goOneTick 21 = .ok (.invokevirtual 283, 3) := by decide +kernel
theorem dX5_goOneTick_24 : decode cX5_goOneTick 24 = .ok (.aload_n 0, 1) := by decide +kernel
theorem dX5_goOneTick_25 : decode cX5_goOneTick 25 = .ok (.getfield 108, 3) := by decide +kernel
theorem dX5_goOneTick_28 : decode cX5_goOneTick 28 = .ok (.aload_n 0, 1) := by decide +kernel
theorem dX5_goOneTick_29 : decode cX5_goOneTick 29 = .ok (.getfield 48, 3) := by decide +kernel
theorem dX5_goOneTick_32 : decode cX5_goOneTick 32 = .ok (.if_icmp .le 7, 3) := by decide +kernel
theorem dX5_goOneTick_39 : decode cX5_goOneTick 39 = .ok (.aload_n 0, 1) := by decide +kernel
theorem dX5_goOneTick_40 : decode cX5_goOneTick 40 = .ok (.getfield 126, 3) := by decide +kernel
theorem dX5_goOneTick_43 : decode cX5_goOneTick 43 = .ok (.ifCond .eq 19, 3) := by decide +kernel
theorem dX5_goOneTick_62 : decode cX5_goOneTick 62 = .ok (.return_, 1) := by decide +kernel
theorem dX6_goesBy_0 : decode cX6_goesBy 0 = .ok (.aload_n 0, 1) := by decide +kernel
theorem dX6_goesBy_1 : decode cX6_goesBy 1 = .ok (.dup, 1) := by decide +kernel
theorem dX6_goesBy_2 : decode cX6_goesBy 2 = .ok (.getfield 152, 3) := by decide +kernel
theorem dX6_goesBy_5 : decode cX6_goesBy 5 = .ok (.iconst 1, 1) := by decide +kernel
theorem dX6_goesBy_6 : decode cX6_goesBy 6 = .ok (.iadd, 1) := by decide +kernel
theorem dX6_goesBy_7 : decode cX6_goesBy 7 = .ok (.putfield 152, 3) := by decide +kernel
theorem dX6_goesBy_10 : decode cX6_goesBy 10 = .ok (.iconst 0, 1) := by decide +kernel
theorem dX6_goesBy_11 : decode cX6_goesBy 11 = .ok (.istore_n 1, 1) := by decide +kernel
theorem dX6_goesBy_12 : decode cX6_goesBy 12 = .ok (.iload_n 1, 1) := by decide +kernel
theorem dX6_goesBy_13 : decode cX6_goesBy 13 = .ok (.aload_n 0, 1) := by decide +kernel
theorem dX6_goesBy_14 : decode cX6_goesBy 14 = .ok (.getfield 161, 3) := by decide +kernel
theorem dX6_goesBy_17 : decode cX6_goesBy 17 = .ok (.if_icmp .ge 46, 3) := by decide +kernel
theorem dX6_goesBy_63 : decode cX6_goesBy 63 = .ok (.aload_n 0, 1) := by decide +kernel
theorem dX6_goesBy_64 : decode cX6_goesBy 64 = .ok (.getfield 158, 3) := by decide +kernel
theorem dX6_goesBy_67 : decode cX6_goesBy 67 = .ok (.ifCond .eq 25, 3) := by decide +kernel
theorem dX6_goesBy_92 : decode cX6_goesBy 92 = .ok (.return_, 1) := by decide +kernel
theorem dX5_tick_0 : decode cX5_tick 0 = .ok (.iload_n 1, 1) := by decide +kernel
theorem dX5_tick_1 : decode cX5_tick 1 = .ok (.iconst 1, 1) := by decide +kernel
theorem dX5_tick_2 : decode cX5_tick 2 = .ok (.bipush 100, 2) := by decide +kernel
theorem dX5_tick_4 : decode cX5_tick 4 = .ok (.invokestatic 65, 3) := by decide +kernel
theorem dX5_tick_7 : decode cX5_tick 7 = .ok (.ifCond .eq 15, 3) := by decide +kernel
theorem dX5_tick_10 : decode cX5_tick 10 = .ok (.aload_n 0, 1) := by decide +kernel
theorem dX5_tick_11 : decode cX5_tick 11 = .ok (.getfield 108, 3) := by decide +kernel
theorem dX5_tick_14 : decode cX5_tick 14 = .ok (.sipush 10000, 3) := by decide +kernel
theorem dX5_tick_17 : decode cX5_tick 17 = .ok (.iload_n 1, 1) := by decide +kernel
theorem dX5_tick_18 : decode cX5_tick 18 = .ok (.isub, 1) := by decide +kernel
theorem dX5_tick_19 : decode cX5_tick 19 = .ok (.if_icmp .le 5, 3) := by decide +kernel
theorem dX5_tick_22 : decode cX5_tick 22 = .ok (.iconst (-1), 1) := by decide +kernel
theorem dX5_tick_23 : decode cX5_tick 23 = .ok (.ireturn, 1) := by decide +kernel
theorem dX5_tick_24 : decode cX5_tick 24 = .ok (.aload_n 0, 1) := by decide +kernel
theorem dX5_tick_25 : decode cX5_tick 25 = .ok (.invokevirtual 129, 3) := by decide +kernel
theorem dX5_tick_28 : decode cX5_tick 28 = .ok (.iconst 0, 1) := by decide +kernel
theorem dX5_tick_29 : decode cX5_tick 29 = .ok (.istore_n 2, 1) := by decide +kernel
theorem dX5_tick_30 : decode cX5_tick 30 = .ok (.iload_n 2, 1) := by decide +kernel
theorem dX5_tick_31 : decode cX5_tick 31 = .ok (.iload_n 1, 1) := by decide +kernel
theorem dX5_tick_32 : decode cX5_tick 32 = .ok (.if_icmp .ge 13, 3) := by decide +kernel
theorem dX5_tick_35 : decode cX5_tick 35 = .ok (.aload_n 0, 1) := by decide +kernel
theorem dX5_tick_36 : decode cX5_tick 36 = .ok (.invokevirtual 132, 3) := by decide +kernel
theorem dX5_tick_39 : decode cX5_tick 39 = .ok (.iinc 2 1, 3) := by decide +kernel
theorem dX5_tick_42 : decode cX5_tick 42 = .ok (.goto (-12), 3) := by decide +kernel
theorem dX5_tick_45 : decode cX5_tick 45 = .ok (.aload_n 0, 1) := by decide +kernel
theorem dX5_tick_46 : decode cX5_tick 46 = .ok (.getfield 108, 3) := by decide +kernel
theorem dX5_tick_49 : decode cX5_tick 49 = .ok (.ireturn, 1) := by decide +kernel
theorem dX6_tick_0 : decode cX6_tick 0 = .ok (.iload_n 1, 1) := by decide +kernel
theorem dX6_tick_1 : decode cX6_tick 1 = .ok (.iconst 1, 1) := by decide +kernel
theorem dX6_tick_2 : decode cX6_tick 2 = .ok (.bipush 100, 2) := by decide +kernel
theorem dX6_tick_4 : decode cX6_tick 4 = .ok (.invokestatic 136, 3) := by decide +kernel
theorem dX6_tick_7 : decode cX6_tick 7 = .ok (.ifCond .eq 15, 3) := by decide +kernel
theorem dX6_tick_10 : decode cX6_tick 10 = .ok (.aload_n 0, 1) := by decide +kernel
theorem dX6_tick_11 : decode cX6_tick 11 = .ok (.getfield 152, 3) := by decide +kernel
theorem dX6_tick_14 : decode cX6_tick 14 = .ok (.iload_n 1, 1) := by decide +kernel
theorem dX6_tick_15 : decode cX6_tick 15 = .ok (.iadd, 1) := by decide +kernel
theorem dX6_tick_16 : decode cX6_tick 16 = .ok (.sipush 10000, 3) := by decide +kernel
theorem dX6_tick_19 : decode cX6_tick 19 = .ok (.if_icmp .le 5, 3) := by decide +kernel
theorem dX6_tick_22 : decode cX6_tick 22 = .ok (.iconst (-1), 1) := by decide +kernel
theorem dX6_tick_23 : decode cX6_tick 23 = .ok (.ireturn, 1) := by decide +kernel
theorem dX6_tick_24 : decode cX6_tick 24 = .ok (.iconst 0, 1) := by decide +kernel
theorem dX6_tick_25 : decode cX6_tick 25 = .ok (.istore_n 2, 1) := by decide +kernel
theorem dX6_tick_26 : decode cX6_tick 26 = .ok (.iload_n 2, 1) := by decide +kernel
theorem dX6_tick_27 : decode cX6_tick 27 = .ok (.iload_n 1, 1) := by decide +kernel
theorem dX6_tick_28 : decode cX6_tick 28 = .ok (.if_icmp .ge 13, 3) := by decide +kernel
theorem dX6_tick_31 : decode cX6_tick 31 = .ok (.aload_n 0, 1) := by decide +kernel
theorem dX6_tick_32 : decode cX6_tick 32 = .ok (.invokevirtual 238, 3) := by decide +kernel
theorem dX6_tick_35 : decode cX6_tick 35 = .ok (.iinc 2 1, 3) := by decide +kernel
theorem dX6_tick_38 : decode cX6_tick 38 = .ok (.goto (-12), 3) := by decide +kernel
theorem dX6_tick_41 : decode cX6_tick 41 = .ok (.aload_n 0, 1) := by decide +kernel
theorem dX6_tick_42 : decode cX6_tick 42 = .ok (.getfield 152, 3) := by decide +kernel
theorem dX6_tick_45 : decode cX6_tick 45 = .ok (.ireturn, 1) := by decide +kernel
theorem dX5_marks_0 : decode cX5_marks 0 = .ok (.iload_n 1, 1) := by decide +kernel
theorem dX5_marks_1 : decode cX5_marks 1 = .ok (.invokestatic 61, 3) := by decide +kernel
theorem dX5_marks_4 : decode cX5_marks 4 = .ok (.ifCond .eq 14, 3) := by decide +kernel
theorem dX5_marks_7 : decode cX5_marks 7 = .ok (.iload_n 2, 1) := by decide +kernel
theorem dX5_marks_8 : decode cX5_marks 8 = .ok (.iconst 0, 1) := by decide +kernel
theorem dX5_marks_9 : decode cX5_marks 9 = .ok (.sipush 4095, 3) := by decide +kernel
theorem dX5_marks_12 : decode cX5_marks 12 = .ok (.invokestatic 65, 3) := by decide +kernel
theorem dX5_marks_15 : decode cX5_marks 15 = .ok (.ifCond .ne 5, 3) := by decide +kernel
theorem dX5_marks_18 : decode cX5_marks 18 = .ok (.iconst (-1), 1) := by decide +kernel
theorem dX5_marks_19 : decode cX5_marks 19 = .ok (.ireturn, 1) := by decide +kernel
theorem dX5_marks_20 : decode cX5_marks 20 = .ok (.aload_n 0, 1) := by decide +kernel
theorem dX5_marks_21 : decode cX5_marks 21 = .ok (.getfield 27, 3) := by decide +kernel
theorem dX5_marks_24 : decode cX5_marks 24 = .ok (.iload_n 1, 1) := by decide +kernel
theorem dX5_marks_25 : decode cX5_marks 25 = .ok (.iaload, 1) := by decide +kernel
theorem dX5_marks_26 : decode cX5_marks 26 = .ok (.istore_n 3, 1) := by decide +kernel
theorem dX5_marks_27 : decode cX5_marks 27 = .ok (.aload_n 0, 1) := by decide +kernel
theorem dX5_marks_28 : decode cX5_marks 28 = .ok (.getfield 27, 3) := by decide +kernel
theorem dX5_marks_31 : decode cX5_marks 31 = .ok (.iload_n 1, 1) := by decide +kernel
theorem dX5_marks_32 : decode cX5_marks 32 = .ok (.iload_n 2, 1) := by decide +kernel
theorem dX5_marks_33 : decode cX5_marks 33 = .ok (.iastore, 1) := by decide +kernel
theorem dX5_marks_34 : decode cX5_marks 34 = .ok (.iload_n 3, 1) := by decide +kernel
theorem dX5_marks_35 : decode cX5_marks 35 = .ok (.ireturn, 1) := by decide +kernel
theorem dX6_marks_0 : decode cX6_marks 0 = .ok (.iload_n 1, 1) := by decide +kernel
theorem dX6_marks_1 : decode cX6_marks 1 = .ok (.invokestatic 143, 3) := by decide +kernel
theorem dX6_marks_4 : decode cX6_marks 4 = .ok (.ifCond .eq 14, 3) := by decide +kernel
theorem dX6_marks_7 : decode cX6_marks 7 = .ok (.iload_n 2, 1) := by decide +kernel
theorem dX6_marks_8 : decode cX6_marks 8 = .ok (.iconst 0, 1) := by decide +kernel
theorem dX6_marks_9 : decode cX6_marks 9 = .ok (.sipush 4095, 3) := by decide +kernel
theorem dX6_marks_12 : decode cX6_marks 12 = .ok (.invokestatic 136, 3) := by decide +kernel
theorem dX6_marks_15 : decode cX6_marks 15 = .ok (.ifCond .ne 5, 3) := by decide +kernel
theorem dX6_marks_18 : decode cX6_marks 18 = .ok (.iconst (-1), 1) := by decide +kernel
theorem dX6_marks_19 : decode cX6_marks 19 = .ok (.ireturn, 1) := by decide +kernel
theorem dX6_marks_20 : decode cX6_marks 20 = .ok (.aload_n 0, 1) := by decide +kernel
theorem dX6_marks_21 : decode cX6_marks 21 = .ok (.getfield 20, 3) := by decide +kernel
theorem dX6_marks_24 : decode cX6_marks 24 = .ok (.iload_n 1, 1) := by decide +kernel
theorem dX6_marks_25 : decode cX6_marks 25 = .ok (.iaload, 1) := by decide +kernel
theorem dX6_marks_26 : decode cX6_marks 26 = .ok (.istore_n 3, 1) := by decide +kernel
theorem dX6_marks_27 : decode cX6_marks 27 = .ok (.aload_n 0, 1) := by decide +kernel
theorem dX6_marks_28 : decode cX6_marks 28 = .ok (.getfield 20, 3) := by decide +kernel
theorem dX6_marks_31 : decode cX6_marks 31 = .ok (.iload_n 1, 1) := by decide +kernel
theorem dX6_marks_32 : decode cX6_marks 32 = .ok (.iload_n 2, 1) := by decide +kernel
theorem dX6_marks_33 : decode cX6_marks 33 = .ok (.iastore, 1) := by decide +kernel
theorem dX6_marks_34 : decode cX6_marks 34 = .ok (.iload_n 3, 1) := by decide +kernel
theorem dX6_marks_35 : decode cX6_marks 35 = .ok (.ireturn, 1) := by decide +kernel
theorem dX5_placesIn_0 : decode cX5_placesIn 0 = .ok (.iconst 0, 1) := by decide +kernel
theorem dX5_placesIn_1 : decode cX5_placesIn 1 = .ok (.istore_n 1, 1) := by decide +kernel
theorem dX5_placesIn_2 : decode cX5_placesIn 2 = .ok (.iload_n 0, 1) := by decide +kernel
theorem dX5_placesIn_3 : decode cX5_placesIn 3 = .ok (.istore_n 2, 1) := by decide +kernel
theorem dX5_placesIn_4 : decode cX5_placesIn 4 = .ok (.iload_n 2, 1) := by decide +kernel
theorem dX5_placesIn_5 : decode cX5_placesIn 5 = .ok (.ifCond .le 36, 3) := by decide +kernel
theorem dX5_placesIn_8 : decode cX5_placesIn 8 = .ok (.iload_n 1, 1) := by decide +kernel
theorem dX5_placesIn_9 : decode cX5_placesIn 9 = .ok (.iconst 4, 1) := by decide +kernel
theorem dX5_placesIn_10 : decode cX5_placesIn 10 = .ok (.if_icmp .ge 31, 3) := by decide +kernel
theorem dX5_placesIn_13 : decode cX5_placesIn 13 = .ok (.iload_n 2, 1) := by decide +kernel
theorem dX5_placesIn_14 : decode cX5_placesIn 14 = .ok (.sipush 128, 3) := by decide +kernel
theorem dX5_placesIn_17 : decode cX5_placesIn 17 = .ok (.irem, 1) := by decide +kernel
theorem dX5_placesIn_18 : decode cX5_placesIn 18 = .ok (.iconst 1, 1) := by decide +kernel
theorem dX5_placesIn_19 : decode cX5_placesIn 19 = .ok (.bipush 100, 2) := by decide +kernel
theorem dX5_placesIn_21 : decode cX5_placesIn 21 = .ok (.invokestatic 65, 3) := by decide +kernel
theorem dX5_placesIn_24 : decode cX5_placesIn 24 = .ok (.ifCond .ne 5, 3) := by decide +kernel
theorem dX5_placesIn_27 : decode cX5_placesIn 27 = .ok (.iconst 0, 1) := by decide +kernel
theorem dX5_placesIn_28 : decode cX5_placesIn 28 = .ok (.ireturn, 1) := by decide +kernel
theorem dX5_placesIn_29 : decode cX5_placesIn 29 = .ok (.iload_n 2, 1) := by decide +kernel
theorem dX5_placesIn_30 : decode cX5_placesIn 30 = .ok (.sipush 128, 3) := by decide +kernel
theorem dX5_placesIn_33 : decode cX5_placesIn 33 = .ok (.idiv, 1) := by decide +kernel
theorem dX5_placesIn_34 : decode cX5_placesIn 34 = .ok (.istore_n 2, 1) := by decide +kernel
theorem dX5_placesIn_35 : decode cX5_placesIn 35 = .ok (.iinc 1 1, 3) := by decide +kernel
theorem dX5_placesIn_38 : decode cX5_placesIn 38 = .ok (.goto (-34), 3) := by decide +kernel
theorem dX5_placesIn_41 : decode cX5_placesIn 41 = .ok (.iload_n 2, 1) := by decide +kernel
theorem dX5_placesIn_42 : decode cX5_placesIn 42 = .ok (.ifCond .ne 7, 3) := by decide +kernel
theorem dX5_placesIn_45 : decode cX5_placesIn 45 = .ok (.iload_n 1, 1) := by decide +kernel
theorem dX5_placesIn_46 : decode cX5_placesIn 46 = .ok (.goto 4, 3) := by decide +kernel
theorem dX5_placesIn_49 : decode cX5_placesIn 49 = .ok (.iconst 0, 1) := by decide +kernel
theorem dX5_placesIn_50 : decode cX5_placesIn 50 = .ok (.ireturn, 1) := by decide +kernel
theorem dX2_init_0 : decode cX2_init 0 = .ok (.aload_n 0, 1) := by decide +kernel
theorem dX2_init_1 : decode cX2_init 1 = .ok (.invokespecial 3, 3) := by decide +kernel
theorem dX2_init_4 : decode cX2_init 4 = .ok (.aload_n 0, 1) := by decide +kernel
theorem dX2_init_5 : decode cX2_init 5 = .ok (.iconst 4, 1) := by decide +kernel
theorem dX2_init_6 : decode cX2_init 6 = .ok (.newarray .int, 2) := by decide +kernel
theorem dX2_init_8 : decode cX2_init 8 = .ok (.putfield 9, 3) := by decide +kernel
theorem dX2_init_11 : decode cX2_init 11 = .ok (.aload_n 0, 1) := by decide +kernel
theorem dX2_init_12 : decode cX2_init 12 = .ok (.iload_n 2, 1) := by decide +kernel
theorem dX2_init_13 : decode cX2_init 13 = .ok (.putfield 15, 3) := by decide +kernel
theorem dX2_init_16 : decode cX2_init 16 = .ok (.iload_n 1, 1) := by decide +kernel
theorem dX2_init_17 : decode cX2_init 17 = .ok (.istore_n 3, 1) := by decide +kernel
theorem dX2_init_18 : decode cX2_init 18 = .ok (.iload_n 2, 1) := by decide +kernel
theorem dX2_init_19 : decode cX2_init 19 = .ok (.iconst 4, 1) := by decide +kernel
theorem dX2_init_20 : decode cX2_init 20 = .ok (.invokestatic 19, 3) := by decide +kernel
theorem dX2_init_23 : decode cX2_init 23 = .ok (.iconst 1, 1) := by decide +kernel
theorem dX2_init_24 : decode cX2_init 24 = .ok (.isub, 1) := by decide +kernel
theorem dX2_init_25 : decode cX2_init 25 = .ok (.istore 4, 2) := by decide +kernel
theorem dX2_init_27 : decode cX2_init 27 = .ok (.iload 4, 2) := by decide +kernel
theorem dX2_init_29 : decode cX2_init 29 = .ok (.ifCond .lt 27, 3) := by decide +kernel
theorem dX2_init_32 : decode cX2_init 32 = .ok (.aload_n 0, 1) := by decide +kernel
theorem dX2_init_33 : decode cX2_init 33 = .ok (.getfield 9, 3) := by decide +kernel
theorem dX2_init_36 : decode cX2_init 36 = .ok (.iload 4, 2) := by decide +kernel
theorem dX2_init_38 : decode cX2_init 38 = .ok (.iload_n 3, 1) := by decide +kernel
theorem dX2_init_39 : decode cX2_init 39 = .ok (.sipush 128, 3) := by decide +kernel
theorem dX2_init_42 : decode cX2_init 42 = .ok (.irem, 1) := by decide +kernel
theorem dX2_init_43 : decode cX2_init 43 = .ok (.iastore, 1) := by decide +kernel
theorem dX2_init_44 : decode cX2_init 44 = .ok (.iload_n 3, 1) := by decide +kernel
theorem dX2_init_45 : decode cX2_init 45 = .ok (.sipush 128, 3) := by decide +kernel
theorem dX2_init_48 : decode cX2_init 48 = .ok (.idiv, 1) := by decide +kernel
theorem dX2_init_49 : decode cX2_init 49 = .ok (.istore_n 3, 1) := by decide +kernel
theorem dX2_init_50 : decode cX2_init 50 = .ok (.iinc 4 (-1), 3) := by decide +kernel
theorem dX2_init_53 : decode cX2_init 53 = .ok (.goto (-26), 3) := by decide +kernel
theorem dX2_init_56 : decode cX2_init 56 = .ok (.return_, 1) := by decide +kernel
theorem dX5_page_0 : decode cX5_page 0 = .ok (.iload_n 1, 1) := by decide +kernel
theorem dX5_page_1 : decode cX5_page 1 = .ok (.invokestatic 51, 3) := by decide +kernel
theorem dX5_page_4 : decode cX5_page 4 = .ok (.istore_n 2, 1) := by decide +kernel
theorem dX5_page_5 : decode cX5_page 5 = .ok (.iload_n 2, 1) := by decide +kernel
theorem dX5_page_6 : decode cX5_page 6 = .ok (.ifCond .ne 5, 3) := by decide +kernel
theorem dX5_page_9 : decode cX5_page 9 = .ok (.iconst (-1), 1) := by decide +kernel
theorem dX5_page_10 : decode cX5_page 10 = .ok (.ireturn, 1) := by decide +kernel
theorem dX5_page_11 : decode cX5_page 11 = .ok (.aload_n 0, 1) := by decide +kernel
theorem dX5_page_12 : decode cX5_page 12 = .ok (.getfield 55, 3) := by decide +kernel
theorem dX5_page_15 : decode cX5_page 15 = .ok (.bipush 8, 2) := by decide +kernel
theorem dX5_page_17 : decode cX5_page 17 = .ok (.if_icmp .lt 6, 3) := by decide +kernel
theorem dX5_page_23 : decode cX5_page 23 = .ok (.aload_n 0, 1) := by decide +kernel
theorem dX5_page_24 : decode cX5_page 24 = .ok (.getfield 11, 3) := by decide +kernel
theorem dX5_page_27 : decode cX5_page 27 = .ok (.aload_n 0, 1) := by decide +kernel
theorem dX5_page_28 : decode cX5_page 28 = .ok (.getfield 55, 3) := by decide +kernel
theorem dX5_page_31 : decode cX5_page 31 = .ok (.new 9, 3) := by decide +kernel
theorem dX5_page_34 : decode cX5_page 34 = .ok (.dup, 1) := by decide +kernel
theorem dX5_page_35 : decode cX5_page 35 = .ok (.iload_n 1, 1) := by decide +kernel
theorem dX5_page_36 : decode cX5_page 36 = .ok (.iload_n 2, 1) := by decide +kernel
theorem dX5_page_37 : decode cX5_page 37 = .ok (.invokespecial 58, 3) := by decide +kernel
theorem dX5_page_40 : decode cX5_page 40 = .ok (.aastore, 1) := by decide +kernel
theorem dX5_page_41 : decode cX5_page 41 = .ok (.aload_n 0, 1) := by decide +kernel
theorem dX5_page_42 : decode cX5_page 42 = .ok (.dup, 1) := by decide +kernel
theorem dX5_page_43 : decode cX5_page 43 = .ok (.getfield 55, 3) := by decide +kernel
theorem dX5_page_46 : decode cX5_page 46 = .ok (.iconst 1, 1) := by decide +kernel
theorem dX5_page_47 : decode cX5_page 47 = .ok (.iadd, 1) := by decide +kernel
theorem dX5_page_48 : decode cX5_page 48 = .ok (.putfield 55, 3) := by decide +kernel
theorem dX5_page_51 : decode cX5_page 51 = .ok (.aload_n 0, 1) := by decide +kernel
theorem dX5_page_52 : decode cX5_page 52 = .ok (.getfield 55, 3) := by decide +kernel
theorem dX5_page_55 : decode cX5_page 55 = .ok (.iconst 1, 1) := by decide +kernel
theorem dX5_page_56 : decode cX5_page 56 = .ok (.isub, 1) := by decide +kernel
theorem dX5_page_57 : decode cX5_page 57 = .ok (.ireturn, 1) := by decide +kernel
theorem dX4_init_0 : decode cX4_init 0 = .ok (.aload_n 0, 1) := by decide +kernel
theorem dX4_init_1 : decode cX4_init 1 = .ok (.invokespecial 3, 3) := by decide +kernel
theorem dX4_init_4 : decode cX4_init 4 = .ok (.return_, 1) := by decide +kernel
theorem dX0_init_0 : decode cX0_init 0 = .ok (.aload_n 0, 1) := by decide +kernel
theorem dX0_init_1 : decode cX0_init 1 = .ok (.invokespecial 3, 3) := by decide +kernel
theorem dX0_init_4 : decode cX0_init 4 = .ok (.aload_n 0, 1) := by decide +kernel
theorem dX0_init_5 : decode cX0_init 5 = .ok (.new 9, 3) := by decide +kernel
theorem dX0_init_8 : decode cX0_init 8 = .ok (.dup, 1) := by decide +kernel
theorem dX0_init_9 : decode cX0_init 9 = .ok (.invokespecial 11, 3) := by decide +kernel
theorem dX0_init_12 : decode cX0_init 12 = .ok (.putfield 12, 3) := by decide +kernel
theorem dX0_init_15 : decode cX0_init 15 = .ok (.aload_n 0, 1) := by decide +kernel
theorem dX0_init_16 : decode cX0_init 16 = .ok (.bipush 9, 2) := by decide +kernel
theorem dX0_init_18 : decode cX0_init 18 = .ok (.putfield 18, 3) := by decide +kernel
theorem dX0_init_21 : decode cX0_init 21 = .ok (.aload_n 0, 1) := by decide +kernel
theorem dX0_init_22 : decode cX0_init 22 = .ok (.iconst 1, 1) := by decide +kernel
theorem dX0_init_23 : decode cX0_init 23 = .ok (.putfield 22, 3) := by decide +kernel
theorem dX0_init_26 : decode cX0_init 26 = .ok (.aload_n 0, 1) := by decide +kernel
theorem dX0_init_27 : decode cX0_init 27 = .ok (.sipush 1000, 3) := by decide +kernel
theorem dX0_init_30 : decode cX0_init 30 = .ok (.putfield 25, 3) := by decide +kernel
theorem dX0_init_33 : decode cX0_init 33 = .ok (.aload_n 0, 1) := by decide +kernel
theorem dX0_init_34 : decode cX0_init 34 = .ok (.iload_n 1, 1) := by decide +kernel
theorem dX0_init_35 : decode cX0_init 35 = .ok (.bipush 10, 2) := by decide +kernel
theorem dX0_init_37 : decode cX0_init 37 = .ok (.idiv, 1) := by decide +kernel
theorem dX0_init_38 : decode cX0_init 38 = .ok (.putfield 28, 3) := by decide +kernel
theorem dX0_init_41 : decode cX0_init 41 = .ok (.aload_n 0, 1) := by decide +kernel
theorem dX0_init_42 : decode cX0_init 42 = .ok (.iload_n 1, 1) := by decide +kernel
theorem dX0_init_43 : decode cX0_init 43 = .ok (.bipush 10, 2) := by decide +kernel
theorem dX0_init_45 : decode cX0_init 45 = .ok (.irem, 1) := by decide +kernel
theorem dX0_init_46 : decode cX0_init 46 = .ok (.iconst 1, 1) := by decide +kernel
theorem dX0_init_47 : decode cX0_init 47 = .ok (.if_icmp .ne 7, 3) := by decide +kernel
theorem dX0_init_50 : decode cX0_init 50 = .ok (.iconst 1, 1) := by decide +kernel
theorem dX0_init_51 : decode cX0_init 51 = .ok (.goto 4, 3) := by decide +kernel
theorem dX0_init_54 : decode cX0_init 54 = .ok (.iconst 0, 1) := by decide +kernel
theorem dX0_init_55 : decode cX0_init 55 = .ok (.putfield 31, 3) := by decide +kernel
theorem dX0_init_58 : decode cX0_init 58 = .ok (.aload_n 0, 1) := by decide +kernel
theorem dX0_init_59 : decode cX0_init 59 = .ok (.iload_n 2, 1) := by decide +kernel
theorem dX0_init_60 : decode cX0_init 60 = .ok (.sipush 4096, 3) := by decide +kernel
theorem dX0_init_63 : decode cX0_init 63 = .ok (.idiv, 1) := by decide +kernel
theorem dX0_init_64 : decode cX0_init 64 = .ok (.putfield 35, 3) := by decide +kernel
theorem dX0_init_67 : decode cX0_init 67 = .ok (.aload_n 0, 1) := by decide +kernel
theorem dX0_init_68 : decode cX0_init 68 = .ok (.iload_n 2, 1) := by decide +kernel
theorem dX0_init_69 : decode cX0_init 69 = .ok (.sipush 4096, 3) := by decide +kernel
theorem dX0_init_72 : decode cX0_init 72 = .ok (.irem, 1) := by decide +kernel
theorem dX0_init_73 : decode cX0_init 73 = .ok (.putfield 38, 3) := by decide +kernel
theorem dX0_init_76 : decode cX0_init 76 = .ok (.aload_n 0, 1) := by decide +kernel
theorem dX0_init_77 : decode cX0_init 77 = .ok (.iload_n 3, 1) := by decide +kernel
theorem dX0_init_78 : decode cX0_init 78 = .ok (.putfield 41, 3) := by decide +kernel
theorem dX0_init_81 : decode cX0_init 81 = .ok (.return_, 1) := by decide +kernel
theorem dX5_campaign_0 : decode cX5_campaign 0 = .ok (.iload_n 1, 1) := by decide +kernel
theorem dX5_campaign_1 : decode cX5_campaign 1 = .ok (.invokestatic 69, 3) := by decide +kernel
theorem dX5_campaign_4 : decode cX5_campaign 4 = .ok (.ifCond .eq 21, 3) := by decide +kernel
theorem dX5_campaign_7 : decode cX5_campaign 7 = .ok (.iload_n 2, 1) := by decide +kernel
theorem dX5_campaign_8 : decode cX5_campaign 8 = .ok (.invokestatic 72, 3) := by decide +kernel
theorem dX5_campaign_11 : decode cX5_campaign 11 = .ok (.ifCond .eq 14, 3) := by decide +kernel
theorem dX5_campaign_14 : decode cX5_campaign 14 = .ok (.iload_n 1, 1) := by decide +kernel
theorem dX5_campaign_15 : decode cX5_campaign 15 = .ok (.bipush 10, 2) := by decide +kernel
theorem dX5_campaign_17 : decode cX5_campaign 17 = .ok (.idiv, 1) := by decide +kernel
theorem dX5_campaign_18 : decode cX5_campaign 18 = .ok (.iload_n 3, 1) := by decide +kernel
theorem dX5_campaign_19 : decode cX5_campaign 19 = .ok (.invokestatic 75, 3) := by decide +kernel
theorem dX5_campaign_22 : decode cX5_campaign 22 = .ok (.ifCond .ne 5, 3) := by decide +kernel
theorem dX5_campaign_25 : decode cX5_campaign 25 = .ok (.iconst (-1), 1) := by decide +kernel
theorem dX5_campaign_26 : decode cX5_campaign 26 = .ok (.ireturn, 1) := by decide +kernel
theorem dX5_campaign_27 : decode cX5_campaign 27 = .ok (.aload_n 0, 1) := by decide +kernel
theorem dX5_campaign_28 : decode cX5_campaign 28 = .ok (.getfield 79, 3) := by decide +kernel
theorem dX5_campaign_31 : decode cX5_campaign 31 = .ok (.bipush 40, 2) := by decide +kernel
theorem dX5_campaign_33 : decode cX5_campaign 33 = .ok (.if_icmp .lt 6, 3) := by decide +kernel
theorem dX5_campaign_39 : decode cX5_campaign 39 = .ok (.aload_n 0, 1) := by decide +kernel
theorem dX5_campaign_40 : decode cX5_campaign 40 = .ok (.getfield 17, 3) := by decide +kernel
theorem dX5_campaign_43 : decode cX5_campaign 43 = .ok (.aload_n 0, 1) := by decide +kernel
theorem dX5_campaign_44 : decode cX5_campaign 44 = .ok (.getfield 79, 3) := by decide +kernel
theorem dX5_campaign_47 : decode cX5_campaign 47 = .ok (.new 15, 3) := by decide +kernel
theorem dX5_campaign_50 : decode cX5_campaign 50 = .ok (.dup, 1) := by decide +kernel
theorem dX5_campaign_51 : decode cX5_campaign 51 = .ok (.iload_n 1, 1) := by decide +kernel
theorem dX5_campaign_52 : decode cX5_campaign 52 = .ok (.iload_n 2, 1) := by decide +kernel
theorem dX5_campaign_53 : decode cX5_campaign 53 = .ok (.iload_n 3, 1) := by decide +kernel
theorem dX5_campaign_54 : decode cX5_campaign 54 = .ok (.invokespecial 82, 3) := by decide +kernel
theorem dX5_campaign_57 : decode cX5_campaign 57 = .ok (.aastore, 1) := by decide +kernel
theorem dX5_campaign_58 : decode cX5_campaign 58 = .ok (.aload_n 0, 1) := by decide +kernel
theorem dX5_campaign_59 : decode cX5_campaign 59 = .ok (.dup, 1) := by decide +kernel
theorem dX5_campaign_60 : decode cX5_campaign 60 = .ok (.getfield 79, 3) := by decide +kernel
theorem dX5_campaign_63 : decode cX5_campaign 63 = .ok (.iconst 1, 1) := by decide +kernel
theorem dX5_campaign_64 : decode cX5_campaign 64 = .ok (.iadd, 1) := by decide +kernel
theorem dX5_campaign_65 : decode cX5_campaign 65 = .ok (.putfield 79, 3) := by decide +kernel
theorem dX5_campaign_68 : decode cX5_campaign 68 = .ok (.aload_n 0, 1) := by decide +kernel
theorem dX5_campaign_69 : decode cX5_campaign 69 = .ok (.getfield 79, 3) := by decide +kernel
theorem dX5_campaign_72 : decode cX5_campaign 72 = .ok (.iconst 1, 1) := by decide +kernel
theorem dX5_campaign_73 : decode cX5_campaign 73 = .ok (.isub, 1) := by decide +kernel
theorem dX5_campaign_74 : decode cX5_campaign 74 = .ok (.ireturn, 1) := by decide +kernel
theorem dX6_campaign_0 : decode cX6_campaign 0 = .ok (.iload_n 1, 1) := by decide +kernel
theorem dX6_campaign_1 : decode cX6_campaign 1 = .ok (.bipush 10, 2) := by decide +kernel
theorem dX6_campaign_3 : decode cX6_campaign 3 = .ok (.idiv, 1) := by decide +kernel
theorem dX6_campaign_4 : decode cX6_campaign 4 = .ok (.istore 4, 2) := by decide +kernel
theorem dX6_campaign_6 : decode cX6_campaign 6 = .ok (.iload_n 1, 1) := by decide +kernel
theorem dX6_campaign_7 : decode cX6_campaign 7 = .ok (.ifCond .lt 72, 3) := by decide +kernel
theorem dX6_campaign_10 : decode cX6_campaign 10 = .ok (.iload 4, 2) := by decide +kernel
theorem dX6_campaign_12 : decode cX6_campaign 12 = .ok (.iconst 0, 1) := by decide +kernel
theorem dX6_campaign_13 : decode cX6_campaign 13 = .ok (.iconst 2, 1) := by decide +kernel
theorem dX6_campaign_14 : decode cX6_campaign 14 = .ok (.invokestatic 136, 3) := by decide +kernel
theorem dX6_campaign_17 : decode cX6_campaign 17 = .ok (.ifCond .eq 62, 3) := by decide +kernel
theorem dX6_campaign_20 : decode cX6_campaign 20 = .ok (.iload_n 1, 1) := by decide +kernel
theorem dX6_campaign_21 : decode cX6_campaign 21 = .ok (.bipush 10, 2) := by decide +kernel
theorem dX6_campaign_23 : decode cX6_campaign 23 = .ok (.irem, 1) := by decide +kernel
theorem dX6_campaign_24 : decode cX6_campaign 24 = .ok (.iconst 0, 1) := by decide +kernel
theorem dX6_campaign_25 : decode cX6_campaign 25 = .ok (.iload 4, 2) := by decide +kernel
theorem dX6_campaign_27 : decode cX6_campaign 27 = .ok (.ifCond .ne 7, 3) := by decide +kernel
theorem dX6_campaign_30 : decode cX6_campaign 30 = .ok (.iconst 1, 1) := by decide +kernel
theorem dX6_campaign_31 : decode cX6_campaign 31 = .ok (.goto 4, 3) := by decide +kernel
theorem dX6_campaign_34 : decode cX6_campaign 34 = .ok (.iconst 0, 1) := by decide +kernel
theorem dX6_campaign_35 : decode cX6_campaign 35 = .ok (.invokestatic 136, 3) := by decide +kernel
theorem dX6_campaign_38 : decode cX6_campaign 38 = .ok (.ifCond .eq 41, 3) := by decide +kernel
theorem dX6_campaign_41 : decode cX6_campaign 41 = .ok (.iload_n 2, 1) := by decide +kernel
theorem dX6_campaign_42 : decode cX6_campaign 42 = .ok (.iconst 0, 1) := by decide +kernel
theorem dX6_campaign_43 : decode cX6_campaign 43 = .ok (.ldc 147, 2) := by decide +kernel
theorem dX6_campaign_45 : decode cX6_campaign 45 = .ok (.invokestatic 136, 3) := by decide +kernel
theorem dX6_campaign_48 : decode cX6_campaign 48 = .ok (.ifCond .eq 31, 3) := by decide +kernel
theorem dX6_campaign_51 : decode cX6_campaign 51 = .ok (.iload 4, 2) := by decide +kernel
theorem dX6_campaign_53 : decode cX6_campaign 53 = .ok (.iconst 2, 1) := by decide +kernel
theorem dX6_campaign_54 : decode cX6_campaign 54 = .ok (.if_icmp .ne 10, 3) := by decide +kernel
theorem dX6_campaign_57 : decode cX6_campaign 57 = .ok (.iload_n 3, 1) := by decide +kernel
theorem dX6_campaign_58 : decode cX6_campaign 58 = .ok (.ifCond .ne 21, 3) := by decide +kernel
theorem dX6_campaign_61 : decode cX6_campaign 61 = .ok (.goto 14, 3) := by decide +kernel
theorem dX6_campaign_64 : decode cX6_campaign 64 = .ok (.iload_n 3, 1) := by decide +kernel
theorem dX6_campaign_65 : decode cX6_campaign 65 = .ok (.iconst 1, 1) := by decide +kernel
theorem dX6_campaign_66 : decode cX6_campaign 66 = .ok (.sipush 1000, 3) := by decide +kernel
theorem dX6_campaign_69 : decode cX6_campaign 69 = .ok (.invokestatic 136, 3) := by decide +kernel
theorem dX6_campaign_72 : decode cX6_campaign 72 = .ok (.ifCond .eq 7, 3) := by decide +kernel
theorem dX6_campaign_75 : decode cX6_campaign 75 = .ok (.iconst 1, 1) := by decide +kernel
theorem dX6_campaign_76 : decode cX6_campaign 76 = .ok (.goto 4, 3) := by decide +kernel
theorem dX6_campaign_79 : decode cX6_campaign 79 = .ok (.iconst 0, 1) := by decide +kernel
theorem dX6_campaign_80 : decode cX6_campaign 80 = .ok (.istore 5, 2) := by decide +kernel
theorem dX6_campaign_82 : decode cX6_campaign 82 = .ok (.iload 5, 2) := by decide +kernel
theorem dX6_campaign_84 : decode cX6_campaign 84 = .ok (.ifCond .eq 17, 3) := by decide +kernel
theorem dX6_campaign_87 : decode cX6_campaign 87 = .ok (.iload_n 2, 1) := by decide +kernel
theorem dX6_campaign_88 : decode cX6_campaign 88 = .ok (.sipush 4096, 3) := by decide +kernel
theorem dX6_campaign_91 : decode cX6_campaign 91 = .ok (.idiv, 1) := by decide +kernel
theorem dX6_campaign_92 : decode cX6_campaign 92 = .ok (.iload_n 2, 1) := by decide +kernel
theorem dX6_campaign_93 : decode cX6_campaign 93 = .ok (.sipush 4096, 3) := by decide +kernel
theorem dX6_campaign_96 : decode cX6_campaign 96 = .ok (.irem, 1) := by decide +kernel
theorem dX6_campaign_97 : decode cX6_campaign 97 = .ok (.iand, 1) := by decide +kernel
theorem dX6_campaign_98 : decode cX6_campaign 98 = .ok (.ifCond .eq 5, 3) := by decide +kernel
theorem dX6_campaign_101 : decode cX6_campaign 101 = .ok (.iconst (-1), 1) := by decide +kernel
theorem dX6_campaign_102 : decode cX6_campaign 102 = .ok (.ireturn, 1) := by decide +kernel
theorem dX6_campaign_103 : decode cX6_campaign 103 = .ok (.aload_n 0, 1) := by decide +kernel
theorem dX6_campaign_104 : decode cX6_campaign 104 = .ok (.getfield 140, 3) := by decide +kernel
theorem dX6_campaign_107 : decode cX6_campaign 107 = .ok (.bipush 40, 2) := by decide +kernel
theorem dX6_campaign_109 : decode cX6_campaign 109 = .ok (.if_icmp .ne 6, 3) := by decide +kernel
theorem dX6_campaign_115 : decode cX6_campaign 115 = .ok (.aload_n 0, 1) := by decide +kernel
theorem dX6_campaign_116 : decode cX6_campaign 116 = .ok (.getfield 140, 3) := by decide +kernel
theorem dX6_campaign_119 : decode cX6_campaign 119 = .ok (.istore 6, 2) := by decide +kernel
theorem dX6_campaign_121 : decode cX6_campaign 121 = .ok (.aload_n 0, 1) := by decide +kernel
theorem dX6_campaign_122 : decode cX6_campaign 122 = .ok (.getfield 23, 3) := by decide +kernel
theorem dX6_campaign_125 : decode cX6_campaign 125 = .ok (.iload 6, 2) := by decide +kernel
theorem dX6_campaign_127 : decode cX6_campaign 127 = .ok (.iload 4, 2) := by decide +kernel
theorem dX6_campaign_129 : decode cX6_campaign 129 = .ok (.iastore, 1) := by decide +kernel
theorem dX6_campaign_130 : decode cX6_campaign 130 = .ok (.aload_n 0, 1) := by decide +kernel
theorem dX6_campaign_131 : decode cX6_campaign 131 = .ok (.getfield 26, 3) := by decide +kernel
theorem dX6_campaign_134 : decode cX6_campaign 134 = .ok (.iload 6, 2) := by decide +kernel
theorem dX6_campaign_136 : decode cX6_campaign 136 = .ok (.iload_n 1, 1) := by decide +kernel
theorem dX6_campaign_137 : decode cX6_campaign 137 = .ok (.bipush 10, 2) := by decide +kernel
theorem dX6_campaign_139 : decode cX6_campaign 139 = .ok (.irem, 1) := by decide +kernel
theorem dX6_campaign_140 : decode cX6_campaign 140 = .ok (.iastore, 1) := by decide +kernel
theorem dX6_campaign_141 : decode cX6_campaign 141 = .ok (.aload_n 0, 1) := by decide +kernel
theorem dX6_campaign_142 : decode cX6_campaign 142 = .ok (.getfield 29, 3) := by decide +kernel
theorem dX6_campaign_145 : decode cX6_campaign 145 = .ok (.iload 6, 2) := by decide +kernel
theorem dX6_campaign_147 : decode cX6_campaign 147 = .ok (.iload_n 2, 1) := by decide +kernel
theorem dX6_campaign_148 : decode cX6_campaign 148 = .ok (.sipush 4096, 3) := by decide +kernel
theorem dX6_campaign_151 : decode cX6_campaign 151 = .ok (.idiv, 1) := by decide +kernel
theorem dX6_campaign_152 : decode cX6_campaign 152 = .ok (.iastore, 1) := by decide +kernel
theorem dX6_campaign_153 : decode cX6_campaign 153 = .ok (.aload_n 0, 1) := by decide +kernel
theorem dX6_campaign_154 : decode cX6_campaign 154 = .ok (.getfield 32, 3) := by decide +kernel
theorem dX6_campaign_157 : decode cX6_campaign 157 = .ok (.iload 6, 2) := by decide +kernel
theorem dX6_campaign_159 : decode cX6_campaign 159 = .ok (.iload_n 2, 1) := by decide +kernel
theorem dX6_campaign_160 : decode cX6_campaign 160 = .ok (.sipush 4096, 3) := by decide +kernel
theorem dX6_campaign_163 : decode cX6_campaign 163 = .ok (.irem, 1) := by decide +kernel
theorem dX6_campaign_164 : decode cX6_campaign 164 = .ok (.iastore, 1) := by decide +kernel
theorem dX6_campaign_165 : decode cX6_campaign 165 = .ok (.aload_n 0, 1) := by decide +kernel
theorem dX6_campaign_166 : decode cX6_campaign 166 = .ok (.getfield 35, 3) := by decide +kernel
theorem dX6_campaign_169 : decode cX6_campaign 169 = .ok (.iload 6, 2) := by decide +kernel
theorem dX6_campaign_171 : decode cX6_campaign 171 = .ok (.iload_n 3, 1) := by decide +kernel
theorem dX6_campaign_172 : decode cX6_campaign 172 = .ok (.iastore, 1) := by decide +kernel
theorem dX6_campaign_173 : decode cX6_campaign 173 = .ok (.aload_n 0, 1) := by decide +kernel
theorem dX6_campaign_174 : decode cX6_campaign 174 = .ok (.getfield 44, 3) := by decide +kernel
theorem dX6_campaign_177 : decode cX6_campaign 177 = .ok (.iload 6, 2) := by decide +kernel
theorem dX6_campaign_179 : decode cX6_campaign 179 = .ok (.bipush 9, 2) := by decide +kernel
theorem dX6_campaign_181 : decode cX6_campaign 181 = .ok (.iastore, 1) := by decide +kernel
theorem dX6_campaign_182 : decode cX6_campaign 182 = .ok (.aload_n 0, 1) := by decide +kernel
theorem dX6_campaign_183 : decode cX6_campaign 183 = .ok (.getfield 47, 3) := by decide +kernel
theorem dX6_campaign_186 : decode cX6_campaign 186 = .ok (.iload 6, 2) := by decide +kernel
theorem dX6_campaign_188 : decode cX6_campaign 188 = .ok (.iconst 1, 1) := by decide +kernel
theorem dX6_campaign_189 : decode cX6_campaign 189 = .ok (.iastore, 1) := by decide +kernel
theorem dX6_campaign_190 : decode cX6_campaign 190 = .ok (.aload_n 0, 1) := by decide +kernel
theorem dX6_campaign_191 : decode cX6_campaign 191 = .ok (.getfield 50, 3) := by decide +kernel
theorem dX6_campaign_194 : decode cX6_campaign 194 = .ok (.iload 6, 2) := by decide +kernel
theorem dX6_campaign_196 : decode cX6_campaign 196 = .ok (.sipush 1000, 3) := by decide +kernel
theorem dX6_campaign_199 : decode cX6_campaign 199 = .ok (.iastore, 1) := by decide +kernel
theorem dX6_campaign_200 : decode cX6_campaign 200 = .ok (.aload_n 0, 1) := by decide +kernel
theorem dX6_campaign_201 : decode cX6_campaign 201 = .ok (.getfield 60, 3) := by decide +kernel
theorem dX6_campaign_204 : decode cX6_campaign 204 = .ok (.iload 6, 2) := by decide +kernel
theorem dX6_campaign_206 : decode cX6_campaign 206 = .ok (.iconst 0, 1) := by decide +kernel
theorem dX6_campaign_207 : decode cX6_campaign 207 = .ok (.iastore, 1) := by decide +kernel
theorem dX6_campaign_208 : decode cX6_campaign 208 = .ok (.aload_n 0, 1) := by decide +kernel
theorem dX6_campaign_209 : decode cX6_campaign 209 = .ok (.dup, 1) := by decide +kernel
theorem dX6_campaign_210 : decode cX6_campaign 210 = .ok (.getfield 140, 3) := by decide +kernel
theorem dX6_campaign_213 : decode cX6_campaign 213 = .ok (.iconst 1, 1) := by decide +kernel
theorem dX6_campaign_214 : decode cX6_campaign 214 = .ok (.iadd, 1) := by decide +kernel
theorem dX6_campaign_215 : decode cX6_campaign 215 = .ok (.putfield 140, 3) := by decide +kernel
theorem dX6_campaign_218 : decode cX6_campaign 218 = .ok (.iload 6, 2) := by decide +kernel
theorem dX6_campaign_220 : decode cX6_campaign 220 = .ok (.ireturn, 1) := by decide +kernel
theorem dX6_page_0 : decode cX6_page 0 = .ok (.iconst 0, 1) := by decide +kernel
theorem dX6_page_1 : decode cX6_page 1 = .ok (.istore_n 2, 1) := by decide +kernel
theorem dX6_page_2 : decode cX6_page 2 = .ok (.iload_n 1, 1) := by decide +kernel
theorem dX6_page_3 : decode cX6_page 3 = .ok (.ifCond .le 7, 3) := by decide +kernel
theorem dX6_page_6 : decode cX6_page 6 = .ok (.iconst 1, 1) := by decide +kernel
theorem dX6_page_7 : decode cX6_page 7 = .ok (.goto 4, 3) := by decide +kernel
theorem dX6_page_10 : decode cX6_page 10 = .ok (.iconst 0, 1) := by decide +kernel
theorem dX6_page_11 : decode cX6_page 11 = .ok (.istore_n 3, 1) := by decide +kernel
theorem dX6_page_12 : decode cX6_page 12 = .ok (.iload_n 1, 1) := by decide +kernel
theorem dX6_page_13 : decode cX6_page 13 = .ok (.istore 4, 2) := by decide +kernel
theorem dX6_page_15 : decode cX6_page 15 = .ok (.iload 4, 2) := by decide +kernel
theorem dX6_page_17 : decode cX6_page 17 = .ok (.ifCond .le 42, 3) := by decide +kernel
theorem dX6_page_20 : decode cX6_page 20 = .ok (.iload_n 3, 1) := by decide +kernel
theorem dX6_page_21 : decode cX6_page 21 = .ok (.ifCond .eq 22, 3) := by decide +kernel
theorem dX6_page_24 : decode cX6_page 24 = .ok (.iload 4, 2) := by decide +kernel
theorem dX6_page_26 : decode cX6_page 26 = .ok (.sipush 128, 3) := by decide +kernel
theorem dX6_page_29 : decode cX6_page 29 = .ok (.irem, 1) := by decide +kernel
theorem dX6_page_30 : decode cX6_page 30 = .ok (.iconst 1, 1) := by decide +kernel
theorem dX6_page_31 : decode cX6_page 31 = .ok (.bipush 100, 2) := by decide +kernel
theorem dX6_page_33 : decode cX6_page 33 = .ok (.invokestatic 136, 3) := by decide +kernel
theorem dX6_page_36 : decode cX6_page 36 = .ok (.ifCond .eq 7, 3) := by decide +kernel
theorem dX6_page_39 : decode cX6_page 39 = .ok (.iconst 1, 1) := by decide +kernel
theorem dX6_page_40 : decode cX6_page 40 = .ok (.goto 4, 3) := by decide +kernel
theorem dX6_page_43 : decode cX6_page 43 = .ok (.iconst 0, 1) := by decide +kernel
theorem dX6_page_44 : decode cX6_page 44 = .ok (.istore_n 3, 1) := by decide +kernel
theorem dX6_page_45 : decode cX6_page 45 = .ok (.iinc 2 1, 3) := by decide +kernel
theorem dX6_page_48 : decode cX6_page 48 = .ok (.iload 4, 2) := by decide +kernel
theorem dX6_page_50 : decode cX6_page 50 = .ok (.sipush 128, 3) := by decide +kernel
theorem dX6_page_53 : decode cX6_page 53 = .ok (.idiv, 1) := by decide +kernel
theorem dX6_page_54 : decode cX6_page 54 = .ok (.istore 4, 2) := by decide +kernel
theorem dX6_page_56 : decode cX6_page 56 = .ok (.goto (-41), 3) := by decide +kernel
theorem dX6_page_59 : decode cX6_page 59 = .ok (.iload_n 3, 1) := by decide +kernel
theorem dX6_page_60 : decode cX6_page 60 = .ok (.ifCond .eq 8, 3) := by decide +kernel
theorem dX6_page_63 : decode cX6_page 63 = .ok (.iload_n 2, 1) := by decide +kernel
theorem dX6_page_64 : decode cX6_page 64 = .ok (.iconst 4, 1) := by decide +kernel
theorem dX6_page_65 : decode cX6_page 65 = .ok (.if_icmp .le 5, 3) := by decide +kernel
theorem dX6_page_68 : decode cX6_page 68 = .ok (.iconst (-1), 1) := by decide +kernel
theorem dX6_page_69 : decode cX6_page 69 = .ok (.ireturn, 1) := by decide +kernel
theorem dX6_page_70 : decode cX6_page 70 = .ok (.aload_n 0, 1) := by decide +kernel
theorem dX6_page_71 : decode cX6_page 71 = .ok (.getfield 133, 3) := by decide +kernel
theorem dX6_page_74 : decode cX6_page 74 = .ok (.bipush 8, 2) := by decide +kernel
theorem dX6_page_76 : decode cX6_page 76 = .ok (.if_icmp .ne 6, 3) := by decide +kernel
theorem dX6_page_82 : decode cX6_page 82 = .ok (.iload_n 1, 1) := by decide +kernel
theorem dX6_page_83 : decode cX6_page 83 = .ok (.istore 4, 2) := by decide +kernel
theorem dX6_page_85 : decode cX6_page 85 = .ok (.iload_n 2, 1) := by decide +kernel
theorem dX6_page_86 : decode cX6_page 86 = .ok (.iconst 1, 1) := by decide +kernel
theorem dX6_page_87 : decode cX6_page 87 = .ok (.isub, 1) := by decide +kernel
theorem dX6_page_88 : decode cX6_page 88 = .ok (.istore 5, 2) := by decide +kernel
theorem dX6_page_90 : decode cX6_page 90 = .ok (.iload 5, 2) := by decide +kernel
theorem dX6_page_92 : decode cX6_page 92 = .ok (.ifCond .lt 37, 3) := by decide +kernel
theorem dX6_page_95 : decode cX6_page 95 = .ok (.aload_n 0, 1) := by decide +kernel
theorem dX6_page_96 : decode cX6_page 96 = .ok (.getfield 17, 3) := by decide +kernel
theorem dX6_page_99 : decode cX6_page 99 = .ok (.iconst 4, 1) := by decide +kernel
theorem dX6_page_100 : decode cX6_page 100 = .ok (.aload_n 0, 1) := by decide +kernel
theorem dX6_page_101 : decode cX6_page 101 = .ok (.getfield 133, 3) := by decide +kernel
theorem dX6_page_104 : decode cX6_page 104 = .ok (.imul, 1) := by decide +kernel
theorem dX6_page_105 : decode cX6_page 105 = .ok (.iload 5, 2) := by decide +kernel
theorem dX6_page_107 : decode cX6_page 107 = .ok (.iadd, 1) := by decide +kernel
theorem dX6_page_108 : decode cX6_page 108 = .ok (.iload 4, 2) := by decide +kernel
theorem dX6_page_110 : decode cX6_page 110 = .ok (.sipush 128, 3) := by decide +kernel
theorem dX6_page_113 : decode cX6_page 113 = .ok (.irem, 1) := by decide +kernel
theorem dX6_page_114 : decode cX6_page 114 = .ok (.iastore, 1) := by decide +kernel
theorem dX6_page_115 : decode cX6_page 115 = .ok (.iload 4, 2) := by decide +kernel
theorem dX6_page_117 : decode cX6_page 117 = .ok (.sipush 128, 3) := by decide +kernel
theorem dX6_page_120 : decode cX6_page 120 = .ok (.idiv, 1) := by decide +kernel
theorem dX6_page_121 : decode cX6_page 121 = .ok (.istore 4, 2) := by decide +kernel
theorem dX6_page_123 : decode cX6_page 123 = .ok (.iinc 5 (-1), 3) := by decide +kernel
theorem dX6_page_126 : decode cX6_page 126 = .ok (.goto (-36), 3) := by decide +kernel
theorem dX6_page_129 : decode cX6_page 129 = .ok (.aload_n 0, 1) := by decide +kernel
theorem dX6_page_130 : decode cX6_page 130 = .ok (.getfield 13, 3) := by decide +kernel
theorem dX6_page_133 : decode cX6_page 133 = .ok (.aload_n 0, 1) := by decide +kernel
theorem dX6_page_134 : decode cX6_page 134 = .ok (.getfield 133, 3) := by decide +kernel
theorem dX6_page_137 : decode cX6_page 137 = .ok (.iload_n 2, 1) := by decide +kernel
theorem dX6_page_138 : decode cX6_page 138 = .ok (.iastore, 1) := by decide +kernel
theorem dX6_page_139 : decode cX6_page 139 = .ok (.aload_n 0, 1) := by decide +kernel
theorem dX6_page_140 : decode cX6_page 140 = .ok (.dup, 1) := by decide +kernel
theorem dX6_page_141 : decode cX6_page 141 = .ok (.getfield 133, 3) := by decide +kernel
theorem dX6_page_144 : decode cX6_page 144 = .ok (.iconst 1, 1) := by decide +kernel
theorem dX6_page_145 : decode cX6_page 145 = .ok (.iadd, 1) := by decide +kernel
theorem dX6_page_146 : decode cX6_page 146 = .ok (.putfield 133, 3) := by decide +kernel
theorem dX6_page_149 : decode cX6_page 149 = .ok (.aload_n 0, 1) := by decide +kernel
theorem dX6_page_150 : decode cX6_page 150 = .ok (.getfield 133, 3) := by decide +kernel
theorem dX6_page_153 : decode cX6_page 153 = .ok (.iconst 1, 1) := by decide +kernel
theorem dX6_page_154 : decode cX6_page 154 = .ok (.isub, 1) := by decide +kernel
theorem dX6_page_155 : decode cX6_page 155 = .ok (.ireturn, 1) := by decide +kernel
theorem dX1_init_0 : decode cX1_init 0 = .ok (.aload_n 0, 1) := by decide +kernel
theorem dX1_init_1 : decode cX1_init 1 = .ok (.invokespecial 5, 3) := by decide +kernel
theorem dX1_init_4 : decode cX1_init 4 = .ok (.aload_n 0, 1) := by decide +kernel
theorem dX1_init_5 : decode cX1_init 5 = .ok (.iconst 4, 1) := by decide +kernel
theorem dX1_init_6 : decode cX1_init 6 = .ok (.newarray .int, 2) := by decide +kernel
theorem dX1_init_8 : decode cX1_init 8 = .ok (.putfield 11, 3) := by decide +kernel
theorem dX1_init_11 : decode cX1_init 11 = .ok (.aload_n 0, 1) := by decide +kernel
theorem dX1_init_12 : decode cX1_init 12 = .ok (.iconst 4, 1) := by decide +kernel
theorem dX1_init_13 : decode cX1_init 13 = .ok (.newarray .int, 2) := by decide +kernel
theorem dX1_init_15 : decode cX1_init 15 = .ok (.putfield 15, 3) := by decide +kernel
theorem dX1_init_18 : decode cX1_init 18 = .ok (.aload_n 0, 1) := by decide +kernel
theorem dX1_init_19 : decode cX1_init 19 = .ok (.iconst 4, 1) := by decide +kernel
theorem dX1_init_20 : decode cX1_init 20 = .ok (.bipush 40, 2) := by decide +kernel
theorem dX1_init_22 : decode cX1_init 22 = .ok (.multianewarray 18 2, 4) := by decide +kernel
theorem dX1_init_26 : decode cX1_init 26 = .ok (.putfield 20, 3) := by decide +kernel
theorem dX1_init_29 : decode cX1_init 29 = .ok (.aload_n 0, 1) := by decide +kernel
theorem dX1_init_30 : decode cX1_init 30 = .ok (.iconst 4, 1) := by decide +kernel
theorem dX1_init_31 : decode cX1_init 31 = .ok (.bipush 40, 2) := by decide +kernel
theorem dX1_init_33 : decode cX1_init 33 = .ok (.multianewarray 23 2, 4) := by decide +kernel
theorem dX1_init_37 : decode cX1_init 37 = .ok (.putfield 25, 3) := by decide +kernel
theorem dX1_init_40 : decode cX1_init 40 = .ok (.aload_n 0, 1) := by decide +kernel
theorem dX1_init_41 : decode cX1_init 41 = .ok (.bipush 40, 2) := by decide +kernel
theorem dX1_init_43 : decode cX1_init 43 = .ok (.newarray .long, 2) := by decide +kernel
theorem dX1_init_45 : decode cX1_init 45 = .ok (.putfield 28, 3) := by decide +kernel
theorem dX1_init_48 : decode cX1_init 48 = .ok (.return_, 1) := by decide +kernel
theorem dX5_init_0 : decode cX5_init 0 = .ok (.aload_n 0, 1) := by decide +kernel
theorem dX5_init_1 : decode cX5_init 1 = .ok (.invokespecial 1, 3) := by decide +kernel
theorem dX5_init_4 : decode cX5_init 4 = .ok (.aload_n 0, 1) := by decide +kernel
theorem dX5_init_5 : decode cX5_init 5 = .ok (.bipush 8, 2) := by decide +kernel
theorem dX5_init_7 : decode cX5_init 7 = .ok (.anewarray 9, 3) := by decide +kernel
theorem dX5_init_10 : decode cX5_init 10 = .ok (.putfield 11, 3) := by decide +kernel
theorem dX5_init_13 : decode cX5_init 13 = .ok (.aload_n 0, 1) := by decide +kernel
theorem dX5_init_14 : decode cX5_init 14 = .ok (.bipush 40, 2) := by decide +kernel
theorem dX5_init_16 : decode cX5_init 16 = .ok (.anewarray 15, 3) := by decide +kernel
theorem dX5_init_19 : decode cX5_init 19 = .ok (.putfield 17, 3) := by decide +kernel
theorem dX5_init_22 : decode cX5_init 22 = .ok (.aload_n 0, 1) := by decide +kernel
theorem dX5_init_23 : decode cX5_init 23 = .ok (.sipush 1000, 3) := by decide +kernel
theorem dX5_init_26 : decode cX5_init 26 = .ok (.anewarray 21, 3) := by decide +kernel
theorem dX5_init_29 : decode cX5_init 29 = .ok (.putfield 23, 3) := by decide +kernel
theorem dX5_init_32 : decode cX5_init 32 = .ok (.aload_n 0, 1) := by decide +kernel
theorem dX5_init_33 : decode cX5_init 33 = .ok (.bipush 100, 2) := by decide +kernel
theorem dX5_init_35 : decode cX5_init 35 = .ok (.newarray .int, 2) := by decide +kernel
theorem dX5_init_37 : decode cX5_init 37 = .ok (.putfield 27, 3) := by decide +kernel
theorem dX5_init_40 : decode cX5_init 40 = .ok (.aload_n 0, 1) := by decide +kernel
theorem dX5_init_41 : decode cX5_init 41 = .ok (.new 31, 3) := by decide +kernel
theorem dX5_init_44 : decode cX5_init 44 = .ok (.dup, 1) := by decide +kernel
theorem dX5_init_45 : decode cX5_init 45 = .ok (.invokespecial 33, 3) := by decide +kernel
theorem dX5_init_48 : decode cX5_init 48 = .ok (.putfield 34, 3) := by decide +kernel
theorem dX5_init_51 : decode cX5_init 51 = .ok (.aload_n 0, 1) := by decide +kernel
theorem dX5_init_52 : decode cX5_init 52 = .ok (.iconst 4, 1) := by decide +kernel
theorem dX5_init_53 : decode cX5_init 53 = .ok (.newarray .int, 2) := by decide +kernel
theorem dX5_init_55 : decode cX5_init 55 = .ok (.putfield 38, 3) := by decide +kernel
theorem dX5_init_58 : decode cX5_init 58 = .ok (.aload_n 0, 1) := by decide +kernel
theorem dX5_init_59 : decode cX5_init 59 = .ok (.iconst 4, 1) := by decide +kernel
theorem dX5_init_60 : decode cX5_init 60 = .ok (.newarray .int, 2) := by decide +kernel
theorem dX5_init_62 : decode cX5_init 62 = .ok (.putfield 41, 3) := by decide +kernel
theorem dX5_init_65 : decode cX5_init 65 = .ok (.aload_n 0, 1) := by decide +kernel
theorem dX5_init_66 : decode cX5_init 66 = .ok (.bipush 50, 2) := by decide +kernel
theorem dX5_init_68 : decode cX5_init 68 = .ok (.putfield 44, 3) := by decide +kernel
theorem dX5_init_71 : decode cX5_init 71 = .ok (.aload_n 0, 1) := by decide +kernel
theorem dX5_init_72 : decode cX5_init 72 = .ok (.sipush 10000, 3) := by decide +kernel
theorem dX5_init_75 : decode cX5_init 75 = .ok (.putfield 48, 3) := by decide +kernel
theorem dX5_init_78 : decode cX5_init 78 = .ok (.return_, 1) := by decide +kernel
theorem dX6_init_0 : decode cX6_init 0 = .ok (.aload_n 0, 1) := by decide +kernel
theorem dX6_init_1 : decode cX6_init 1 = .ok (.invokespecial 1, 3) := by decide +kernel
theorem dX6_init_4 : decode cX6_init 4 = .ok (.aload_n 0, 1) := by decide +kernel
theorem dX6_init_5 : decode cX6_init 5 = .ok (.bipush 50, 2) := by decide +kernel
theorem dX6_init_7 : decode cX6_init 7 = .ok (.putfield 7, 3) := by decide +kernel
theorem dX6_init_10 : decode cX6_init 10 = .ok (.aload_n 0, 1) := by decide +kernel
theorem dX6_init_11 : decode cX6_init 11 = .ok (.bipush 8, 2) := by decide +kernel
theorem dX6_init_13 : decode cX6_init 13 = .ok (.newarray .int, 2) := by decide +kernel
theorem dX6_init_15 : decode cX6_init 15 = .ok (.putfield 13, 3) := by decide +kernel
theorem dX6_init_18 : decode cX6_init 18 = .ok (.aload_n 0, 1) := by decide +kernel
theorem dX6_init_19 : decode cX6_init 19 = .ok (.bipush 32, 2) := by decide +kernel
theorem dX6_init_21 : decode cX6_init 21 = .ok (.newarray .int, 2) := by decide +kernel
theorem dX6_init_23 : decode cX6_init 23 = .ok (.putfield 17, 3) := by decide +kernel
theorem dX6_init_26 : decode cX6_init 26 = .ok (.aload_n 0, 1) := by decide +kernel
theorem dX6_init_27 : decode cX6_init 27 = .ok (.bipush 100, 2) := by decide +kernel
theorem dX6_init_29 : decode cX6_init 29 = .ok (.newarray .int, 2) := by decide +kernel
theorem dX6_init_31 : decode cX6_init 31 = .ok (.putfield 20, 3) := by decide +kernel
theorem dX6_init_34 : decode cX6_init 34 = .ok (.aload_n 0, 1) := by decide +kernel
theorem dX6_init_35 : decode cX6_init 35 = .ok (.bipush 40, 2) := by decide +kernel
theorem dX6_init_37 : decode cX6_init 37 = .ok (.newarray .int, 2) := by decide +kernel
theorem dX6_init_39 : decode cX6_init 39 = .ok (.putfield 23, 3) := by decide +kernel
theorem dX6_init_42 : decode cX6_init 42 = .ok (.aload_n 0, 1) := by decide +kernel
theorem dX6_init_43 : decode cX6_init 43 = .ok (.bipush 40, 2) := by decide +kernel
theorem dX6_init_45 : decode cX6_init 45 = .ok (.newarray .int, 2) := by decide +kernel
theorem dX6_init_47 : decode cX6_init 47 = .ok (.putfield 26, 3) := by decide +kernel
theorem dX6_init_50 : decode cX6_init 50 = .ok (.aload_n 0, 1) := by decide +kernel
theorem dX6_init_51 : decode cX6_init 51 = .ok (.bipush 40, 2) := by decide +kernel
theorem dX6_init_53 : decode cX6_init 53 = .ok (.newarray .int, 2) := by decide +kernel
theorem dX6_init_55 : decode cX6_init 55 = .ok (.putfield 29, 3) := by decide +kernel
theorem dX6_init_58 : decode cX6_init 58 = .ok (.aload_n 0, 1) := by decide +kernel
theorem dX6_init_59 : decode cX6_init 59 = .ok (.bipush 40, 2) := by decide +kernel
theorem dX6_init_61 : decode cX6_init 61 = .ok (.newarray .int, 2) := by decide +kernel
theorem dX6_init_63 : decode cX6_init 63 = .ok (.putfield 32, 3) := by decide +kernel
theorem dX6_init_66 : decode cX6_init 66 = .ok (.aload_n 0, 1) := by decide +kernel
theorem dX6_init_67 : decode cX6_init 67 = .ok (.bipush 40, 2) := by decide +kernel
theorem dX6_init_69 : decode cX6_init 69 = .ok (.newarray .int, 2) := by decide +kernel
theorem dX6_init_71 : decode cX6_init 71 = .ok (.putfield 35, 3) := by decide +kernel
theorem dX6_init_74 : decode cX6_init 74 = .ok (.aload_n 0, 1) := by decide +kernel
theorem dX6_init_75 : decode cX6_init 75 = .ok (.bipush 40, 2) := by decide +kernel
theorem dX6_init_77 : decode cX6_init 77 = .ok (.newarray .int, 2) := by decide +kernel
theorem dX6_init_79 : decode cX6_init 79 = .ok (.putfield 38, 3) := by decide +kernel
theorem dX6_init_82 : decode cX6_init 82 = .ok (.aload_n 0, 1) := by decide +kernel
theorem dX6_init_83 : decode cX6_init 83 = .ok (.bipush 40, 2) := by decide +kernel
theorem dX6_init_85 : decode cX6_init 85 = .ok (.newarray .int, 2) := by decide +kernel
theorem dX6_init_87 : decode cX6_init 87 = .ok (.putfield 41, 3) := by decide +kernel
theorem dX6_init_90 : decode cX6_init 90 = .ok (.aload_n 0, 1) := by decide +kernel
theorem dX6_init_91 : decode cX6_init 91 = .ok (.bipush 40, 2) := by decide +kernel
theorem dX6_init_93 : decode cX6_init 93 = .ok (.newarray .int, 2) := by decide +kernel
theorem dX6_init_95 : decode cX6_init 95 = .ok (.putfield 44, 3) := by decide +kernel
theorem dX6_init_98 : decode cX6_init 98 = .ok (.aload_n 0, 1) := by decide +kernel
theorem dX6_init_99 : decode cX6_init 99 = .ok (.bipush 40, 2) := by decide +kernel
theorem dX6_init_101 : decode cX6_init 101 = .ok (.newarray .int, 2) := by decide +kernel
theorem dX6_init_103 : decode cX6_init 103 = .ok (.putfield 47, 3) := by decide +kernel
theorem dX6_init_106 : decode cX6_init 106 = .ok (.aload_n 0, 1) := by decide +kernel
theorem dX6_init_107 : decode cX6_init 107 = .ok (.bipush 40, 2) := by decide +kernel
theorem dX6_init_109 : decode cX6_init 109 = .ok (.newarray .int, 2) := by decide +kernel
theorem dX6_init_111 : decode cX6_init 111 = .ok (.putfield 50, 3) := by decide +kernel
theorem dX6_init_114 : decode cX6_init 114 = .ok (.aload_n 0, 1) := by decide +kernel
theorem dX6_init_115 : decode cX6_init 115 = .ok (.bipush 40, 2) := by decide +kernel
theorem dX6_init_117 : decode cX6_init 117 = .ok (.newarray .boolean, 2) := by decide +kernel
theorem dX6_init_119 : decode cX6_init 119 = .ok (.putfield 53, 3) := by decide +kernel
theorem dX6_init_122 : decode cX6_init 122 = .ok (.aload_n 0, 1) := by decide +kernel
theorem dX6_init_123 : decode cX6_init 123 = .ok (.sipush 1600, 3) := by decide +kernel
theorem dX6_init_126 : decode cX6_init 126 = .ok (.newarray .boolean, 2) := by decide +kernel
theorem dX6_init_128 : decode cX6_init 128 = .ok (.putfield 57, 3) := by decide +kernel
theorem dX6_init_131 : decode cX6_init 131 = .ok (.aload_n 0, 1) := by decide +kernel
theorem dX6_init_132 : decode cX6_init 132 = .ok (.bipush 40, 2) := by decide +kernel
theorem dX6_init_134 : decode cX6_init 134 = .ok (.newarray .int, 2) := by decide +kernel
theorem dX6_init_136 : decode cX6_init 136 = .ok (.putfield 60, 3) := by decide +kernel
theorem dX6_init_139 : decode cX6_init 139 = .ok (.aload_n 0, 1) := by decide +kernel
theorem dX6_init_140 : decode cX6_init 140 = .ok (.bipush 40, 2) := by decide +kernel
theorem dX6_init_142 : decode cX6_init 142 = .ok (.newarray .int, 2) := by decide +kernel
theorem dX6_init_144 : decode cX6_init 144 = .ok (.putfield 63, 3) := by decide +kernel
theorem dX6_init_147 : decode cX6_init 147 = .ok (.aload_n 0, 1) := by decide +kernel
theorem dX6_init_148 : decode cX6_init 148 = .ok (.bipush 40, 2) := by decide +kernel
theorem dX6_init_150 : decode cX6_init 150 = .ok (.newarray .int, 2) := by decide +kernel
theorem dX6_init_152 : decode cX6_init 152 = .ok (.putfield 66, 3) := by decide +kernel
theorem dX6_init_155 : decode cX6_init 155 = .ok (.aload_n 0, 1) := by decide +kernel
theorem dX6_init_156 : decode cX6_init 156 = .ok (.sipush 1000, 3) := by decide +kernel
theorem dX6_init_159 : decode cX6_init 159 = .ok (.newarray .int, 2) := by decide +kernel
theorem dX6_init_161 : decode cX6_init 161 = .ok (.putfield 69, 3) := by decide +kernel
theorem dX6_init_164 : decode cX6_init 164 = .ok (.aload_n 0, 1) := by decide +kernel
theorem dX6_init_165 : decode cX6_init 165 = .ok (.sipush 1000, 3) := by decide +kernel
theorem dX6_init_168 : decode cX6_init 168 = .ok (.newarray .int, 2) := by decide +kernel
theorem dX6_init_170 : decode cX6_init 170 = .ok (.putfield 72, 3) := by decide +kernel
theorem dX6_init_173 : decode cX6_init 173 = .ok (.aload_n 0, 1) := by decide +kernel
theorem dX6_init_174 : decode cX6_init 174 = .ok (.sipush 1000, 3) := by decide +kernel
theorem dX6_init_177 : decode cX6_init 177 = .ok (.newarray .int, 2) := by decide +kernel
theorem dX6_init_179 : decode cX6_init 179 = .ok (.putfield 75, 3) := by decide +kernel
theorem dX6_init_182 : decode cX6_init 182 = .ok (.aload_n 0, 1) := by decide +kernel
theorem dX6_init_183 : decode cX6_init 183 = .ok (.sipush 1000, 3) := by decide +kernel
theorem dX6_init_186 : decode cX6_init 186 = .ok (.newarray .int, 2) := by decide +kernel
theorem dX6_init_188 : decode cX6_init 188 = .ok (.putfield 78, 3) := by decide +kernel
theorem dX6_init_191 : decode cX6_init 191 = .ok (.aload_n 0, 1) := by decide +kernel
theorem dX6_init_192 : decode cX6_init 192 = .ok (.sipush 1000, 3) := by decide +kernel
theorem dX6_init_195 : decode cX6_init 195 = .ok (.newarray .int, 2) := by decide +kernel
theorem dX6_init_197 : decode cX6_init 197 = .ok (.putfield 81, 3) := by decide +kernel
theorem dX6_init_200 : decode cX6_init 200 = .ok (.aload_n 0, 1) := by decide +kernel
theorem dX6_init_201 : decode cX6_init 201 = .ok (.sipush 1000, 3) := by decide +kernel
theorem dX6_init_204 : decode cX6_init 204 = .ok (.newarray .int, 2) := by decide +kernel
theorem dX6_init_206 : decode cX6_init 206 = .ok (.putfield 84, 3) := by decide +kernel
theorem dX6_init_209 : decode cX6_init 209 = .ok (.aload_n 0, 1) := by decide +kernel
theorem dX6_init_210 : decode cX6_init 210 = .ok (.sipush 1000, 3) := by decide +kernel
theorem dX6_init_213 : decode cX6_init 213 = .ok (.newarray .int, 2) := by decide +kernel
theorem dX6_init_215 : decode cX6_init 215 = .ok (.putfield 87, 3) := by decide +kernel
theorem dX6_init_218 : decode cX6_init 218 = .ok (.aload_n 0, 1) := by decide +kernel
theorem dX6_init_219 : decode cX6_init 219 = .ok (.sipush 1000, 3) := by decide +kernel
theorem dX6_init_222 : decode cX6_init 222 = .ok (.newarray .int, 2) := by decide +kernel
theorem dX6_init_224 : decode cX6_init 224 = .ok (.putfield 90, 3) := by decide +kernel
theorem dX6_init_227 : decode cX6_init 227 = .ok (.aload_n 0, 1) := by decide +kernel
theorem dX6_init_228 : decode cX6_init 228 = .ok (.sipush 1000, 3) := by decide +kernel
theorem dX6_init_231 : decode cX6_init 231 = .ok (.newarray .int, 2) := by decide +kernel
theorem dX6_init_233 : decode cX6_init 233 = .ok (.putfield 93, 3) := by decide +kernel
theorem dX6_init_236 : decode cX6_init 236 = .ok (.aload_n 0, 1) := by decide +kernel
theorem dX6_init_237 : decode cX6_init 237 = .ok (.bipush 40, 2) := by decide +kernel
theorem dX6_init_239 : decode cX6_init 239 = .ok (.newarray .int, 2) := by decide +kernel
theorem dX6_init_241 : decode cX6_init 241 = .ok (.putfield 96, 3) := by decide +kernel
theorem dX6_init_244 : decode cX6_init 244 = .ok (.aload_n 0, 1) := by decide +kernel
theorem dX6_init_245 : decode cX6_init 245 = .ok (.sipush 160, 3) := by decide +kernel
theorem dX6_init_248 : decode cX6_init 248 = .ok (.newarray .long, 2) := by decide +kernel
theorem dX6_init_250 : decode cX6_init 250 = .ok (.putfield 99, 3) := by decide +kernel
theorem dX6_init_253 : decode cX6_init 253 = .ok (.aload_n 0, 1) := by decide +kernel
theorem dX6_init_254 : decode cX6_init 254 = .ok (.iconst 5, 1) := by decide +kernel
theorem dX6_init_255 : decode cX6_init 255 = .ok (.newarray .long, 2) := by decide +kernel
theorem dX6_init_257 : decode cX6_init 257 = .ok (.putfield 103, 3) := by decide +kernel
theorem dX6_init_260 : decode cX6_init 260 = .ok (.aload_n 0, 1) := by decide +kernel
theorem dX6_init_261 : decode cX6_init 261 = .ok (.iconst 5, 1) := by decide +kernel
theorem dX6_init_262 : decode cX6_init 262 = .ok (.newarray .int, 2) := by decide +kernel
theorem dX6_init_264 : decode cX6_init 264 = .ok (.putfield 106, 3) := by decide +kernel
theorem dX6_init_267 : decode cX6_init 267 = .ok (.aload_n 0, 1) := by decide +kernel
theorem dX6_init_268 : decode cX6_init 268 = .ok (.iconst 5, 1) := by decide +kernel
theorem dX6_init_269 : decode cX6_init 269 = .ok (.newarray .long, 2) := by decide +kernel
theorem dX6_init_271 : decode cX6_init 271 = .ok (.putfield 109, 3) := by decide +kernel
theorem dX6_init_274 : decode cX6_init 274 = .ok (.aload_n 0, 1) := by decide +kernel
theorem dX6_init_275 : decode cX6_init 275 = .ok (.iconst 5, 1) := by decide +kernel
theorem dX6_init_276 : decode cX6_init 276 = .ok (.newarray .int, 2) := by decide +kernel
theorem dX6_init_278 : decode cX6_init 278 = .ok (.putfield 112, 3) := by decide +kernel
theorem dX6_init_281 : decode cX6_init 281 = .ok (.aload_n 0, 1) := by decide +kernel
theorem dX6_init_282 : decode cX6_init 282 = .ok (.iconst 4, 1) := by decide +kernel
theorem dX6_init_283 : decode cX6_init 283 = .ok (.newarray .int, 2) := by decide +kernel
theorem dX6_init_285 : decode cX6_init 285 = .ok (.putfield 115, 3) := by decide +kernel
theorem dX6_init_288 : decode cX6_init 288 = .ok (.aload_n 0, 1) := by decide +kernel
theorem dX6_init_289 : decode cX6_init 289 = .ok (.bipush 40, 2) := by decide +kernel
theorem dX6_init_291 : decode cX6_init 291 = .ok (.newarray .int, 2) := by decide +kernel
theorem dX6_init_293 : decode cX6_init 293 = .ok (.putfield 118, 3) := by decide +kernel
theorem dX6_init_296 : decode cX6_init 296 = .ok (.aload_n 0, 1) := by decide +kernel
theorem dX6_init_297 : decode cX6_init 297 = .ok (.iconst 5, 1) := by decide +kernel
theorem dX6_init_298 : decode cX6_init 298 = .ok (.newarray .int, 2) := by decide +kernel
theorem dX6_init_300 : decode cX6_init 300 = .ok (.putfield 121, 3) := by decide +kernel
theorem dX6_init_303 : decode cX6_init 303 = .ok (.aload_n 0, 1) := by decide +kernel
theorem dX6_init_304 : decode cX6_init 304 = .ok (.iconst 4, 1) := by decide +kernel
theorem dX6_init_305 : decode cX6_init 305 = .ok (.newarray .int, 2) := by decide +kernel
theorem dX6_init_307 : decode cX6_init 307 = .ok (.putfield 124, 3) := by decide +kernel
theorem dX6_init_310 : decode cX6_init 310 = .ok (.aload_n 0, 1) := by decide +kernel
theorem dX6_init_311 : decode cX6_init 311 = .ok (.iconst 4, 1) := by decide +kernel
theorem dX6_init_312 : decode cX6_init 312 = .ok (.newarray .int, 2) := by decide +kernel
theorem dX6_init_314 : decode cX6_init 314 = .ok (.putfield 127, 3) := by decide +kernel
theorem dX6_init_317 : decode cX6_init 317 = .ok (.return_, 1) := by decide +kernel
end
section
/-- what a method of one object may change: the object, and what is new -/
abbrev aO (b sz : Nat) : Nat → Prop := fun q => q = b ∨ sz ≤ q
/-- void methods that change nothing -/
abbrev qRv : Array Value → State → Outcome → State → Prop := va_Qv (fun (_ : Unit) => True) (fun _ _ => True) (fun _ => False)
abbrev mVv (l : Launch) (y : MethodName) (bytes : ByteArray) (maxL : Nat) (d : Nat) (D : va_G) (wc : va_W) (tc : List (ClassId × FieldType)) (As : List Value) : Prop :=
  Met l y (Cond.code y bytes maxL none :: lw_B) (rmD d 0 0) (va_Pc As (fun U => va_P D vwCl wc U.heap ∧ va_K D vwCl tc U)) qRv 0 0 (fun _ => False)
/-- void methods of one object: its fields change to fs' -/
abbrev mOv (l : Launch) (y : MethodName) (bytes : ByteArray) (maxL : Nat) (d mc ms : Nat) (D : va_G) (b ci : Nat) (fs : List Value) (sz : Nat) (tc : List (ClassId × FieldType)) (ex : State → Prop) (As : List Value) (post : List Value → Prop) : Prop :=
  Met l y (Cond.code y bytes maxL none :: lw_B) (rmD d mc ms) (va_Pc As (fun U => U.heap.size = sz ∧ va_P D vwCl [(b, .inr (ci, fs))] U.heap ∧ va_K D vwCl tc U ∧ ex U)) (va_Qv (fun fs' : List Value => post fs') (fun fs' U => va_P D vwCl [(b, .inr (ci, fs'))] U.heap) (aO b sz)) mc ms (aO b sz)
/-- methods of several cells of which only the answer is told -/
abbrev mFi (l : Launch) (y : MethodName) (bytes : ByteArray) (maxL : Nat) (d mc ms : Nat) (D : va_G) (wc : va_W) (sz : Nat) (tc : List (ClassId × FieldType)) (ex : State → Prop) (As : List Value) (post : Int32 → Prop) : Prop :=
  Met l y (Cond.code y bytes maxL (some .int) :: lw_B) (rmD d mc ms) (va_Pc As (fun U => U.heap.size = sz ∧ va_P D vwCl wc U.heap ∧ va_K D vwCl tc U ∧ va_D (fun _ => True) wc ∧ ex U)) (va_Qi (fun r (_ : Unit) => post r) (fun _ _ => True) (va_A wc sz)) mc ms (va_A wc sz)
/-- what is passed down of the tables beside the words: blind of the frame, and it stays -/
def exOk (s : State) (ex : State → Prop) : Prop := (∀ (a : Array Value) (U : State) (g : JFrame) (mk : MethodId), ex U → ex (U.calling g mk a)) ∧ ∀ U : State, s.WarmedH U.vm → ex U
theorem exT {s : State} : exOk s (fun _ => True) := ⟨fun _ _ _ _ _ => trivial, fun _ _ => trivial⟩
section KO
variable {p : Program} {l : Launch} {e : Env} {R : Room} {s : State} {m : MethodId} {args : Array Value} {below : List Frame} {meth : Method} {c : Code} {H : Heap} {locs : List Loc} {cells slots : Nat} {Q : State → Prop}
variable {A0 : Nat → Prop} {H0 : Heap} {D : va_G} {ws : va_W} {pc : Nat} {ls : Array Slot} {st0 rest : List Value} {y : MethodName} {bytes cc : ByteArray} {maxL nL index d n mc ms : Nat} {own : String} {As : List Value}
theorem k_set {b q0 ci : Nat} {fs fs' : List Value} {H1 : Heap} (he : ws[q0]? = some (b, .inr (ci, fs))) (hP : va_P D vwCl ws H) (hD : va_D A0 ws) (hB : va_P D vwCl [(b, .inr (ci, fs'))] H1) (hk : ∀ q : Nat, q < H.size → ¬ aO b H.size q → H1[q]? = H[q]?) : va_P D vwCl (ws.set q0 (b, .inr (ci, fs'))) H1 := by
  have hl := (List.getElem?_eq_some_iff.mp he).1
  intro k q hkq
  by_cases hkp : k = q0
  · subst hkp
    rw [List.getElem?_set_self hl] at hkq
    cases hkq
    exact hB 0 _ rfl
  · rw [List.getElem?_set_ne (Ne.symm hkp)] at hkq
    have hlt := (hP k q hkq).lt
    exact (hP k q hkq).kept (hk q.1 hlt (fun h => h.elim (fun h => hkp (hD.1 k q0 q _ hkq he h)) (fun h => by omega)))
theorem k_Oc {b q0 ci : Nat} {fs : List Value} {post : List Value → Prop} {a : Array Value} (he : ws[q0]? = some (b, .inr (ci, fs))) (hP : va_P D vwCl ws H) (hD : va_D A0 ws) (hS : va_S A0 H0 H locs) (hA : ∀ q, H0.size ≤ q → A0 q)
    (hr : va_Run p l e R s m args below meth c H locs cells slots mc ms (F0 m pc ls st0) rest (va_Qv (fun fs' : List Value => post fs') (fun fs' U => va_P D vwCl [(b, .inr (ci, fs'))] U.heap) (aO b H.size) a) (aO b H.size))
    (kk : ∀ (fs' : List Value) (H1 : Heap) (locs1 : List Loc), post fs' → va_P D vwCl (ws.set q0 (b, .inr (ci, fs'))) H1 → va_D A0 (ws.set q0 (b, .inr (ci, fs'))) → va_S A0 H0 H1 locs1 → W p l e R s m args below meth c H1 locs1 (cells + mc) (slots + ms) Q (F0 m (pc + 3) ls rest)) : W p l e R s m args below meth c H locs cells slots Q (F0 m pc ls st0) := by
  have hF : ∀ q, aO b H.size q → A0 q := fun q h => h.elim (fun h => by rw [h]; exact hD.2 q0 _ he) (fun h => hA q (Nat.le_trans hS.1 h))
  refine va_callv hr hS (fun q _ h => hF q h) hF (fun fs' t H1 locs1 ht _ hp hB _ hk hS1 => ?_)
  rw [ht] at hB
  exact kk fs' H1 locs1 hp (k_set he hP hD hB hk) (hD.set he) hS1
/-- a call of a void method of one object -/
theorem k_Ov {b q0 ci : Nat} {fs : List Value} {q : vw_C} {tc : List (ClassId × FieldType)} {ex : State → Prop} {post : List Value → Prop} (S : CallFix p m c cc nL s args lw_B own) (hM : mOv l y bytes maxL d mc ms D b ci fs H.size tc ex (.ref b :: As) post) (n : Nat) (w1 : Cond.methodLink own index y ∈ lw_B) (w2 : Cond.instanceMethod y ∈ lw_B) (w3 : Cond.selects q.1 y y ∈ lw_B) (w4 : Cond.initialized q.1 ∈ lw_B) (w5 : Cond.code y bytes maxL none ∈ lw_B)
    (hd : y.cls = q.1 ∧ y.cls ≠ "java/lang/invoke/MethodHandle" ∧ y.cls ≠ "java/lang/invoke/VarHandle" ∧ (parseMethodDescriptor y.desc).map (fun d => d.parameters.length) = some n) (hR : d + 1 ≤ R.frames ∧ 8 + (maxL + 11) + 40 * d ≤ R.locals)
    (hKc : va_K D vwCl tc s) (hex : exOk s ex) (hc : vwCl[ci]? = some q) (he : ws[q0]? = some (b, .inr (ci, fs)))
    (hn : As.length = n) (hls : ls.size = nL) (hst : st0 = As.reverse ++ .ref b :: rest) (hW : (rest.map fun v => v.category).sum ≤ 8) (hdg : decode cc pc = .ok (.invokevirtual index, 3)) (hf : cells + mc ≤ R.cells ∧ slots + ms ≤ R.slots)
    (hP : va_P D vwCl ws H) (hD : va_D A0 ws) (hS : va_S A0 H0 H locs) (hA : ∀ q, H0.size ≤ q → A0 q)
    (kk : ∀ (fs' : List Value) (H1 : Heap) (locs1 : List Loc), post fs' → va_P D vwCl (ws.set q0 (b, .inr (ci, fs'))) H1 → va_D A0 (ws.set q0 (b, .inr (ci, fs'))) → va_S A0 H0 H1 locs1 → W p l e R s m args below meth c H1 locs1 (cells + mc) (slots + ms) Q (F0 m (pc + 3) ls rest)) : W p l e R s m args below meth c H locs cells slots Q (F0 m pc ls st0) := by
  have hPc : va_P D vwCl [(b, .inr (ci, fs))] H := fun k q hk => by
    have h0 : k < 1 := (List.getElem?_eq_some_iff.mp hk).1
    rw [show k = 0 by omega] at hk
    cases hk
    exact hP q0 _ he
  exact k_Oc he hP hD hS hA (va_runV (As := As) (rest := rest) S hM (cwV n S.2.2.2.2 (lb_V w1 w2 w3 w4 w5) rfl rfl rfl hd hR) ⟨fun a U g mk q => ⟨q.1, q.2.1, q.2.2.1, va_K.moved (u := U) (U := U.calling g mk a) (Vm.Alike.refl U.vm) q.2.2.2.1, hex.1 a U g mk q.2.2.2.2⟩, va_recv hKc hPc hc (q0 := 0) rfl, fun U hU hW => ⟨rfl, by rw [hU], by rw [hU]; exact hPc, va_K.moved hW.alike hKc, hex.2 U hW⟩⟩ rfl hn hls hst (lv_room hW) hdg hf) kk
/-- a call of a constructor -/
theorem k_OI {b q0 ci : Nat} {fs : List Value} {tc : List (ClassId × FieldType)} {ex : State → Prop} {post : List Value → Prop} (S : CallFix p m c cc nL s args lw_B own) (hM : mOv l y bytes maxL d mc ms D b ci fs H.size tc ex (.ref b :: As) post) (n : Nat) (w1 : Cond.methodLink own index y ∈ lw_B) (w2 : Cond.instanceMethod y ∈ lw_B) (w4 : Cond.initialized y.cls ∈ lw_B) (w5 : Cond.code y bytes maxL none ∈ lw_B) (hy : y.name = "<init>")
    (hd : y.cls ≠ "java/lang/invoke/MethodHandle" ∧ y.cls ≠ "java/lang/invoke/VarHandle" ∧ (parseMethodDescriptor y.desc).map (fun d => d.parameters.length) = some n) (hR : d + 1 ≤ R.frames ∧ 8 + (maxL + 11) + 40 * d ≤ R.locals)
    (hKc : va_K D vwCl tc s) (hex : exOk s ex) (he : ws[q0]? = some (b, .inr (ci, fs)))
    (hn : As.length = n) (hls : ls.size = nL) (hst : st0 = As.reverse ++ .ref b :: rest) (hW : (rest.map fun v => v.category).sum ≤ 8) (hdg : decode cc pc = .ok (.invokespecial index, 3)) (hf : cells + mc ≤ R.cells ∧ slots + ms ≤ R.slots)
    (hP : va_P D vwCl ws H) (hD : va_D A0 ws) (hS : va_S A0 H0 H locs) (hA : ∀ q, H0.size ≤ q → A0 q)
    (kk : ∀ (fs' : List Value) (H1 : Heap) (locs1 : List Loc), post fs' → va_P D vwCl (ws.set q0 (b, .inr (ci, fs'))) H1 → va_D A0 (ws.set q0 (b, .inr (ci, fs'))) → va_S A0 H0 H1 locs1 → W p l e R s m args below meth c H1 locs1 (cells + mc) (slots + ms) Q (F0 m (pc + 3) ls rest)) : W p l e R s m args below meth c H locs cells slots Q (F0 m pc ls st0) := by
  have hPc : va_P D vwCl [(b, .inr (ci, fs))] H := fun k q hk => by
    have h0 : k < 1 := (List.getElem?_eq_some_iff.mp hk).1
    rw [show k = 0 by omega] at hk
    cases hk
    exact hP q0 _ he
  have ht := S.2.2.2.2
  exact k_Oc he hP hD hS hA (va_runI (As := As) (rest := rest) S hM (cwI n ht (lb_GI (lb_c w5)) rfl rfl rfl (ht _ w4) (ht _ w1) (ht _ w2) hy hd hR) ⟨fun a U g mk q => ⟨q.1, q.2.1, q.2.2.1, va_K.moved (u := U) (U := U.calling g mk a) (Vm.Alike.refl U.vm) q.2.2.2.1, hex.1 a U g mk q.2.2.2.2⟩, fun U hU hW => ⟨rfl, by rw [hU], by rw [hU]; exact hPc, va_K.moved hW.alike hKc, hex.2 U hW⟩⟩ rfl hn hls hst (lv_room hW) hdg hf) kk
/-- a call of a nest mate's private constructor -/
theorem k_OIN {host : String} {b q0 ci : Nat} {fs : List Value} {tc : List (ClassId × FieldType)} {ex : State → Prop} {post : List Value → Prop} (S : CallFix p m c cc nL s args lw_B own) (hM : mOv l y bytes maxL d mc ms D b ci fs H.size tc ex (.ref b :: As) post) (n : Nat) (w1 : va_Nw (.methodLinkNest own index y host) s) (w2 : Cond.instanceMethod y ∈ lw_B) (w4 : Cond.initialized y.cls ∈ lw_B) (w5 : Cond.code y bytes maxL none ∈ lw_B) (hy : y.name = "<init>")
    (hd : y.cls ≠ "java/lang/invoke/MethodHandle" ∧ y.cls ≠ "java/lang/invoke/VarHandle" ∧ (parseMethodDescriptor y.desc).map (fun d => d.parameters.length) = some n) (hR : d + 1 ≤ R.frames ∧ 8 + (maxL + 11) + 40 * d ≤ R.locals)
    (hKc : va_K D vwCl tc s) (hex : exOk s ex) (he : ws[q0]? = some (b, .inr (ci, fs)))
    (hn : As.length = n) (hls : ls.size = nL) (hst : st0 = As.reverse ++ .ref b :: rest) (hW : (rest.map fun v => v.category).sum ≤ 8) (hdg : decode cc pc = .ok (.invokespecial index, 3)) (hf : cells + mc ≤ R.cells ∧ slots + ms ≤ R.slots)
    (hP : va_P D vwCl ws H) (hD : va_D A0 ws) (hS : va_S A0 H0 H locs) (hA : ∀ q, H0.size ≤ q → A0 q)
    (kk : ∀ (fs' : List Value) (H1 : Heap) (locs1 : List Loc), post fs' → va_P D vwCl (ws.set q0 (b, .inr (ci, fs'))) H1 → va_D A0 (ws.set q0 (b, .inr (ci, fs'))) → va_S A0 H0 H1 locs1 → W p l e R s m args below meth c H1 locs1 (cells + mc) (slots + ms) Q (F0 m (pc + 3) ls rest)) : W p l e R s m args below meth c H locs cells slots Q (F0 m pc ls st0) := by
  have hPc : va_P D vwCl [(b, .inr (ci, fs))] H := fun k q hk => by
    have h0 : k < 1 := (List.getElem?_eq_some_iff.mp hk).1
    rw [show k = 0 by omega] at hk
    cases hk
    exact hP q0 _ he
  have ht := S.2.2.2.2
  exact k_Oc he hP hD hS hA (va_runIN (As := As) (rest := rest) S hM ⟨va_cnB n ht (lb_GI (lb_c w5)) rfl rfl rfl w1 (ht _ w4) hd hR, hy, ht _ w2⟩ ⟨fun a U g mk q => ⟨q.1, q.2.1, q.2.2.1, va_K.moved (u := U) (U := U.calling g mk a) (Vm.Alike.refl U.vm) q.2.2.2.1, hex.1 a U g mk q.2.2.2.2⟩, fun U hU hW => ⟨rfl, by rw [hU], by rw [hU]; exact hPc, va_K.moved hW.alike hKc, hex.2 U hW⟩⟩ rfl hn hls hst (lv_room hW) hdg hf) kk
/-- a call of a void method that changes nothing -/
theorem k_Vv {wc : va_W} {tc : List (ClassId × FieldType)} {cl : List vw_C} {b ci q0 : Nat} {fs : List Value} {q : vw_C} (S : CallFix p m c cc nL s args lw_B own) (hM : mVv l y bytes maxL d D wc tc (.ref b :: As)) (n : Nat) (w1 : Cond.methodLink own index y ∈ lw_B) (w2 : Cond.instanceMethod y ∈ lw_B) (w3 : Cond.selects q.1 y y ∈ lw_B) (w4 : Cond.initialized q.1 ∈ lw_B) (w5 : Cond.code y bytes maxL none ∈ lw_B)
    (hd : y.cls = q.1 ∧ y.cls ≠ "java/lang/invoke/MethodHandle" ∧ y.cls ≠ "java/lang/invoke/VarHandle" ∧ (parseMethodDescriptor y.desc).map (fun d => d.parameters.length) = some n) (hR : d + 1 ≤ R.frames ∧ 8 + (maxL + 11) + 40 * d ≤ R.locals)
    (hPc : va_P D vwCl wc H) (hKc : va_K D vwCl tc s) (hc : vwCl[ci]? = some q) (he : wc[q0]? = some (b, .inr (ci, fs)))
    (hn : As.length = n) (hls : ls.size = nL) (hst : st0 = As.reverse ++ .ref b :: rest) (hW : (rest.map fun v => v.category).sum ≤ 8) (hdg : decode cc pc = .ok (.invokevirtual index, 3)) (hf : cells + 0 ≤ R.cells ∧ slots + 0 ≤ R.slots)
    (hS : va_S A0 H0 H locs) (hP : va_P D cl ws H)
    (kk : ∀ (H1 : Heap) (locs1 : List Loc), va_P D cl ws H1 → va_S A0 H0 H1 locs1 → W p l e R s m args below meth c H1 locs1 cells slots Q (F0 m (pc + 3) ls rest)) : W p l e R s m args below meth c H locs cells slots Q (F0 m pc ls st0) :=
  va_callv (va_runV (As := As) (rest := rest) S hM (cwV n S.2.2.2.2 (lb_V w1 w2 w3 w4 w5) rfl rfl rfl hd hR) ⟨fun a U g mk q => ⟨q.1, q.2.1, va_K.moved (u := U) (U := U.calling g mk a) (Vm.Alike.refl U.vm) q.2.2⟩, va_recv hKc hPc hc he, fun U hU hW => ⟨rfl, by rw [hU]; exact hPc, va_K.moved hW.alike hKc⟩⟩ rfl hn hls hst (lv_room hW) hdg hf) hS (fun _ _ h => h.elim) (fun _ h => h.elim) (fun _ _ H1 locs1 _ _ _ _ _ hk hS1 => kk H1 locs1 (hP.kept fun k q hq => hk q.1 (hP k q hq).lt id) hS1)
/-- a call of which only the answer is told; the cells wr are kept -/
theorem k_Fi {wc wr : va_W} {tc : List (ClassId × FieldType)} {ex : State → Prop} {b ci q0 : Nat} {fs : List Value} {q : vw_C} {post : Int32 → Prop} (S : CallFix p m c cc nL s args lw_B own) (hM : mFi l y bytes maxL d mc ms D wc H.size tc ex (.ref b :: As) post) (n : Nat) (w1 : Cond.methodLink own index y ∈ lw_B) (w2 : Cond.instanceMethod y ∈ lw_B) (w3 : Cond.selects q.1 y y ∈ lw_B) (w4 : Cond.initialized q.1 ∈ lw_B) (w5 : Cond.code y bytes maxL (some .int) ∈ lw_B)
    (hd : y.cls = q.1 ∧ y.cls ≠ "java/lang/invoke/MethodHandle" ∧ y.cls ≠ "java/lang/invoke/VarHandle" ∧ (parseMethodDescriptor y.desc).map (fun d => d.parameters.length) = some n) (hR : d + 1 ≤ R.frames ∧ 8 + (maxL + 11) + 40 * d ≤ R.locals)
    (hKc : va_K D vwCl tc s) (hex : exOk s ex) (hc : vwCl[ci]? = some q) (he : wc[q0]? = some (b, .inr (ci, fs))) (isC isR : List Nat) (hn0 : va_nd isC = true) (hC : isC.map (fun i => ws[i]?) = wc.map some) (hRr : isR.map (fun i => ws[i]?) = wr.map some) (hn1 : va_nd isR = true) (hdis : ∀ i ∈ isR, i ∉ isC)
    (hn : As.length = n) (hls : ls.size = nL) (hst : st0 = As.reverse ++ .ref b :: rest) (hW : (rest.map fun v => v.category).sum ≤ 8) (hdg : decode cc pc = .ok (.invokevirtual index, 3)) (hf : cells + mc ≤ R.cells ∧ slots + ms ≤ R.slots)
    (hP : va_P D vwCl ws H) (hD : va_D A0 ws) (hS : va_S A0 H0 H locs) (hA : ∀ q, H0.size ≤ q → A0 q)
    (kk : ∀ (r : Int32) (H1 : Heap) (locs1 : List Loc), post r → va_P D vwCl wr H1 → va_D A0 wr → va_S A0 H0 H1 locs1 → W p l e R s m args below meth c H1 locs1 (cells + mc) (slots + ms) Q (F0 m (pc + 3) ls (.int r :: rest))) : W p l e R s m args below meth c H locs cells slots Q (F0 m pc ls st0) := by
  have hDc : va_D A0 wc := hD.sub isC hn0 hC
  have hPc : va_P D vwCl wc H := fun k q hk => by
    have h1 : (isC.map (fun i => ws[i]?))[k]? = some (some q) := by rw [hC, List.getElem?_map, hk]; rfl
    rw [List.getElem?_map] at h1
    cases hi : isC[k]? with
    | none => rw [hi] at h1; cases h1
    | some i => rw [hi] at h1; exact hP i q (Option.some.inj h1)
  have hF := va_free (wc := wc) hD hS hA isC hC
  refine va_calli (va_runV (As := As) (rest := rest) S hM (cwV n S.2.2.2.2 (lb_V w1 w2 w3 w4 w5) rfl rfl rfl hd hR) ⟨fun a U g mk q => ⟨q.1, q.2.1, q.2.2.1, va_K.moved (u := U) (U := U.calling g mk a) (Vm.Alike.refl U.vm) q.2.2.2.1, q.2.2.2.2.1, hex.1 a U g mk q.2.2.2.2.2⟩, va_recv hKc hPc hc he, fun U hU hW => ⟨rfl, by rw [hU], by rw [hU]; exact hPc, va_K.moved hW.alike hKc, hDc.weaken (fun _ _ _ _ => trivial), hex.2 U hW⟩⟩ rfl hn hls hst (lv_room hW) hdg hf) hS (fun q _ h => hF q h) hF (fun r _ t H1 locs1 ht _ hp _ _ hk hS1 => ?_)
  obtain ⟨h1, h2⟩ := va_join (w1 := []) hP hD isC isR hC hRr hn1 hdis hk hF (fun k q h => by simp at h) ⟨fun i j p q h => by simp at h, fun k q h => by simp at h⟩
  rw [List.append_nil] at h1 h2
  exact kk r H1 locs1 hp h1 h2 hS1
/-- a loop whose rounds make nothing new: n rounds are left -/
theorem k_loop (I : Nat → Heap → List Loc → Array Slot → Prop)
    (base : ∀ (H : Heap) (locs : List Loc) (ls : Array Slot), I 0 H locs ls → W p l e R s m args below meth c H locs cells slots Q (F0 m pc ls []))
    (step : ∀ (n : Nat) (H : Heap) (locs : List Loc) (ls : Array Slot), I (n + 1) H locs ls → (∀ (H1 : Heap) (locs1 : List Loc) (ls1 : Array Slot), I n H1 locs1 ls1 → W p l e R s m args below meth c H1 locs1 cells slots Q (F0 m pc ls1 [])) → W p l e R s m args below meth c H locs cells slots Q (F0 m pc ls [])) :
    ∀ (n : Nat) (H : Heap) (locs : List Loc) (ls : Array Slot), I n H locs ls → W p l e R s m args below meth c H locs cells slots Q (F0 m pc ls []) := by
  intro n
  induction n with
  | zero => exact base
  | succ n ih => exact fun H locs ls h => step n H locs ls h ih
end KO
theorem k_r100 {x : Int32} (h : 1 ≤ x ∧ x ≤ 100) : ∃ N : Nat, 1 ≤ N ∧ N ≤ 100 ∧ x = nI N := by
  obtain ⟨j, hj, rfl⟩ := nI_of2 (M := 100) (n := 100) rfl (by have h1 := h.1; simp only [Int32.lt_iff_toInt_lt, Int32.le_iff_toInt_le, Int32.reduceToInt] at h1 ⊢; omega) h.2
  exact ⟨j, (nI_leI (a := 1) (b := j) (by decide) (by omega)).mp h.1, hj, rfl⟩
section KL
variable {p : Program} {l : Launch} {e : Env} {R : Room} {s : State} {m : MethodId} {args : Array Value} {below : List Frame} {meth : Method} {c : Code} {cells slots : Nat} {Q : State → Prop} {pc pcx : Nat}
/-- a loop with a measure n and a way out at pcx -/
theorem k_lx (I : Nat → Heap → List Loc → Array Slot → Prop) (E : Heap → List Loc → Array Slot → Prop)
    (exit : ∀ (H : Heap) (locs : List Loc) (ls : Array Slot), E H locs ls → W p l e R s m args below meth c H locs cells slots Q (F0 m pcx ls []))
    (step : ∀ (n : Nat) (H : Heap) (locs : List Loc) (ls : Array Slot), I n H locs ls → (∀ (H1 : Heap) (locs1 : List Loc) (ls1 : Array Slot), E H1 locs1 ls1 → W p l e R s m args below meth c H1 locs1 cells slots Q (F0 m pcx ls1 [])) → (∀ (k : Nat), k < n → ∀ (H1 : Heap) (locs1 : List Loc) (ls1 : Array Slot), I k H1 locs1 ls1 → W p l e R s m args below meth c H1 locs1 cells slots Q (F0 m pc ls1 [])) → W p l e R s m args below meth c H locs cells slots Q (F0 m pc ls [])) :
    ∀ (n : Nat) (H : Heap) (locs : List Loc) (ls : Array Slot), I n H locs ls → W p l e R s m args below meth c H locs cells slots Q (F0 m pc ls []) := by
  intro n
  induction n using Nat.strongRecOn with
  | ind n ih => exact fun H locs ls h => step n H locs ls h exit ih
end KL
theorem exNw {s : State} {a : String} {i : Nat} {y : MethodName} {h : String} (hw : va_Nw (.methodLinkNest a i y h) s) : exOk s (va_Nw (.methodLinkNest a i y h)) := ⟨fun _ U _ _ q => va_Nw.same rfl (u := U) rfl q, fun _ hW => va_Nw.warmM hW hw⟩
end
section
/-- how many places these sizes are for (f more at most), k counted already; 0: not as said -/
def plc : Nat → Nat → Nat → Nat
  | 0, k, r => if r = 0 then k else 0
  | f + 1, k, r => if r = 0 then k else if 1 ≤ r % 128 ∧ r % 128 ≤ 100 then plc f (k + 1) (r / 128) else 0
/-- all digits are as said; how many there are -/
def dgA : Nat → Nat → Bool
  | 0, _ => true
  | f + 1, r => if r = 0 then true else decide (1 ≤ r % 128 ∧ r % 128 ≤ 100) && dgA f (r / 128)
def dgN : Nat → Nat → Nat
  | 0, _ => 0
  | f + 1, r => if r = 0 then 0 else 1 + dgN f (r / 128)
theorem dgA_0 (f : Nat) : dgA f 0 = true := by cases f <;> simp [dgA]
theorem dgN_0 (f : Nat) : dgN f 0 = 0 := by cases f <;> simp [dgN]
theorem plc_dg : ∀ (f k r : Nat), plc f k r = if dgA (f + 1) r = true ∧ dgN (f + 1) r ≤ f then k + dgN (f + 1) r else 0
  | 0, k, r => by
    by_cases h : r = 0
    · subst h; simp [plc, dgA, dgN]
    · simp [plc, dgA, dgN, h]
  | f + 1, k, r => by
    by_cases h : r = 0
    · subst h; simp [plc, dgA, dgN]
    · by_cases g : 1 ≤ r % 128 ∧ r % 128 ≤ 100
      · have e1 : plc (f + 1) k r = plc f (k + 1) (r / 128) := by rw [plc, if_neg h, if_pos g]
        have e2 : dgA (f + 1 + 1) r = dgA (f + 1) (r / 128) := by rw [dgA, if_neg h, decide_eq_true g, Bool.true_and]
        have e3 : dgN (f + 1 + 1) r = 1 + dgN (f + 1) (r / 128) := by rw [dgN, if_neg h]
        rw [e1, e2, e3, plc_dg f (k + 1) (r / 128)]
        by_cases q : dgA (f + 1) (r / 128) = true ∧ dgN (f + 1) (r / 128) ≤ f
        · rw [if_pos q, if_pos ⟨q.1, by omega⟩]; omega
        · rw [if_neg q, if_neg (fun z => q ⟨z.1, by omega⟩)]
      · have e1 : plc (f + 1) k r = 0 := by rw [plc, if_neg h, if_neg g]
        have e2 : dgA (f + 1 + 1) r = false := by rw [dgA, if_neg h, decide_eq_false g, Bool.false_and]
        rw [e1, if_neg (fun z => by rw [e2] at z; exact absurd z.1 (by decide))]
theorem plc_le : ∀ (f k r : Nat), plc f k r ≤ k + f
  | 0, k, r => by unfold plc; split <;> omega
  | f + 1, k, r => by
    unfold plc
    split
    · omega
    · split
      · have := plc_le f (k + 1) (r / 128); omega
      · omega
/-- sizes that are as said -/
abbrev pgOk (x : Int32) : Prop := 0 < x ∧ ¬ plc 4 0 x.toNatClampNeg = 0
theorem k_128d {r : Nat} (h : r < 2 ^ 31) : nI r / 128 = nI (r / 128) := pk_div h (by decide) (by decide)
theorem k_128r {r : Nat} (h : r < 2 ^ 31) : nI r - nI r / 128 * 128 = nI (r % 128) := pk_rem h (by decide) (by decide)
theorem k_rg {r lo hi : Nat} (hr : r < 2 ^ 31) (hl : lo < 2 ^ 31) (hh : hi < 2 ^ 31) : (nI lo ≤ nI r ∧ nI r ≤ nI hi) ↔ (lo ≤ r ∧ r ≤ hi) := and_congr (nI_leI hl hr) (nI_leI hr hh)
theorem k_pos {x : Int32} (h : ¬ x ≤ 0) : ∃ X : Nat, X < 2 ^ 31 ∧ 0 < X ∧ x = nI X := by
  obtain ⟨j, hj, rfl⟩ := nI_of (x := x) (by simp only [Int32.lt_iff_toInt_lt, Int32.le_iff_toInt_le, Int32.reduceToInt] at h ⊢; omega)
  refine ⟨j, hj, ?_, rfl⟩
  rcases Nat.eq_zero_or_pos j with q | q
  · subst q; exact absurd (by decide) h
  · exact q
theorem k_pl {x r : Int32} (h : (x ≤ 0 → r = 0) ∧ ∀ X : Nat, X < 2 ^ 31 → x = nI X → r = nI (plc 4 0 X)) : (r = 0 ∧ ¬ pgOk x) ∨ (pgOk x ∧ ∃ k : Nat, 1 ≤ k ∧ k ≤ 4 ∧ r = nI k) := by
  by_cases hn : x ≤ 0
  · exact Or.inl ⟨h.1 hn, fun q => by have q1 := q.1; simp only [Int32.lt_iff_toInt_lt, Int32.le_iff_toInt_le] at hn q1; omega⟩
  · obtain ⟨X, hX, hX0, rfl⟩ := k_pos hn
    have hr := h.2 X hX rfl
    have hle := plc_le 4 0 X
    by_cases hz : plc 4 0 X = 0
    · exact Or.inl ⟨by rw [hr, hz]; rfl, fun q => q.2 (by rw [nI_clamp hX]; exact hz)⟩
    · exact Or.inr ⟨⟨(nI_lt hX0 hX : nI 0 < nI X), by rw [nI_clamp hX]; exact hz⟩, plc 4 0 X, by omega, by omega, hr⟩
theorem k_pg {X : Nat} (hX : X < 2 ^ 31) (h0 : 0 < X) : pgOk (nI X) ↔ (dgA 5 X = true ∧ dgN 5 X ≤ 4) := by
  have e : plc 4 0 X = if dgA 5 X = true ∧ dgN 5 X ≤ 4 then 0 + dgN 5 X else 0 := plc_dg 4 0 X
  have hn : 1 ≤ dgN 5 X := by rw [dgN, if_neg (by omega)]; omega
  unfold pgOk
  rw [nI_clamp hX, e]
  constructor
  · intro q
    by_cases g : dgA 5 X = true ∧ dgN 5 X ≤ 4
    · exact g
    · exact absurd (if_neg g) q.2
  · intro g
    exact ⟨(nI_lt h0 hX : nI 0 < nI X), by rw [if_pos g]; omega⟩
theorem k_cp1 (x : Int32) : (x = 0 ∨ x = 1 ∨ x = 10 ∨ x = 20) ↔ (¬ x < 0 ∧ (0 ≤ x / 10 ∧ x / 10 ≤ 2) ∧ ((x / 10 = 0 ∧ 0 ≤ x - x / 10 * 10 ∧ x - x / 10 * 10 ≤ 1) ∨ (¬ x / 10 = 0 ∧ 0 ≤ x - x / 10 * 10 ∧ x - x / 10 * 10 ≤ 0))) := by
  by_cases hn : x < 0
  · constructor
    · rintro (h | h | h | h) <;> subst h <;> exact absurd hn (by decide)
    · exact fun h => absurd hn h.1
  · obtain ⟨X, hX, rfl⟩ := nI_of hn
    have e1 : nI X / 10 = nI (X / 10) := pk_div hX (by decide) (by decide)
    have e2 : nI X - nI X / 10 * 10 = nI (X % 10) := pk_rem hX (by decide) (by decide)
    have i0 : ∀ {a b : Nat}, a < 2 ^ 31 → b < 2 ^ 31 → (nI a = nI b ↔ a = b) := fun h1 h2 => nI_eq h1 h2
    have il : ∀ {a b : Nat}, a < 2 ^ 31 → b < 2 ^ 31 → (nI a ≤ nI b ↔ a ≤ b) := fun h1 h2 => nI_leI h1 h2
    rw [e2, e1]
    have q0 : (nI X = 0 ↔ X = 0) := i0 hX (by decide)
    have q1 : (nI X = 1 ↔ X = 1) := i0 hX (by decide)
    have q10 : (nI X = 10 ↔ X = 10) := i0 hX (by decide)
    have q20 : (nI X = 20 ↔ X = 20) := i0 hX (by decide)
    have d0 : (nI (X / 10) = 0 ↔ X / 10 = 0) := i0 (by omega) (by decide)
    have d1 : (0 ≤ nI (X / 10) ↔ 0 ≤ X / 10) := il (by decide) (by omega)
    have d2 : (nI (X / 10) ≤ 2 ↔ X / 10 ≤ 2) := il (by omega) (by decide)
    have r0 : (0 ≤ nI (X % 10) ↔ 0 ≤ X % 10) := il (by decide) (by omega)
    have r1 : (nI (X % 10) ≤ 1 ↔ X % 10 ≤ 1) := il (by omega) (by decide)
    have r2 : (nI (X % 10) ≤ 0 ↔ X % 10 ≤ 0) := il (by omega) (by decide)
    rw [q0, q1, q10, q20, d0, d1, d2, r0, r1, r2]
    have hn' : ¬ nI X < 0 := hn
    constructor
    · intro h; refine ⟨hn', ?_⟩; omega
    · intro h; have := h.2; omega
theorem k_cp2 (y : Int32) : (0 ≤ y ∧ y / 4096 ≤ 4095) ↔ (0 ≤ y ∧ y ≤ 16777215) := by
  by_cases hn : y < 0
  · constructor
    · intro h; have := h.1; simp only [Int32.lt_iff_toInt_lt, Int32.le_iff_toInt_le] at hn this; omega
    · intro h; have := h.1; simp only [Int32.lt_iff_toInt_lt, Int32.le_iff_toInt_le] at hn this; omega
  · obtain ⟨Y, hY, rfl⟩ := nI_of hn
    have e1 : nI Y / 4096 = nI (Y / 4096) := pk_div hY (by decide) (by decide)
    have d1 : (nI (Y / 4096) ≤ 4095 ↔ Y / 4096 ≤ 4095) := nI_leI (by omega) (by decide)
    have d2 : (nI Y ≤ 16777215 ↔ Y ≤ 16777215) := nI_leI hY (by decide)
    rw [e1, d1, d2]
    constructor
    · intro h; exact ⟨h.1, by have := h.2; omega⟩
    · intro h; exact ⟨h.1, by have := h.2; omega⟩
/-- a campaign's numbers that are as said -/
abbrev cpOk (x y z : Int32) : Prop := (x = 0 ∨ x = 1 ∨ x = 10 ∨ x = 20) ∧ (0 ≤ y ∧ y / 4096 ≤ 4095 ∧ (y / 4096 &&& (y - y / 4096 * 4096)) = 0) ∧ ((x / 10 = 2 ∧ z = 0) ∨ (¬ x / 10 = 2 ∧ 1 ≤ z ∧ z ≤ 1000))
end
section
/-! new T[4][K]: the kit's own row for it names a module that rounds don't have; so here is one for four rows -/
/-- the tables have the class of arrays of arrays -/
def aoA (t : FieldType) (U : State) : Prop := ∃ (comp cA : ClassId) (kA : Class), U.vm.findClass (FieldType.array t).toString = some comp ∧ U.vm.classes[cA]? = some kA ∧ kA.kind = .array comp (.array t) ∧ U.vm.findClass ("[" ++ (FieldType.array t).toString) = some cA
theorem aoA_of {t : FieldType} {A : Array Value} {U : State} (h : (Cond.arrayOver (.array t)).before A U = true) : aoA t U := by
  obtain ⟨comp, cA, kA, hcomp, -, hkA, hkindA, hnameA⟩ := arrayOverA_spec h
  exact ⟨comp, cA, kA, hcomp, hkA, hkindA, hnameA⟩
theorem aoA_moved {t : FieldType} {u U : State} (hvm : u.vm.Alike U.vm) (h : aoA t u) : aoA t U := by
  obtain ⟨comp, cA, kA, h1, h2, h3, h4⟩ := h
  obtain ⟨k', hk', he⟩ := hvm.2.2 _ _ h2
  exact ⟨comp, cA, k', by rw [hvm.findClass]; exact h1, hk', by rw [he]; exact h3, by rw [hvm.findClass]; exact h4⟩
section KG
abbrev kgI (cI : ClassId) (K : Nat) (dv : Value) : Cell := { cls := cI, slots := Array.replicate K dv, vm := .none }
abbrev kgO (cA : ClassId) : Cell := { cls := cA, slots := Array.replicate 4 .null, vm := .none }
/-- i rows are made: the outer array's cell is read off the heap -/
def kgF (V : State) (cA cI : ClassId) (K : Nat) (dv : Value) : Nat → State
  | 0 => V.pushCell (kgO cA)
  | i + 1 => ((kgF V cA cI K dv i).pushCell (kgI cI K dv)).setCell V.heap.size ((((kgF V cA cI K dv i).heap[V.heap.size]?).getD (kgO cA)).setSlot i (.ref (kgF V cA cI K dv i).heap.size))
theorem kgF_top (V : State) (f : JFrame) (cA cI : ClassId) (K : Nat) (dv : Value) : ∀ i, kgF (V.setTop f) cA cI K dv i = (kgF V cA cI K dv i).setTop f
  | 0 => rfl
  | i + 1 => by simp only [kgF, kgF_top V f cA cI K dv i, State.heap_setTop, State.pushCell_setTop, State.setCell_setTop]
/-- what holds behind i rows -/
def kgG (V U : State) (cA : ClassId) (i : Nat) : Prop := U.heap.size = V.heap.size + 1 + i ∧ (∃ o : Cell, U.heap[V.heap.size]? = some o ∧ o.cls = cA ∧ o.vm = .none ∧ o.slots.size = 4) ∧ (∀ a, a < V.heap.size → U.heap[a]? = V.heap[a]?) ∧ U.vm = V.vm
theorem kgF_G (V : State) (cA cI : ClassId) (K : Nat) (dv : Value) : ∀ i, kgG V (kgF V cA cI K dv i) cA i
  | 0 => ⟨by simp [kgF], ⟨kgO cA, by simp [kgF], rfl, rfl, by simp⟩, fun a h => State.heap_pushCell_of_lt _ _ h, rfl⟩
  | i + 1 => by
    obtain ⟨h1, ⟨o, h2, h3, h4, h5⟩, h6, h7⟩ := kgF_G V cA cI K dv i
    have hlt : V.heap.size < (kgF V cA cI K dv i).heap.size := by omega
    have hp : ((kgF V cA cI K dv i).pushCell (kgI cI K dv)).heap[V.heap.size]? = some o := by rw [State.heap_pushCell_of_lt (h := hlt)]; exact h2
    have hg : ((kgF V cA cI K dv i).heap[V.heap.size]?).getD (kgO cA) = o := by rw [h2]; rfl
    refine ⟨?_, ⟨o.setSlot i (.ref (kgF V cA cI K dv i).heap.size), ?_, by simp [Cell.setSlot, h3], by simp [Cell.setSlot, h4], by simp [Cell.setSlot, h5]⟩, fun a h => ?_, ?_⟩
    · simp [kgF, State.setCell, h1]; omega
    · rw [kgF, hg]; exact State.heap_setCell_self hp
    · have hla : a < (kgF V cA cI K dv i).heap.size := by omega
      rw [kgF, State.heap_setCell_other (Nat.ne_of_gt h), State.heap_pushCell_of_lt (h := hla)]
      exact h6 a h
    · simp [kgF, h7]
variable {p : Program} {l : Launch} {e : Env} {R : Room} {s : State} {m : MethodId} {args : Array Value} {below : List Frame} {meth : Method} {c : Code} {cells slots : Nat} {locs : List Loc}
theorem kgF_X {V : State} (X : Stand p l e R s m args below meth c V locs cells slots) (cA cI : ClassId) (K : Nat) (dv : Value) : ∀ i, ∃ L : List Loc, Stand p l e R s m args below meth c (kgF V cA cI K dv i) (locs ++ L) (cells + 1 + i) (slots + 4 + i * K) ∧ ∀ x ∈ L, x.base = V.heap.size
  | 0 => ⟨[], by
      have h := X.pushed (kgO cA)
      rw [show (kgO cA).slots.size = 4 by simp] at h
      simpa [kgF] using h, fun x h => by cases h⟩
  | i + 1 => by
    obtain ⟨L, Xi, hL⟩ := kgF_X X cA cI K dv i
    obtain ⟨h1, ⟨o, h2, h3, h4, h5⟩, h6, h7⟩ := kgF_G V cA cI K dv i
    have hlt : V.heap.size < (kgF V cA cI K dv i).heap.size := by omega
    have hp : ((kgF V cA cI K dv i).pushCell (kgI cI K dv)).heap[V.heap.size]? = some o := by rw [State.heap_pushCell_of_lt (h := hlt)]; exact h2
    have hg : ((kgF V cA cI K dv i).heap[V.heap.size]?).getD (kgO cA) = o := by rw [h2]; rfl
    have h := (Xi.pushed (kgI cI K dv)).stored hp i (.ref (kgF V cA cI K dv i).heap.size)
    rw [show (kgI cI K dv).slots.size = K by simp] at h
    refine ⟨L ++ [⟨V.heap.size, i⟩], ?_, fun x hx => ?_⟩
    · rw [kgF, hg, ← List.append_assoc, show slots + 4 + (i + 1) * K = slots + 4 + i * K + K by rw [Nat.succ_mul]; omega]
      exact h
    · rcases List.mem_append.mp hx with q | q
      · exact hL x q
      · rw [List.mem_singleton.mp q]
theorem kg_ref {t : FieldType} (v : Addr) : fits (.array t) (.ref v) = true := rfl
/-- the machine's own 'make' of four rows -/
theorem kg_make {E : CtlPost} {d : Bool} {acts : List Action} {V : State} {cA cI cc : ClassId} {kA kC : Class} {ty : FieldType} {k : Int32} (X : Stand p l e R s m args below meth c V locs cells slots) (f : JFrame)
    (hkA : V.vm.classes[cA]? = some kA) (hkindA : kA.kind = .array cI (.array ty)) (hkC : V.vm.classes[cI]? = some kC) (hkindC : kC.kind = .array cc ty) (hk : ¬ k < 0)
    (hl1 : ¬ 4 > e.platform.arrayLengthLimit) (hh1 : ¬ 4 * componentBytes (.array ty) > e.platform.maxHeapBytes) (hl2 : ¬ k.toNatClampNeg > e.platform.arrayLengthLimit) (hh2 : ¬ k.toNatClampNeg * componentBytes ty > e.platform.maxHeapBytes)
    (hdf : fits ty (defaultValue ty) = true) (hcells : cells + 5 ≤ R.cells) (hslots : slots + (4 + 4 * k.toNatClampNeg) ≤ R.slots)
    {Q : Addr → Pre} (hq : ∀ d' acts', Q V.heap.size d' acts' ((kgF V cA cI k.toNatClampNeg (defaultValue ty) 4).setTop f)) :
    wp (multianewarray.make cA [4, k]) Q E e d acts (V.setTop f) := by
  have h4 : (4 : Int32).toNatClampNeg = 4 := by decide
  have hf4 : ¬ (4 : Int32) < 0 := by decide
  have hfind : ([k].find? (· < 0)) = none := by simp [hk]
  have hroom : ∀ i, i ≤ 4 → (kgF V cA cI k.toNatClampNeg (defaultValue ty) i).heap.size + (4 - i) ≤ e.platform.maxCells ∧ (kgF V cA cI k.toNatClampNeg (defaultValue ty) i).slotsUsed + (4 - i) * k.toNatClampNeg ≤ e.platform.maxSlots := fun i hi => by
    obtain ⟨L, Xi, -⟩ := kgF_X X cA cI k.toNatClampNeg (defaultValue ty) i
    have hm : i * k.toNatClampNeg + (4 - i) * k.toNatClampNeg = 4 * k.toNatClampNeg := by rw [← Nat.add_mul, Nat.add_sub_cancel' hi]
    exact Xi.roomAbove (by omega) (by omega)
  obtain ⟨r1, r2⟩ := X.roomAbove (show cells + 1 ≤ R.cells by omega) (show slots + 4 ≤ R.slots by omega)
  rw [multianewarray.make]
  simp only [wp_bind', W.ite, hf4, if_false, wp_pure', W.theClass, State.vm_setTop, hkA, hkindA, Option.some.injEq, exists_eq_left', h4]
  refine W.newArray_of (k := kA) (comp := cI) (type := .array ty) (by exact hkA) hkindA hl1 hh1 (by show V.heap.size < _; omega) (by show V.slotsUsed + 4 ≤ _; omega) rfl (fun acts1 => ?_)
  simp only [hfind]
  rw [ite_self, wp_bind', Std.Legacy.Range.forIn_eq_forIn_range']
  show wp (forIn (List.range' 0 4 1) PUnit.unit _) _ E e d acts1 _
  refine wp_forIn_inv (fun rest U => ∃ i, i ≤ 4 ∧ rest = List.range' i (4 - i) ∧ U = (kgF V cA cI k.toNatClampNeg (defaultValue ty) i).setTop f) _ _ ⟨0, Nat.zero_le _, rfl, rfl⟩ ?_ ?_
  · rintro x rest U d' acts' Q' ⟨i, hi, hl, rfl⟩ hnext
    have hlt : i < 4 := by
      rcases Nat.lt_or_ge i 4 with h | h
      · exact h
      · rw [show 4 - i = 0 by omega] at hl; simp at hl
    rw [show 4 - i = (4 - (i + 1)) + 1 by omega, List.range'_succ] at hl
    obtain ⟨rfl, hrest⟩ := List.cons.inj hl
    obtain ⟨g1, ⟨o, g2, g3, g4, g5⟩, -, g7⟩ := kgF_G V cA cI k.toNatClampNeg (defaultValue ty) x
    obtain ⟨q1, q2⟩ := hroom x (by omega)
    have hmul : k.toNatClampNeg ≤ (4 - x) * k.toNatClampNeg := Nat.le_mul_of_pos_left _ (by omega)
    simp only [wp_bind']
    rw [multianewarray.make]
    simp only [wp_bind', W.ite, hk, if_false, wp_pure', W.theClass, State.vm_setTop, g7, hkC, hkindC, Option.some.injEq, exists_eq_left']
    refine W.newArray_of (k := kC) (comp := cc) (type := ty) (by show (kgF V cA cI _ _ x).vm.classes[cI]? = _; rw [g7]; exact hkC) hkindC hl2 hh2 (by show (kgF V cA cI _ _ x).heap.size < _; omega) (by show (kgF V cA cI _ _ x).slotsUsed + _ ≤ _; omega) hdf (fun acts2 => ?_)
    simp only [wp_bind', W.writeLoc, wp_pure']
    have hsz : V.heap.size < (kgF V cA cI k.toNatClampNeg (defaultValue ty) x).heap.size := by omega
    refine ⟨o, ?_, by rw [g4]; simp, by rw [g5]; exact hlt, ?_, hnext _ _ _ ⟨x + 1, hlt, hrest, ?_⟩⟩
    · show ((kgF V cA cI k.toNatClampNeg (defaultValue ty) x).pushCell _).heap[V.heap.size]? = some o
      rw [State.heap_pushCell_of_lt (h := hsz)]; exact g2
    · rw [g3, g4]
      simp [State.fitsSlot, State.slotType?, g7, hkA, hkindA, kg_ref]
    · rw [kgF, g2]
      rfl
  · rintro U d' acts' ⟨i, hi, hl, rfl⟩
    have hi4 : i = 4 := by
      rcases Nat.lt_or_ge i 4 with h | h
      · rw [show 4 - i = (4 - (i + 1)) + 1 by omega, List.range'_succ] at hl; cases hl
      · omega
    subst hi4
    simp only [wp_pure']
    exact hq _ _
variable {H : Heap} {Q : State → Prop} {A : Nat → Prop} {H0 : Heap} {D : va_G} {cl : List vw_C} {ws : va_W} {pc : Nat} {ls : Array Slot} {rest : List Value}
theorem k_grid {cc : ByteArray} (hexec : p.tables.exec = Jvm.exec) (hb : c.code = cc) {own : String} {index : Nat} {ty : FieldType} (hown : s.vm.findClass own = some m.cls) (hclink : (Cond.classLink own index ("[" ++ (FieldType.array ty).toString)).before args s = true) (hover : aoA ty s) (harr : (Cond.arrayClass ty).before args s = true)
    {k : Int32} {K : Nat} (hk : ¬ k < 0) (hK : k.toNatClampNeg = K) (hb2 : K * componentBytes ty ≤ 536870912) (hb3 : K ≤ 536870912) (hdf : fits ty (defaultValue ty) = true) (hcells : cells + 5 ≤ R.cells) (hslots : slots + (4 + 4 * K) ≤ R.slots) (hdg : decode cc pc = .ok (.multianewarray index 2, 4))
    (hP : va_P D cl ws H) (hS : va_S A H0 H locs) (hA : ∀ q, H0.size ≤ q → A q)
    (kk : ∀ (q : Nat) (H1 : Heap) (locs1 : List Loc), va_P D cl ws H1 → va_S A H0 H1 locs1 → W p l e R s m args below meth c H1 locs1 (cells + 5) (slots + (4 + 4 * K)) Q (F0 m (pc + 4) ls (.ref q :: rest))) : W p l e R s m args below meth c H locs cells slots Q (F0 m pc ls (.int k :: .int 4 :: rest)) := by
  intro T hT X
  subst hT; subst hb; subst hK
  have hpl : e.platform.magicAccessors = ({} : Platform).magicAccessors := by rw [X.admits.platform]
  obtain ⟨comp, cA, kA, hcomp, hkA, hkindA, hnameA⟩ := hover
  obtain ⟨comp', kC, cC, hcomp', hkC, hkindC⟩ := Cond.arrayClass_spec harr
  cases hcomp'.symm.trans hcomp
  obtain ⟨c0, hfc0, hcl⟩ := Cond.classLink_spec hown hclink e.platform hpl
  cases hnameA.symm.trans hfc0
  obtain ⟨hg₁, hwarm₁, hready₁⟩ := State.classEntry (e := e) X.warmed hcl
  generalize T.vm.noted m.cls index (.cls cA) = vm₁ at hg₁ hwarm₁ hready₁
  have hal : s.vm.Alike vm₁ := hwarm₁.alike
  obtain ⟨kA₁, hkA₁, heA⟩ := hal.2.2 _ _ hkA
  obtain ⟨kC₁, hkC₁, heC⟩ := hal.2.2 _ _ hkC
  have hkindA₁ : kA₁.kind = .array comp (.array ty) := by rw [heA]; exact hkindA
  have hkindC₁ : kC₁.kind = .array cC ty := by rw [heC]; exact hkindC
  have X₁ := X.noted hwarm₁
  have hl1 : ¬ 4 > e.platform.arrayLengthLimit := by rw [Launch.admits_arrayLengthLimit X.admits]; omega
  have hh1 : ¬ 4 * componentBytes (.array ty) > e.platform.maxHeapBytes := by
    rw [Launch.admits_maxHeapBytes X.admits]; show ¬ 4 * 4 > 536870912; omega
  have hl2 : ¬ k.toNatClampNeg > e.platform.arrayLengthLimit := by rw [Launch.admits_arrayLengthLimit X.admits]; omega
  have hh2 : ¬ k.toNatClampNeg * componentBytes ty > e.platform.maxHeapBytes := by rw [Launch.admits_maxHeapBytes X.admits]; omega
  obtain ⟨L, XF, hL⟩ := kgF_X X₁ cA comp k.toNatClampNeg (defaultValue ty) 4
  obtain ⟨g1, -, g3, -⟩ := kgF_G (T.setVm vm₁) cA comp k.toNatClampNeg (defaultValue ty) 4
  have hsame : ∀ a, a < T.heap.size → (kgF (T.setVm vm₁) cA comp k.toNatClampNeg (defaultValue ty) 4).heap[a]? = T.heap[a]? := g3
  have hsz : (kgF (T.setVm vm₁) cA comp k.toNatClampNeg (defaultValue ty) 4).heap.size = T.heap.size + 1 + 4 := g1
  have XF : Stand p l e R s m args below meth c (kgF (T.setVm vm₁) cA comp k.toNatClampNeg (defaultValue ty) 4) (locs ++ L) (cells + 5) (slots + (4 + 4 * k.toNatClampNeg)) := by
    have q := XF
    rw [show cells + 1 + 4 = cells + 5 by omega, show slots + 4 + 4 * k.toNatClampNeg = slots + (4 + 4 * k.toNatClampNeg) by omega] at q
    exact q
  obtain ⟨t, a1, b1⟩ := kk T.heap.size _ (locs ++ L) (hP.kept (fun i q hq => hsame q.1 (hP i q hq).lt)) ⟨by rw [hsz]; have := hS.1; omega, fun q h1 h2 => (hsame q (Nat.lt_of_lt_of_le h1 hS.1)).trans (hS.2.1 q h1 h2), fun x hx => by
    rcases List.mem_append.mp hx with q | q
    · exact hS.2.2 x q
    · rw [hL x q]; exact hA _ hS.1⟩ _ rfl XF
  refine ⟨t, ?_, b1⟩
  jvm_step X.here [hexec, hdg]
  simp only [multianewarray.sem, wp_bind', W.resolveClassAt_links (State.method?_setTop (F0 m pc ls (.int k :: .int 4 :: rest)) X.here.top) hg₁]
  rw [W.popN, if_neg (by decide)]
  refine ⟨F0 m pc ls (.int k :: .int 4 :: rest), State.topJava?_setTop' (s := T.setVm vm₁) _ X.here.top, [.int 4, .int k], rest, rfl, rfl, ?_⟩
  simp only [List.mapM_cons, List.mapM_nil, wp_bind', wp_pure']
  have eS : ((T.setTop (F0 m pc ls (.int k :: .int 4 :: rest))).setVm vm₁).setTop (F0 m pc ls rest) = (T.setVm vm₁).setTop (F0 m pc ls rest) := by
    show ((T.setVm vm₁).setTop _).setTop _ = _
    rw [State.setTop_setTop]
  show wp _ _ _ e _ _ (((T.setTop (F0 m pc ls (.int k :: .int 4 :: rest))).setVm vm₁).setTop (F0 m pc ls rest))
  rw [eS]
  refine kg_make X₁ (F0 m pc ls rest) hkA₁ hkindA₁ hkC₁ hkindC₁ hk hl1 hh1 hl2 hh2 hdf hcells hslots (fun d' acts' => ?_)
  simp only [wp_bind', W.mark, W.pushRef, State.topJava?_setTop' _ XF.here.top, Option.some.injEq, exists_eq_left', State.setTop_setTop, State.heap_setTop]
  intro acts
  simp [jvm, XF.here.top]
  exact a1
end KG
/-- what Giver() needs of the tables beside the words; what NoticeMarket() needs -/
abbrev exG (U : State) : Prop := aoA .long U ∧ aoA .int U
abbrev exC (U : State) : Prop := va_AO RX2 U ∧ va_AO RX0 U ∧ va_AO RX3 U ∧ exG U ∧ va_Nw (.methodLinkNest RX5 33 yX1_init "NoticeMarket") U
theorem exG_ok {s : State} (h : exG s) : exOk s exG := ⟨fun _ U _ _ q => ⟨aoA_moved (u := U) (Vm.Alike.refl U.vm) q.1, aoA_moved (u := U) (Vm.Alike.refl U.vm) q.2⟩, fun _ hW => ⟨aoA_moved hW.alike h.1, aoA_moved hW.alike h.2⟩⟩
theorem exC_ok {s : State} (h : exC s) : exOk s exC := ⟨fun a U g mk q => ⟨va_AO.moved (u := U) (Vm.Alike.refl U.vm) q.1, va_AO.moved (u := U) (Vm.Alike.refl U.vm) q.2.1, va_AO.moved (u := U) (Vm.Alike.refl U.vm) q.2.2.1, (exG_ok q.2.2.2.1).1 a U g mk q.2.2.2.1, va_Nw.same rfl (u := U) rfl q.2.2.2.2⟩, fun U hW => ⟨va_AO.moved hW.alike h.1, va_AO.moved hW.alike h.2.1, va_AO.moved hW.alike h.2.2.1, (exG_ok h.2.2.2.1).2 U hW, va_Nw.warmM hW h.2.2.2.2⟩⟩
theorem k_same {D : va_G} {cl : List vw_C} {tys : List (ClassId × FieldType)} {s : State} {i j : Nat} {c1 c2 : ClassId} (hK : va_K D cl tys s) (h1 : tys[i]? = some (c1, .int)) (h2 : tys[j]? = some (c2, .int)) : c2 = c1 := Option.some.inj ((hK.2 j _ h2).2.symm.trans (hK.2 i _ h1).2)
/-- a constructor whose world is told whole -/
abbrev mN {S : Type} (l : Launch) (y : MethodName) (bytes : ByteArray) (maxL : Nat) (d mc ms : Nat) (D : va_G) (b ci : Nat) (fs : List Value) (sz : Nat) (ex : State → Prop) (As : List Value) (post : S → Prop) (w1 : S → va_W) (t1 : S → List (ClassId × FieldType)) : Prop :=
  Met l y (Cond.code y bytes maxL none :: lw_B) (rmD d mc ms) (va_Pc As (fun U => U.heap.size = sz ∧ va_P D vwCl [(b, .inr (ci, fs))] U.heap ∧ va_K D vwCl [] U ∧ va_D (fun _ => True) [(b, .inr (ci, fs))] ∧ ex U)) (va_Qv post (fun u U => va_P D vwCl (w1 u) U.heap ∧ va_K D vwCl (t1 u) U ∧ va_D (va_A [(b, .inr (ci, fs))] sz) (w1 u)) (va_A [(b, .inr (ci, fs))] sz)) mc ms (va_A [(b, .inr (ci, fs))] sz)
section KN
variable {p : Program} {l : Launch} {e : Env} {R : Room} {s : State} {m : MethodId} {args : Array Value} {below : List Frame} {meth : Method} {c : Code} {H : Heap} {locs : List Loc} {cells slots : Nat} {Q : State → Prop}
variable {A0 : Nat → Prop} {H0 : Heap} {D : va_G} {ws : va_W} {pc : Nat} {ls : Array Slot} {st0 rest : List Value} {y : MethodName} {bytes cc : ByteArray} {maxL nL index d n mc ms : Nat} {own : String} {As : List Value}
theorem k_N {S : Type} {b q0 ci : Nat} {fs : List Value} {tys : List (ClassId × FieldType)} {ex : State → Prop} {post : S → Prop} {w1 : S → va_W} {t1 : S → List (ClassId × FieldType)} {wr : va_W} (C : CallFix p m c cc nL s args lw_B own) (hM : mN l y bytes maxL d mc ms D b ci fs H.size ex (.ref b :: As) post w1 t1) (n : Nat) (w1' : Cond.methodLink own index y ∈ lw_B) (w2 : Cond.instanceMethod y ∈ lw_B) (w4 : Cond.initialized y.cls ∈ lw_B) (w5 : Cond.code y bytes maxL none ∈ lw_B) (hy : y.name = "<init>")
    (hd : y.cls ≠ "java/lang/invoke/MethodHandle" ∧ y.cls ≠ "java/lang/invoke/VarHandle" ∧ (parseMethodDescriptor y.desc).map (fun d => d.parameters.length) = some n) (hR : d + 1 ≤ R.frames ∧ 8 + (maxL + 11) + 40 * d ≤ R.locals)
    (hK : va_K D vwCl tys s) (hex : exOk s ex) (he : ws[q0]? = some (b, .inr (ci, fs))) (isR : List Nat) (hRr : isR.map (fun i => ws[i]?) = wr.map some) (hn1 : va_nd isR = true) (hdis : ∀ i ∈ isR, i ∉ [q0])
    (hn : As.length = n) (hls : ls.size = nL) (hst : st0 = As.reverse ++ .ref b :: rest) (hW : (rest.map fun v => v.category).sum ≤ 8) (hdg : decode cc pc = .ok (.invokespecial index, 3)) (hf : cells + mc ≤ R.cells ∧ slots + ms ≤ R.slots)
    (hP : va_P D vwCl ws H) (hD : va_D A0 ws) (hS : va_S A0 H0 H locs) (hA : ∀ q, H0.size ≤ q → A0 q)
    (kk : ∀ (u : S) (H1 : Heap) (locs1 : List Loc), post u → va_K D vwCl (tys ++ t1 u) s → va_P D vwCl (wr ++ w1 u) H1 → va_D A0 (wr ++ w1 u) → va_S A0 H0 H1 locs1 → W p l e R s m args below meth c H1 locs1 (cells + mc) (slots + ms) Q (F0 m (pc + 3) ls rest)) : W p l e R s m args below meth c H locs cells slots Q (F0 m pc ls st0) := by
  have hC : [q0].map (fun i => ws[i]?) = ([(b, .inr (ci, fs))] : va_W).map some := by simp [he]
  have hPc : va_P D vwCl [(b, .inr (ci, fs))] H := fun k q hk => by
    have h0 : k < 1 := (List.getElem?_eq_some_iff.mp hk).1
    rw [show k = 0 by omega] at hk
    cases hk
    exact hP q0 _ he
  have hDc : va_D A0 [(b, .inr (ci, fs))] := hD.sub [q0] (by simp [va_nd]) hC
  have hF := va_free (wc := [(b, .inr (ci, fs))]) hD hS hA [q0] hC
  have ht := C.2.2.2.2
  refine va_callv (va_runI (As := As) (rest := rest) C hM (cwI n ht (lb_GI (lb_c w5)) rfl rfl rfl (ht _ w4) (ht _ w1') (ht _ w2) hy hd hR) ⟨fun a U g mk q => ⟨q.1, q.2.1, q.2.2.1, va_K.moved (u := U) (U := U.calling g mk a) (Vm.Alike.refl U.vm) q.2.2.2.1, q.2.2.2.2.1, hex.1 a U g mk q.2.2.2.2.2⟩, fun U hU hW => ⟨rfl, by rw [hU], by rw [hU]; exact hPc, va_K.moved hW.alike (hK.sub (tys' := []) [] rfl), hDc.weaken (fun _ _ _ _ => trivial), hex.2 U hW⟩⟩ rfl hn hls hst (lv_room hW) hdg hf) hS (fun q _ h => hF q h) hF (fun u t H1 locs1 ht1 hvm hp hB _ hk hS1 => ?_)
  obtain ⟨hP1, hK1, hD1⟩ := hB
  rw [ht1] at hP1
  obtain ⟨h1, h2⟩ := va_join hP hD [q0] isR hC hRr hn1 hdis hk hF hP1 hD1
  exact kk u H1 locs1 hp (hK.app (va_K.moved hvm.symm hK1)) h1 h2 hS1
end KN
end
section
set_option maxHeartbeats 4000000 in
set_option maxRecDepth 100000 in
theorem c_isWithin (l : Launch) (x a b : Int32) : mS l yX5_isWithin cX5_isWithin 3 .boolean 0 [.int x, .int a, .int b] (fun r => r = if a ≤ x ∧ x ≤ b then 1 else 0) := by
  refine Met.ofW (cc := cX5_isWithin) (maxL := 3) (ret := some .boolean) (by decide) rfl ?_
  intro p e s m args below meth c s₁ B hml hv
  obtain ⟨rfl, -⟩ := hv
  have hx := B.exec
  have hb := B.bytes
  have hr := B.returns
  have hlocks := B.notSynchronized
  have hts0 := atoms_spec (ws := Cond.code yX5_isWithin cX5_isWithin 3 (some .boolean) :: lw_B) B.pre
  have hts : ∀ w ∈ lw_B, w.before _ s = true := fun w h => hts0 w (List.mem_cons_of_mem _ h)
  have hown : s.vm.findClass RX5 = some m.cls := findClass_of_methodNamed B.named
  have hS : va_S (fun _ => False) s.heap s.heap [] := va_S.rf
  have hP : va_P (fun _ => 0, fun _ _ => 0) vwCl [] s.heap := fun k q h => by simp at h
  have hl := lv_entry ([.int x, .int a, .int b]) (n := 3) (Nat.le_of_ble_eq_true rfl)
  rw [lg_entry_eq]
  generalize (lg_sl ([.int x, .int a, .int b]) ++ List.replicate (3 - (lg_sl ([.int x, .int a, .int b])).length) Slot.unset).toArray = ls at hl ⊢
  have hl : lv_has ls 3 [(0, .int x), (1, .int a), (2, .int b)] := hl
  refine lv_iload_n hx hb dX5_isWithin_0 rfl (lv_at hl 0 rfl) ?_
  refine lv_iload_n hx hb dX5_isWithin_1 rfl (lv_at hl 1 rfl) ?_
  refine lv_icmp_lt (tgt := 14) hx hb dX5_isWithin_2 (by decide) (fun c_1 => ?_) (fun c_1 => ?_)
  · skip
    refine lv_iconst (v := 0) hx hb dX5_isWithin_14 (by decide) ?_
    exact W.zret (v := 0) hx hb hr rfl (fun t ht hW => ⟨⟨0, (), rfl, (by simp only [Int32.lt_iff_toInt_lt, Int32.le_iff_toInt_le, ← Int32.toInt_inj, Int32.reduceToInt] at c_1; exact (if_neg (by simp only [Int32.lt_iff_toInt_lt, Int32.le_iff_toInt_le, ← Int32.toInt_inj, Int32.reduceToInt]; omega)).symm), trivial⟩, hS.F ht⟩) hS.2.2 dX5_isWithin_15
  · skip
    refine lv_iload_n hx hb dX5_isWithin_5 rfl (lv_at hl 0 rfl) ?_
    refine lv_iload_n hx hb dX5_isWithin_6 rfl (lv_at hl 2 rfl) ?_
    refine lv_icmp_gt (tgt := 14) hx hb dX5_isWithin_7 (by decide) (fun c_2 => ?_) (fun c_2 => ?_)
    · skip
      refine lv_iconst (v := 0) hx hb dX5_isWithin_14 (by decide) ?_
      exact W.zret (v := 0) hx hb hr rfl (fun t ht hW => ⟨⟨0, (), rfl, (by simp only [Int32.lt_iff_toInt_lt, Int32.le_iff_toInt_le, ← Int32.toInt_inj, Int32.reduceToInt] at c_1 c_2; exact (if_neg (by simp only [Int32.lt_iff_toInt_lt, Int32.le_iff_toInt_le, ← Int32.toInt_inj, Int32.reduceToInt]; omega)).symm), trivial⟩, hS.F ht⟩) hS.2.2 dX5_isWithin_15
    · skip
      refine lv_iconst (v := 1) hx hb dX5_isWithin_10 (by decide) ?_
      refine lv_goto (tgt := 15) hx hb dX5_isWithin_11 (by decide) ?_
      exact W.zret (v := 1) hx hb hr rfl (fun t ht hW => ⟨⟨1, (), rfl, (by simp only [Int32.lt_iff_toInt_lt, Int32.le_iff_toInt_le, ← Int32.toInt_inj, Int32.reduceToInt] at c_1 c_2; exact (if_pos (by simp only [Int32.lt_iff_toInt_lt, Int32.le_iff_toInt_le, ← Int32.toInt_inj, Int32.reduceToInt]; omega)).symm), trivial⟩, hS.F ht⟩) hS.2.2 dX5_isWithin_15
set_option maxHeartbeats 4000000 in
set_option maxRecDepth 100000 in
theorem c_in (l : Launch) (x a b : Int32) : mS l yX6_in cX6_in 3 .boolean 0 [.int x, .int a, .int b] (fun r => r = if a ≤ x ∧ x ≤ b then 1 else 0) := by
  refine Met.ofW (cc := cX6_in) (maxL := 3) (ret := some .boolean) (by decide) rfl ?_
  intro p e s m args below meth c s₁ B hml hv
  obtain ⟨rfl, -⟩ := hv
  have hx := B.exec
  have hb := B.bytes
  have hr := B.returns
  have hlocks := B.notSynchronized
  have hts0 := atoms_spec (ws := Cond.code yX6_in cX6_in 3 (some .boolean) :: lw_B) B.pre
  have hts : ∀ w ∈ lw_B, w.before _ s = true := fun w h => hts0 w (List.mem_cons_of_mem _ h)
  have hown : s.vm.findClass RX6 = some m.cls := findClass_of_methodNamed B.named
  have hS : va_S (fun _ => False) s.heap s.heap [] := va_S.rf
  have hP : va_P (fun _ => 0, fun _ _ => 0) vwCl [] s.heap := fun k q h => by simp at h
  have hl := lv_entry ([.int x, .int a, .int b]) (n := 3) (Nat.le_of_ble_eq_true rfl)
  rw [lg_entry_eq]
  generalize (lg_sl ([.int x, .int a, .int b]) ++ List.replicate (3 - (lg_sl ([.int x, .int a, .int b])).length) Slot.unset).toArray = ls at hl ⊢
  have hl : lv_has ls 3 [(0, .int x), (1, .int a), (2, .int b)] := hl
  refine lv_iload_n hx hb dX6_in_0 rfl (lv_at hl 0 rfl) ?_
  refine lv_iload_n hx hb dX6_in_1 rfl (lv_at hl 1 rfl) ?_
  refine lv_icmp_lt (tgt := 14) hx hb dX6_in_2 (by decide) (fun c_1 => ?_) (fun c_1 => ?_)
  · skip
    refine lv_iconst (v := 0) hx hb dX6_in_14 (by decide) ?_
    exact W.zret (v := 0) hx hb hr rfl (fun t ht hW => ⟨⟨0, (), rfl, (by simp only [Int32.lt_iff_toInt_lt, Int32.le_iff_toInt_le, ← Int32.toInt_inj, Int32.reduceToInt] at c_1; exact (if_neg (by simp only [Int32.lt_iff_toInt_lt, Int32.le_iff_toInt_le, ← Int32.toInt_inj, Int32.reduceToInt]; omega)).symm), trivial⟩, hS.F ht⟩) hS.2.2 dX6_in_15
  · skip
    refine lv_iload_n hx hb dX6_in_5 rfl (lv_at hl 0 rfl) ?_
    refine lv_iload_n hx hb dX6_in_6 rfl (lv_at hl 2 rfl) ?_
    refine lv_icmp_gt (tgt := 14) hx hb dX6_in_7 (by decide) (fun c_2 => ?_) (fun c_2 => ?_)
    · skip
      refine lv_iconst (v := 0) hx hb dX6_in_14 (by decide) ?_
      exact W.zret (v := 0) hx hb hr rfl (fun t ht hW => ⟨⟨0, (), rfl, (by simp only [Int32.lt_iff_toInt_lt, Int32.le_iff_toInt_le, ← Int32.toInt_inj, Int32.reduceToInt] at c_1 c_2; exact (if_neg (by simp only [Int32.lt_iff_toInt_lt, Int32.le_iff_toInt_le, ← Int32.toInt_inj, Int32.reduceToInt]; omega)).symm), trivial⟩, hS.F ht⟩) hS.2.2 dX6_in_15
    · skip
      refine lv_iconst (v := 1) hx hb dX6_in_10 (by decide) ?_
      refine lv_goto (tgt := 15) hx hb dX6_in_11 (by decide) ?_
      exact W.zret (v := 1) hx hb hr rfl (fun t ht hW => ⟨⟨1, (), rfl, (by simp only [Int32.lt_iff_toInt_lt, Int32.le_iff_toInt_le, ← Int32.toInt_inj, Int32.reduceToInt] at c_1 c_2; exact (if_pos (by simp only [Int32.lt_iff_toInt_lt, Int32.le_iff_toInt_le, ← Int32.toInt_inj, Int32.reduceToInt]; omega)).symm), trivial⟩, hS.F ht⟩) hS.2.2 dX6_in_15
set_option maxHeartbeats 4000000 in
set_option maxRecDepth 100000 in
theorem c_isReader (l : Launch) (x : Int32) : mS l yX5_isReader cX5_isReader 1 .boolean 0 [.int x] (fun r => r = if 0 ≤ x ∧ x ≤ 99 then 1 else 0) := by
  refine Met.ofW (cc := cX5_isReader) (maxL := 1) (ret := some .boolean) (by decide) rfl ?_
  intro p e s m args below meth c s₁ B hml hv
  obtain ⟨rfl, -⟩ := hv
  have hx := B.exec
  have hb := B.bytes
  have hr := B.returns
  have hlocks := B.notSynchronized
  have hts0 := atoms_spec (ws := Cond.code yX5_isReader cX5_isReader 1 (some .boolean) :: lw_B) B.pre
  have hts : ∀ w ∈ lw_B, w.before _ s = true := fun w h => hts0 w (List.mem_cons_of_mem _ h)
  have hown : s.vm.findClass RX5 = some m.cls := findClass_of_methodNamed B.named
  have hS : va_S (fun _ => False) s.heap s.heap [] := va_S.rf
  have hP : va_P (fun _ => 0, fun _ _ => 0) vwCl [] s.heap := fun k q h => by simp at h
  have hl := lv_entry ([.int x]) (n := 1) (Nat.le_of_ble_eq_true rfl)
  rw [lg_entry_eq]
  generalize (lg_sl ([.int x]) ++ List.replicate (1 - (lg_sl ([.int x])).length) Slot.unset).toArray = ls at hl ⊢
  have hl : lv_has ls 1 [(0, .int x)] := hl
  refine lv_iload_n hx hb dX5_isReader_0 rfl (lv_at hl 0 rfl) ?_
  refine lv_if_lt (tgt := 14) hx hb dX5_isReader_1 (by decide) (fun c_1 => ?_) (fun c_1 => ?_)
  · skip
    refine lv_iconst (v := 0) hx hb dX5_isReader_14 (by decide) ?_
    exact W.zret (v := 0) hx hb hr rfl (fun t ht hW => ⟨⟨0, (), rfl, (by simp only [Int32.lt_iff_toInt_lt, Int32.le_iff_toInt_le, ← Int32.toInt_inj, Int32.reduceToInt] at c_1; exact (if_neg (by simp only [Int32.lt_iff_toInt_lt, Int32.le_iff_toInt_le, ← Int32.toInt_inj, Int32.reduceToInt]; omega)).symm), trivial⟩, hS.F ht⟩) hS.2.2 dX5_isReader_15
  · skip
    refine lv_iload_n hx hb dX5_isReader_4 rfl (lv_at hl 0 rfl) ?_
    refine lv_bipush (v := 100) hx hb dX5_isReader_5 (by decide) ?_
    refine lv_icmp_ge (tgt := 14) hx hb dX5_isReader_7 (by decide) (fun c_2 => ?_) (fun c_2 => ?_)
    · skip
      refine lv_iconst (v := 0) hx hb dX5_isReader_14 (by decide) ?_
      exact W.zret (v := 0) hx hb hr rfl (fun t ht hW => ⟨⟨0, (), rfl, (by simp only [Int32.lt_iff_toInt_lt, Int32.le_iff_toInt_le, ← Int32.toInt_inj, Int32.reduceToInt] at c_1 c_2; exact (if_neg (by simp only [Int32.lt_iff_toInt_lt, Int32.le_iff_toInt_le, ← Int32.toInt_inj, Int32.reduceToInt]; omega)).symm), trivial⟩, hS.F ht⟩) hS.2.2 dX5_isReader_15
    · skip
      refine lv_iconst (v := 1) hx hb dX5_isReader_10 (by decide) ?_
      refine lv_goto (tgt := 15) hx hb dX5_isReader_11 (by decide) ?_
      exact W.zret (v := 1) hx hb hr rfl (fun t ht hW => ⟨⟨1, (), rfl, (by simp only [Int32.lt_iff_toInt_lt, Int32.le_iff_toInt_le, ← Int32.toInt_inj, Int32.reduceToInt] at c_1 c_2; exact (if_pos (by simp only [Int32.lt_iff_toInt_lt, Int32.le_iff_toInt_le, ← Int32.toInt_inj, Int32.reduceToInt]; omega)).symm), trivial⟩, hS.F ht⟩) hS.2.2 dX5_isReader_15
set_option maxHeartbeats 4000000 in
set_option maxRecDepth 100000 in
theorem c_isSort (l : Launch) (x : Int32) : mS l yX5_isSort cX5_isSort 1 .boolean 0 [.int x] (fun r => r = if x = 0 ∨ x = 1 ∨ x = 10 ∨ x = 20 then 1 else 0) := by
  refine Met.ofW (cc := cX5_isSort) (maxL := 1) (ret := some .boolean) (by decide) rfl ?_
  intro p e s m args below meth c s₁ B hml hv
  obtain ⟨rfl, -⟩ := hv
  have hx := B.exec
  have hb := B.bytes
  have hr := B.returns
  have hlocks := B.notSynchronized
  have hts0 := atoms_spec (ws := Cond.code yX5_isSort cX5_isSort 1 (some .boolean) :: lw_B) B.pre
  have hts : ∀ w ∈ lw_B, w.before _ s = true := fun w h => hts0 w (List.mem_cons_of_mem _ h)
  have hown : s.vm.findClass RX5 = some m.cls := findClass_of_methodNamed B.named
  have hS : va_S (fun _ => False) s.heap s.heap [] := va_S.rf
  have hP : va_P (fun _ => 0, fun _ _ => 0) vwCl [] s.heap := fun k q h => by simp at h
  have hl := lv_entry ([.int x]) (n := 1) (Nat.le_of_ble_eq_true rfl)
  rw [lg_entry_eq]
  generalize (lg_sl ([.int x]) ++ List.replicate (1 - (lg_sl ([.int x])).length) Slot.unset).toArray = ls at hl ⊢
  have hl : lv_has ls 1 [(0, .int x)] := hl
  refine lv_iload_n hx hb dX5_isSort_0 rfl (lv_at hl 0 rfl) ?_
  refine lv_if_eq (tgt := 21) hx hb dX5_isSort_1 (by decide) (fun c_1 => ?_) (fun c_1 => ?_)
  · skip
    refine lv_iconst (v := 1) hx hb dX5_isSort_21 (by decide) ?_
    refine lv_goto (tgt := 26) hx hb dX5_isSort_22 (by decide) ?_
    exact W.zret (v := 1) hx hb hr rfl (fun t ht hW => ⟨⟨1, (), rfl, (by simp only [Int32.lt_iff_toInt_lt, Int32.le_iff_toInt_le, ← Int32.toInt_inj, Int32.reduceToInt] at c_1; exact (if_pos (by simp only [Int32.lt_iff_toInt_lt, Int32.le_iff_toInt_le, ← Int32.toInt_inj, Int32.reduceToInt]; omega)).symm), trivial⟩, hS.F ht⟩) hS.2.2 dX5_isSort_26
  · skip
    refine lv_iload_n hx hb dX5_isSort_4 rfl (lv_at hl 0 rfl) ?_
    refine lv_iconst (v := 1) hx hb dX5_isSort_5 (by decide) ?_
    refine lv_icmp_eq (tgt := 21) hx hb dX5_isSort_6 (by decide) (fun c_2 => ?_) (fun c_2 => ?_)
    · skip
      refine lv_iconst (v := 1) hx hb dX5_isSort_21 (by decide) ?_
      refine lv_goto (tgt := 26) hx hb dX5_isSort_22 (by decide) ?_
      exact W.zret (v := 1) hx hb hr rfl (fun t ht hW => ⟨⟨1, (), rfl, (by simp only [Int32.lt_iff_toInt_lt, Int32.le_iff_toInt_le, ← Int32.toInt_inj, Int32.reduceToInt] at c_1 c_2; exact (if_pos (by simp only [Int32.lt_iff_toInt_lt, Int32.le_iff_toInt_le, ← Int32.toInt_inj, Int32.reduceToInt]; omega)).symm), trivial⟩, hS.F ht⟩) hS.2.2 dX5_isSort_26
    · skip
      refine lv_iload_n hx hb dX5_isSort_9 rfl (lv_at hl 0 rfl) ?_
      refine lv_bipush (v := 10) hx hb dX5_isSort_10 (by decide) ?_
      refine lv_icmp_eq (tgt := 21) hx hb dX5_isSort_12 (by decide) (fun c_3 => ?_) (fun c_3 => ?_)
      · skip
        refine lv_iconst (v := 1) hx hb dX5_isSort_21 (by decide) ?_
        refine lv_goto (tgt := 26) hx hb dX5_isSort_22 (by decide) ?_
        exact W.zret (v := 1) hx hb hr rfl (fun t ht hW => ⟨⟨1, (), rfl, (by simp only [Int32.lt_iff_toInt_lt, Int32.le_iff_toInt_le, ← Int32.toInt_inj, Int32.reduceToInt] at c_1 c_2 c_3; exact (if_pos (by simp only [Int32.lt_iff_toInt_lt, Int32.le_iff_toInt_le, ← Int32.toInt_inj, Int32.reduceToInt]; omega)).symm), trivial⟩, hS.F ht⟩) hS.2.2 dX5_isSort_26
      · skip
        refine lv_iload_n hx hb dX5_isSort_15 rfl (lv_at hl 0 rfl) ?_
        refine lv_bipush (v := 20) hx hb dX5_isSort_16 (by decide) ?_
        refine lv_icmp_ne (tgt := 25) hx hb dX5_isSort_18 (by decide) (fun c_4 => ?_) (fun c_4 => ?_)
        · skip
          refine lv_iconst (v := 0) hx hb dX5_isSort_25 (by decide) ?_
          exact W.zret (v := 0) hx hb hr rfl (fun t ht hW => ⟨⟨0, (), rfl, (by simp only [Int32.lt_iff_toInt_lt, Int32.le_iff_toInt_le, ← Int32.toInt_inj, Int32.reduceToInt] at c_1 c_2 c_3 c_4; exact (if_neg (by simp only [Int32.lt_iff_toInt_lt, Int32.le_iff_toInt_le, ← Int32.toInt_inj, Int32.reduceToInt]; omega)).symm), trivial⟩, hS.F ht⟩) hS.2.2 dX5_isSort_26
        · skip
          refine lv_iconst (v := 1) hx hb dX5_isSort_21 (by decide) ?_
          refine lv_goto (tgt := 26) hx hb dX5_isSort_22 (by decide) ?_
          exact W.zret (v := 1) hx hb hr rfl (fun t ht hW => ⟨⟨1, (), rfl, (by simp only [Int32.lt_iff_toInt_lt, Int32.le_iff_toInt_le, ← Int32.toInt_inj, Int32.reduceToInt] at c_1 c_2 c_3 c_4; exact (if_pos (by simp only [Int32.lt_iff_toInt_lt, Int32.le_iff_toInt_le, ← Int32.toInt_inj, Int32.reduceToInt]; omega)).symm), trivial⟩, hS.F ht⟩) hS.2.2 dX5_isSort_26
set_option maxHeartbeats 4000000 in
set_option maxRecDepth 100000 in
theorem c_isWish (l : Launch) (x : Int32) : mS l yX5_isWish cX5_isWish 1 .boolean 0 [.int x] (fun r => r = if 0 ≤ x ∧ x / 4096 ≤ 4095 ∧ (x / 4096 &&& (x - x / 4096 * 4096)) = 0 then 1 else 0) := by
  refine Met.ofW (cc := cX5_isWish) (maxL := 1) (ret := some .boolean) (by decide) rfl ?_
  intro p e s m args below meth c s₁ B hml hv
  obtain ⟨rfl, -⟩ := hv
  have hx := B.exec
  have hb := B.bytes
  have hr := B.returns
  have hlocks := B.notSynchronized
  have hts0 := atoms_spec (ws := Cond.code yX5_isWish cX5_isWish 1 (some .boolean) :: lw_B) B.pre
  have hts : ∀ w ∈ lw_B, w.before _ s = true := fun w h => hts0 w (List.mem_cons_of_mem _ h)
  have hown : s.vm.findClass RX5 = some m.cls := findClass_of_methodNamed B.named
  have hS : va_S (fun _ => False) s.heap s.heap [] := va_S.rf
  have hP : va_P (fun _ => 0, fun _ _ => 0) vwCl [] s.heap := fun k q h => by simp at h
  have hl := lv_entry ([.int x]) (n := 1) (Nat.le_of_ble_eq_true rfl)
  rw [lg_entry_eq]
  generalize (lg_sl ([.int x]) ++ List.replicate (1 - (lg_sl ([.int x])).length) Slot.unset).toArray = ls at hl ⊢
  have hl : lv_has ls 1 [(0, .int x)] := hl
  refine lv_iload_n hx hb dX5_isWish_0 rfl (lv_at hl 0 rfl) ?_
  refine lv_if_lt (tgt := 15) hx hb dX5_isWish_1 (by decide) (fun c_1 => ?_) (fun c_1 => ?_)
  · skip
    refine lv_iconst (v := 0) hx hb dX5_isWish_15 (by decide) ?_
    exact W.zret (v := 0) hx hb hr rfl (fun t ht hW => ⟨⟨0, (), rfl, (by simp only [Int32.lt_iff_toInt_lt, Int32.le_iff_toInt_le, ← Int32.toInt_inj, Int32.reduceToInt] at c_1; exact (if_neg (by simp only [Int32.lt_iff_toInt_lt, Int32.le_iff_toInt_le, ← Int32.toInt_inj, Int32.reduceToInt]; omega)).symm), trivial⟩, hS.F ht⟩) hS.2.2 dX5_isWish_16
  · skip
    refine lv_iload_n hx hb dX5_isWish_4 rfl (lv_at hl 0 rfl) ?_
    refine lv_sipush (v := 4096) hx hb dX5_isWish_5 (by decide) ?_
    refine lv_idiv hx hb dX5_isWish_8 (by decide) ?_
    refine lv_topi (fun x_2 ex_2 => ?_)
    refine lv_sipush (v := 4095) hx hb dX5_isWish_9 (by decide) ?_
    refine lv_icmp_le (tgt := 17) hx hb dX5_isWish_12 (by decide) (fun c_3 => ?_) (fun c_3 => ?_)
    · skip
      refine lv_iload_n hx hb dX5_isWish_17 rfl (lv_at hl 0 rfl) ?_
      refine lv_sipush (v := 4096) hx hb dX5_isWish_18 (by decide) ?_
      refine lv_idiv hx hb dX5_isWish_21 (by decide) ?_
      refine lv_topi (fun x_4 ex_4 => ?_)
      refine lv_iload_n hx hb dX5_isWish_22 rfl (lv_at hl 0 rfl) ?_
      refine lv_sipush (v := 4096) hx hb dX5_isWish_23 (by decide) ?_
      refine lv_irem hx hb dX5_isWish_26 (by decide) ?_
      refine lv_topi (fun x_5 ex_5 => ?_)
      refine lv_iand hx hb dX5_isWish_27 ?_
      refine lv_topi (fun x_6 ex_6 => ?_)
      refine lv_if_ne (tgt := 35) hx hb dX5_isWish_28 (by decide) (fun c_7 => ?_) (fun c_7 => ?_)
      · skip
        refine lv_iconst (v := 0) hx hb dX5_isWish_35 (by decide) ?_
        exact W.zret (v := 0) hx hb hr rfl (fun t ht hW => ⟨⟨0, (), rfl, (by subst ex_2 ex_4 ex_5 ex_6; simp only [Int32.lt_iff_toInt_lt, Int32.le_iff_toInt_le, ← Int32.toInt_inj, Int32.reduceToInt] at c_1 c_3 c_7; exact (if_neg (by simp only [Int32.lt_iff_toInt_lt, Int32.le_iff_toInt_le, ← Int32.toInt_inj, Int32.reduceToInt]; omega)).symm), trivial⟩, hS.F ht⟩) hS.2.2 dX5_isWish_36
      · skip
        refine lv_iconst (v := 1) hx hb dX5_isWish_31 (by decide) ?_
        refine lv_goto (tgt := 36) hx hb dX5_isWish_32 (by decide) ?_
        exact W.zret (v := 1) hx hb hr rfl (fun t ht hW => ⟨⟨1, (), rfl, (by subst ex_2 ex_4 ex_5 ex_6; simp only [Int32.lt_iff_toInt_lt, Int32.le_iff_toInt_le, ← Int32.toInt_inj, Int32.reduceToInt] at c_1 c_3 c_7; exact (if_pos (by simp only [Int32.lt_iff_toInt_lt, Int32.le_iff_toInt_le, ← Int32.toInt_inj, Int32.reduceToInt]; omega)).symm), trivial⟩, hS.F ht⟩) hS.2.2 dX5_isWish_36
    · skip
      refine lv_iconst (v := 0) hx hb dX5_isWish_15 (by decide) ?_
      exact W.zret (v := 0) hx hb hr rfl (fun t ht hW => ⟨⟨0, (), rfl, (by subst ex_2; simp only [Int32.lt_iff_toInt_lt, Int32.le_iff_toInt_le, ← Int32.toInt_inj, Int32.reduceToInt] at c_1 c_3; exact (if_neg (by simp only [Int32.lt_iff_toInt_lt, Int32.le_iff_toInt_le, ← Int32.toInt_inj, Int32.reduceToInt]; omega)).symm), trivial⟩, hS.F ht⟩) hS.2.2 dX5_isWish_16
set_option maxHeartbeats 4000000 in
set_option maxRecDepth 100000 in
theorem c_isBid (l : Launch) (x y : Int32) : mS l yX5_isBid cX5_isBid 2 .boolean 1 [.int x, .int y] (fun r => r = if (x = 2 ∧ y = 0) ∨ (¬ x = 2 ∧ 1 ≤ y ∧ y ≤ 1000) then 1 else 0) := by
  refine Met.ofW (cc := cX5_isBid) (maxL := 2) (ret := some .boolean) (by decide) rfl ?_
  intro p e s m args below meth c s₁ B hml hv
  obtain ⟨rfl, -⟩ := hv
  have hx := B.exec
  have hb := B.bytes
  have hr := B.returns
  have hlocks := B.notSynchronized
  have hts0 := atoms_spec (ws := Cond.code yX5_isBid cX5_isBid 2 (some .boolean) :: lw_B) B.pre
  have hts : ∀ w ∈ lw_B, w.before _ s = true := fun w h => hts0 w (List.mem_cons_of_mem _ h)
  have hown : s.vm.findClass RX5 = some m.cls := findClass_of_methodNamed B.named
  have hS : va_S (fun _ => False) s.heap s.heap [] := va_S.rf
  have hP : va_P (fun _ => 0, fun _ _ => 0) vwCl [] s.heap := fun k q h => by simp at h
  have hl := lv_entry ([.int x, .int y]) (n := 2) (Nat.le_of_ble_eq_true rfl)
  rw [lg_entry_eq]
  generalize (lg_sl ([.int x, .int y]) ++ List.replicate (2 - (lg_sl ([.int x, .int y])).length) Slot.unset).toArray = ls at hl ⊢
  have hl : lv_has ls 2 [(0, .int x), (1, .int y)] := hl
  refine lv_iload_n hx hb dX5_isBid_0 rfl (lv_at hl 0 rfl) ?_
  refine lv_iconst (v := 2) hx hb dX5_isBid_1 (by decide) ?_
  refine lv_icmp_ne (tgt := 17) hx hb dX5_isBid_2 (by decide) (fun c_1 => ?_) (fun c_1 => ?_)
  · skip
    refine lv_iload_n hx hb dX5_isBid_17 rfl (lv_at hl 1 rfl) ?_
    refine lv_iconst (v := 1) hx hb dX5_isBid_18 (by decide) ?_
    refine lv_sipush (v := 1000) hx hb dX5_isBid_19 (by decide) ?_
    refine k_S ⟨hx, hb, hml, hown, hts⟩ (c_isWithin l y 1 1000) 3 wm_0 wm_1 wm_2 wm_3 (by decide +kernel) ⟨Nat.le_of_ble_eq_true rfl, Nat.le_of_ble_eq_true rfl⟩ rfl hl.1 rfl (Nat.le_of_ble_eq_true rfl) dX5_isBid_22 ⟨Nat.le_of_ble_eq_true rfl, Nat.le_of_ble_eq_true rfl⟩ hS hP (fun r_2 H locs hpr_2 hP hS => ?_)
    exact W.zret (v := r_2) hx hb hr (by rw [hpr_2]; split <;> rfl) (fun t ht hW => ⟨⟨r_2, (), rfl, (hpr_2.trans (k_ite (by simp only [Int32.lt_iff_toInt_lt, Int32.le_iff_toInt_le, ← Int32.toInt_inj, Int32.reduceToInt] at c_1 ⊢; omega) 1 0)), trivial⟩, hS.F ht⟩) hS.2.2 dX5_isBid_25
  · skip
    refine lv_iload_n hx hb dX5_isBid_5 rfl (lv_at hl 1 rfl) ?_
    refine lv_if_ne (tgt := 13) hx hb dX5_isBid_6 (by decide) (fun c_3 => ?_) (fun c_3 => ?_)
    · skip
      refine lv_iconst (v := 0) hx hb dX5_isBid_13 (by decide) ?_
      refine lv_goto (tgt := 25) hx hb dX5_isBid_14 (by decide) ?_
      exact W.zret (v := 0) hx hb hr rfl (fun t ht hW => ⟨⟨0, (), rfl, (by simp only [Int32.lt_iff_toInt_lt, Int32.le_iff_toInt_le, ← Int32.toInt_inj, Int32.reduceToInt] at c_1 c_3; exact (if_neg (by simp only [Int32.lt_iff_toInt_lt, Int32.le_iff_toInt_le, ← Int32.toInt_inj, Int32.reduceToInt]; omega)).symm), trivial⟩, hS.F ht⟩) hS.2.2 dX5_isBid_25
    · skip
      refine lv_iconst (v := 1) hx hb dX5_isBid_9 (by decide) ?_
      refine lv_goto (tgt := 25) hx hb dX5_isBid_10 (by decide) ?_
      exact W.zret (v := 1) hx hb hr rfl (fun t ht hW => ⟨⟨1, (), rfl, (by simp only [Int32.lt_iff_toInt_lt, Int32.le_iff_toInt_le, ← Int32.toInt_inj, Int32.reduceToInt] at c_1 c_3; exact (if_pos (by simp only [Int32.lt_iff_toInt_lt, Int32.le_iff_toInt_le, ← Int32.toInt_inj, Int32.reduceToInt]; omega)).symm), trivial⟩, hS.F ht⟩) hS.2.2 dX5_isBid_25
set_option maxHeartbeats 4000000 in
set_option maxRecDepth 100000 in
theorem c_mReader (l : Launch) (x : Int32) : mS l yX6_isReader cX6_isReader 1 .boolean 1 [.int x] (fun r => r = if 0 ≤ x ∧ x ≤ 99 then 1 else 0) := by
  refine Met.ofW (cc := cX6_isReader) (maxL := 1) (ret := some .boolean) (by decide) rfl ?_
  intro p e s m args below meth c s₁ B hml hv
  obtain ⟨rfl, -⟩ := hv
  have hx := B.exec
  have hb := B.bytes
  have hr := B.returns
  have hlocks := B.notSynchronized
  have hts0 := atoms_spec (ws := Cond.code yX6_isReader cX6_isReader 1 (some .boolean) :: lw_B) B.pre
  have hts : ∀ w ∈ lw_B, w.before _ s = true := fun w h => hts0 w (List.mem_cons_of_mem _ h)
  have hown : s.vm.findClass RX6 = some m.cls := findClass_of_methodNamed B.named
  have hS : va_S (fun _ => False) s.heap s.heap [] := va_S.rf
  have hP : va_P (fun _ => 0, fun _ _ => 0) vwCl [] s.heap := fun k q h => by simp at h
  have hl := lv_entry ([.int x]) (n := 1) (Nat.le_of_ble_eq_true rfl)
  rw [lg_entry_eq]
  generalize (lg_sl ([.int x]) ++ List.replicate (1 - (lg_sl ([.int x])).length) Slot.unset).toArray = ls at hl ⊢
  have hl : lv_has ls 1 [(0, .int x)] := hl
  refine lv_iload_n hx hb dX6_isReader_0 rfl (lv_at hl 0 rfl) ?_
  refine lv_iconst (v := 0) hx hb dX6_isReader_1 (by decide) ?_
  refine lv_bipush (v := 99) hx hb dX6_isReader_2 (by decide) ?_
  refine k_S ⟨hx, hb, hml, hown, hts⟩ (c_in l x 0 99) 3 wm_4 wm_5 wm_6 wm_7 (by decide +kernel) ⟨Nat.le_of_ble_eq_true rfl, Nat.le_of_ble_eq_true rfl⟩ rfl hl.1 rfl (Nat.le_of_ble_eq_true rfl) dX6_isReader_4 ⟨Nat.le_of_ble_eq_true rfl, Nat.le_of_ble_eq_true rfl⟩ hS hP (fun r_1 H locs hpr_1 hP hS => ?_)
  exact W.zret (v := r_1) hx hb hr (by rw [hpr_1]; split <;> rfl) (fun t ht hW => ⟨⟨r_1, (), rfl, hpr_1, trivial⟩, hS.F ht⟩) hS.2.2 dX6_isReader_7
end
section
set_option maxHeartbeats 4000000 in
set_option maxRecDepth 100000 in
theorem c_isPage (l : Launch) (dC : Nat → ClassId) (dI : Nat → Nat → Nat) (h0 : Nat) (fs : List Value) (n x : Int32) (hf7 : fs[7]? = some (.int n)) : mV l yX5_isPage cX5_isPage 2 .boolean 0 (dC, dI) [(h0, .inr (5, fs))] [] [.ref h0, .int x] (fun r => r = if 0 ≤ x ∧ x < n then 1 else 0) := by
  refine Met.ofW (cc := cX5_isPage) (maxL := 2) (ret := some .boolean) (by decide) rfl ?_
  intro p e s m args below meth c s₁ B hml hv
  obtain ⟨rfl, hP, hK⟩ := hv
  have hx := B.exec
  have hb := B.bytes
  have hr := B.returns
  have hlocks := B.notSynchronized
  have hts0 := atoms_spec (ws := Cond.code yX5_isPage cX5_isPage 2 (some .boolean) :: lw_B) B.pre
  have hts : ∀ w ∈ lw_B, w.before _ s = true := fun w h => hts0 w (List.mem_cons_of_mem _ h)
  have hown : s.vm.findClass RX5 = some m.cls := findClass_of_methodNamed B.named
  have hS : va_S (fun _ => False) s.heap s.heap [] := va_S.rf
  have hl := lv_entry ([.ref h0, .int x]) (n := 2) (Nat.le_of_ble_eq_true rfl)
  rw [lg_entry_eq]
  generalize (lg_sl ([.ref h0, .int x]) ++ List.replicate (2 - (lg_sl ([.ref h0, .int x])).length) Slot.unset).toArray = ls at hl ⊢
  have hl : lv_has ls 2 [(0, .ref h0), (1, .int x)] := hl
  refine lv_iload_n hx hb dX5_isPage_0 rfl (lv_at hl 1 rfl) ?_
  refine lv_if_lt (tgt := 16) hx hb dX5_isPage_1 (by decide) (fun c_1 => ?_) (fun c_1 => ?_)
  · skip
    refine lv_iconst (v := 0) hx hb dX5_isPage_16 (by decide) ?_
    exact W.zret (v := 0) hx hb hr rfl (fun t ht hW => ⟨⟨0, (), rfl, (by simp only [Int32.lt_iff_toInt_lt, Int32.le_iff_toInt_le, ← Int32.toInt_inj, Int32.reduceToInt] at c_1; exact (if_neg (by simp only [Int32.lt_iff_toInt_lt, Int32.le_iff_toInt_le, ← Int32.toInt_inj, Int32.reduceToInt]; omega)).symm), trivial⟩, hS.F ht⟩) hS.2.2 dX5_isPage_17
  · skip
    refine lv_iload_n hx hb dX5_isPage_4 rfl (lv_at hl 1 rfl) ?_
    refine lv_aload_n hx hb dX5_isPage_5 rfl (lv_at hl 0 rfl) ?_
    refine va_get (D := (dC, dI)) (ci := 5) (v := .int n) (C := RX5) (T := TX5) (N := 17) hx hb hts uB5 hown hK hP 0 rfl rfl 7 (by decide) (hts _ wm_8) (fun _ h9 => h9) hf7 dX5_isPage_6 ?_
    refine lv_icmp_ge (tgt := 16) hx hb dX5_isPage_9 (by decide) (fun c_2 => ?_) (fun c_2 => ?_)
    · skip
      refine lv_iconst (v := 0) hx hb dX5_isPage_16 (by decide) ?_
      exact W.zret (v := 0) hx hb hr rfl (fun t ht hW => ⟨⟨0, (), rfl, (by simp only [Int32.lt_iff_toInt_lt, Int32.le_iff_toInt_le, ← Int32.toInt_inj, Int32.reduceToInt] at c_1 c_2; exact (if_neg (by simp only [Int32.lt_iff_toInt_lt, Int32.le_iff_toInt_le, ← Int32.toInt_inj, Int32.reduceToInt]; omega)).symm), trivial⟩, hS.F ht⟩) hS.2.2 dX5_isPage_17
    · skip
      refine lv_iconst (v := 1) hx hb dX5_isPage_12 (by decide) ?_
      refine lv_goto (tgt := 17) hx hb dX5_isPage_13 (by decide) ?_
      exact W.zret (v := 1) hx hb hr rfl (fun t ht hW => ⟨⟨1, (), rfl, (by simp only [Int32.lt_iff_toInt_lt, Int32.le_iff_toInt_le, ← Int32.toInt_inj, Int32.reduceToInt] at c_1 c_2; exact (if_pos (by simp only [Int32.lt_iff_toInt_lt, Int32.le_iff_toInt_le, ← Int32.toInt_inj, Int32.reduceToInt]; omega)).symm), trivial⟩, hS.F ht⟩) hS.2.2 dX5_isPage_17
set_option maxHeartbeats 4000000 in
set_option maxRecDepth 100000 in
theorem c_isCampaign (l : Launch) (dC : Nat → ClassId) (dI : Nat → Nat → Nat) (h0 : Nat) (fs : List Value) (n x : Int32) (hf8 : fs[8]? = some (.int n)) : mV l yX5_isCampaign cX5_isCampaign 2 .boolean 0 (dC, dI) [(h0, .inr (5, fs))] [] [.ref h0, .int x] (fun r => r = if 0 ≤ x ∧ x < n then 1 else 0) := by
  refine Met.ofW (cc := cX5_isCampaign) (maxL := 2) (ret := some .boolean) (by decide) rfl ?_
  intro p e s m args below meth c s₁ B hml hv
  obtain ⟨rfl, hP, hK⟩ := hv
  have hx := B.exec
  have hb := B.bytes
  have hr := B.returns
  have hlocks := B.notSynchronized
  have hts0 := atoms_spec (ws := Cond.code yX5_isCampaign cX5_isCampaign 2 (some .boolean) :: lw_B) B.pre
  have hts : ∀ w ∈ lw_B, w.before _ s = true := fun w h => hts0 w (List.mem_cons_of_mem _ h)
  have hown : s.vm.findClass RX5 = some m.cls := findClass_of_methodNamed B.named
  have hS : va_S (fun _ => False) s.heap s.heap [] := va_S.rf
  have hl := lv_entry ([.ref h0, .int x]) (n := 2) (Nat.le_of_ble_eq_true rfl)
  rw [lg_entry_eq]
  generalize (lg_sl ([.ref h0, .int x]) ++ List.replicate (2 - (lg_sl ([.ref h0, .int x])).length) Slot.unset).toArray = ls at hl ⊢
  have hl : lv_has ls 2 [(0, .ref h0), (1, .int x)] := hl
  refine lv_iload_n hx hb dX5_isCampaign_0 rfl (lv_at hl 1 rfl) ?_
  refine lv_if_lt (tgt := 16) hx hb dX5_isCampaign_1 (by decide) (fun c_1 => ?_) (fun c_1 => ?_)
  · skip
    refine lv_iconst (v := 0) hx hb dX5_isCampaign_16 (by decide) ?_
    exact W.zret (v := 0) hx hb hr rfl (fun t ht hW => ⟨⟨0, (), rfl, (by simp only [Int32.lt_iff_toInt_lt, Int32.le_iff_toInt_le, ← Int32.toInt_inj, Int32.reduceToInt] at c_1; exact (if_neg (by simp only [Int32.lt_iff_toInt_lt, Int32.le_iff_toInt_le, ← Int32.toInt_inj, Int32.reduceToInt]; omega)).symm), trivial⟩, hS.F ht⟩) hS.2.2 dX5_isCampaign_17
  · skip
    refine lv_iload_n hx hb dX5_isCampaign_4 rfl (lv_at hl 1 rfl) ?_
    refine lv_aload_n hx hb dX5_isCampaign_5 rfl (lv_at hl 0 rfl) ?_
    refine va_get (D := (dC, dI)) (ci := 5) (v := .int n) (C := RX5) (T := TX5) (N := 17) hx hb hts uB5 hown hK hP 0 rfl rfl 8 (by decide) (hts _ wm_9) (fun _ h9 => h9) hf8 dX5_isCampaign_6 ?_
    refine lv_icmp_ge (tgt := 16) hx hb dX5_isCampaign_9 (by decide) (fun c_2 => ?_) (fun c_2 => ?_)
    · skip
      refine lv_iconst (v := 0) hx hb dX5_isCampaign_16 (by decide) ?_
      exact W.zret (v := 0) hx hb hr rfl (fun t ht hW => ⟨⟨0, (), rfl, (by simp only [Int32.lt_iff_toInt_lt, Int32.le_iff_toInt_le, ← Int32.toInt_inj, Int32.reduceToInt] at c_1 c_2; exact (if_neg (by simp only [Int32.lt_iff_toInt_lt, Int32.le_iff_toInt_le, ← Int32.toInt_inj, Int32.reduceToInt]; omega)).symm), trivial⟩, hS.F ht⟩) hS.2.2 dX5_isCampaign_17
    · skip
      refine lv_iconst (v := 1) hx hb dX5_isCampaign_12 (by decide) ?_
      refine lv_goto (tgt := 17) hx hb dX5_isCampaign_13 (by decide) ?_
      exact W.zret (v := 1) hx hb hr rfl (fun t ht hW => ⟨⟨1, (), rfl, (by simp only [Int32.lt_iff_toInt_lt, Int32.le_iff_toInt_le, ← Int32.toInt_inj, Int32.reduceToInt] at c_1 c_2; exact (if_pos (by simp only [Int32.lt_iff_toInt_lt, Int32.le_iff_toInt_le, ← Int32.toInt_inj, Int32.reduceToInt]; omega)).symm), trivial⟩, hS.F ht⟩) hS.2.2 dX5_isCampaign_17
set_option maxHeartbeats 4000000 in
set_option maxRecDepth 100000 in
theorem c_isSale (l : Launch) (dC : Nat → ClassId) (dI : Nat → Nat → Nat) (h0 : Nat) (fs : List Value) (n x : Int32) (hf9 : fs[9]? = some (.int n)) : mV l yX5_isSale cX5_isSale 2 .boolean 0 (dC, dI) [(h0, .inr (5, fs))] [] [.ref h0, .int x] (fun r => r = if 0 ≤ x ∧ x < n then 1 else 0) := by
  refine Met.ofW (cc := cX5_isSale) (maxL := 2) (ret := some .boolean) (by decide) rfl ?_
  intro p e s m args below meth c s₁ B hml hv
  obtain ⟨rfl, hP, hK⟩ := hv
  have hx := B.exec
  have hb := B.bytes
  have hr := B.returns
  have hlocks := B.notSynchronized
  have hts0 := atoms_spec (ws := Cond.code yX5_isSale cX5_isSale 2 (some .boolean) :: lw_B) B.pre
  have hts : ∀ w ∈ lw_B, w.before _ s = true := fun w h => hts0 w (List.mem_cons_of_mem _ h)
  have hown : s.vm.findClass RX5 = some m.cls := findClass_of_methodNamed B.named
  have hS : va_S (fun _ => False) s.heap s.heap [] := va_S.rf
  have hl := lv_entry ([.ref h0, .int x]) (n := 2) (Nat.le_of_ble_eq_true rfl)
  rw [lg_entry_eq]
  generalize (lg_sl ([.ref h0, .int x]) ++ List.replicate (2 - (lg_sl ([.ref h0, .int x])).length) Slot.unset).toArray = ls at hl ⊢
  have hl : lv_has ls 2 [(0, .ref h0), (1, .int x)] := hl
  refine lv_iload_n hx hb dX5_isSale_0 rfl (lv_at hl 1 rfl) ?_
  refine lv_if_lt (tgt := 16) hx hb dX5_isSale_1 (by decide) (fun c_1 => ?_) (fun c_1 => ?_)
  · skip
    refine lv_iconst (v := 0) hx hb dX5_isSale_16 (by decide) ?_
    exact W.zret (v := 0) hx hb hr rfl (fun t ht hW => ⟨⟨0, (), rfl, (by simp only [Int32.lt_iff_toInt_lt, Int32.le_iff_toInt_le, ← Int32.toInt_inj, Int32.reduceToInt] at c_1; exact (if_neg (by simp only [Int32.lt_iff_toInt_lt, Int32.le_iff_toInt_le, ← Int32.toInt_inj, Int32.reduceToInt]; omega)).symm), trivial⟩, hS.F ht⟩) hS.2.2 dX5_isSale_17
  · skip
    refine lv_iload_n hx hb dX5_isSale_4 rfl (lv_at hl 1 rfl) ?_
    refine lv_aload_n hx hb dX5_isSale_5 rfl (lv_at hl 0 rfl) ?_
    refine va_get (D := (dC, dI)) (ci := 5) (v := .int n) (C := RX5) (T := TX5) (N := 17) hx hb hts uB5 hown hK hP 0 rfl rfl 9 (by decide) (hts _ wm_10) (fun _ h9 => h9) hf9 dX5_isSale_6 ?_
    refine lv_icmp_ge (tgt := 16) hx hb dX5_isSale_9 (by decide) (fun c_2 => ?_) (fun c_2 => ?_)
    · skip
      refine lv_iconst (v := 0) hx hb dX5_isSale_16 (by decide) ?_
      exact W.zret (v := 0) hx hb hr rfl (fun t ht hW => ⟨⟨0, (), rfl, (by simp only [Int32.lt_iff_toInt_lt, Int32.le_iff_toInt_le, ← Int32.toInt_inj, Int32.reduceToInt] at c_1 c_2; exact (if_neg (by simp only [Int32.lt_iff_toInt_lt, Int32.le_iff_toInt_le, ← Int32.toInt_inj, Int32.reduceToInt]; omega)).symm), trivial⟩, hS.F ht⟩) hS.2.2 dX5_isSale_17
    · skip
      refine lv_iconst (v := 1) hx hb dX5_isSale_12 (by decide) ?_
      refine lv_goto (tgt := 17) hx hb dX5_isSale_13 (by decide) ?_
      exact W.zret (v := 1) hx hb hr rfl (fun t ht hW => ⟨⟨1, (), rfl, (by simp only [Int32.lt_iff_toInt_lt, Int32.le_iff_toInt_le, ← Int32.toInt_inj, Int32.reduceToInt] at c_1 c_2; exact (if_pos (by simp only [Int32.lt_iff_toInt_lt, Int32.le_iff_toInt_le, ← Int32.toInt_inj, Int32.reduceToInt]; omega)).symm), trivial⟩, hS.F ht⟩) hS.2.2 dX5_isSale_17
set_option maxHeartbeats 4000000 in
set_option maxRecDepth 100000 in
theorem c_mPage (l : Launch) (dC : Nat → ClassId) (dI : Nat → Nat → Nat) (h0 : Nat) (fs : List Value) (n x : Int32) (hf5 : fs[5]? = some (.int n)) : mV l yX6_isPage cX6_isPage 2 .boolean 1 (dC, dI) [(h0, .inr (6, fs))] [] [.ref h0, .int x] (fun r => r = if 0 ≤ x ∧ x ≤ n - 1 then 1 else 0) := by
  refine Met.ofW (cc := cX6_isPage) (maxL := 2) (ret := some .boolean) (by decide) rfl ?_
  intro p e s m args below meth c s₁ B hml hv
  obtain ⟨rfl, hP, hK⟩ := hv
  have hx := B.exec
  have hb := B.bytes
  have hr := B.returns
  have hlocks := B.notSynchronized
  have hts0 := atoms_spec (ws := Cond.code yX6_isPage cX6_isPage 2 (some .boolean) :: lw_B) B.pre
  have hts : ∀ w ∈ lw_B, w.before _ s = true := fun w h => hts0 w (List.mem_cons_of_mem _ h)
  have hown : s.vm.findClass RX6 = some m.cls := findClass_of_methodNamed B.named
  have hS : va_S (fun _ => False) s.heap s.heap [] := va_S.rf
  have hl := lv_entry ([.ref h0, .int x]) (n := 2) (Nat.le_of_ble_eq_true rfl)
  rw [lg_entry_eq]
  generalize (lg_sl ([.ref h0, .int x]) ++ List.replicate (2 - (lg_sl ([.ref h0, .int x])).length) Slot.unset).toArray = ls at hl ⊢
  have hl : lv_has ls 2 [(0, .ref h0), (1, .int x)] := hl
  refine lv_iload_n hx hb dX6_isPage_0 rfl (lv_at hl 1 rfl) ?_
  refine lv_iconst (v := 0) hx hb dX6_isPage_1 (by decide) ?_
  refine lv_aload_n hx hb dX6_isPage_2 rfl (lv_at hl 0 rfl) ?_
  refine va_get (D := (dC, dI)) (ci := 6) (v := .int n) (C := RX6) (T := TX6) (N := 51) hx hb hts uB6 hown hK hP 0 rfl rfl 5 (by decide) (hts _ wm_11) (fun _ h9 => h9) hf5 dX6_isPage_3 ?_
  refine lv_iconst (v := 1) hx hb dX6_isPage_6 (by decide) ?_
  refine lv_isub hx hb dX6_isPage_7 ?_
  refine lv_topi (fun x_1 ex_1 => ?_)
  refine k_S ⟨hx, hb, hml, hown, hts⟩ (c_in l x 0 x_1) 3 wm_4 wm_5 wm_6 wm_7 (by decide +kernel) ⟨Nat.le_of_ble_eq_true rfl, Nat.le_of_ble_eq_true rfl⟩ rfl hl.1 rfl (Nat.le_of_ble_eq_true rfl) dX6_isPage_8 ⟨Nat.le_of_ble_eq_true rfl, Nat.le_of_ble_eq_true rfl⟩ hS hP (fun r_2 H locs hpr_2 hP hS => ?_)
  exact W.zret (v := r_2) hx hb hr (by rw [hpr_2]; split <;> rfl) (fun t ht hW => ⟨⟨r_2, (), rfl, (by rw [hpr_2, ex_1]), trivial⟩, hS.F ht⟩) hS.2.2 dX6_isPage_11
set_option maxHeartbeats 4000000 in
set_option maxRecDepth 100000 in
theorem c_mCampaign (l : Launch) (dC : Nat → ClassId) (dI : Nat → Nat → Nat) (h0 : Nat) (fs : List Value) (n x : Int32) (hf9 : fs[9]? = some (.int n)) : mV l yX6_isCampaign cX6_isCampaign 2 .boolean 1 (dC, dI) [(h0, .inr (6, fs))] [] [.ref h0, .int x] (fun r => r = if 0 ≤ x ∧ x ≤ n - 1 then 1 else 0) := by
  refine Met.ofW (cc := cX6_isCampaign) (maxL := 2) (ret := some .boolean) (by decide) rfl ?_
  intro p e s m args below meth c s₁ B hml hv
  obtain ⟨rfl, hP, hK⟩ := hv
  have hx := B.exec
  have hb := B.bytes
  have hr := B.returns
  have hlocks := B.notSynchronized
  have hts0 := atoms_spec (ws := Cond.code yX6_isCampaign cX6_isCampaign 2 (some .boolean) :: lw_B) B.pre
  have hts : ∀ w ∈ lw_B, w.before _ s = true := fun w h => hts0 w (List.mem_cons_of_mem _ h)
  have hown : s.vm.findClass RX6 = some m.cls := findClass_of_methodNamed B.named
  have hS : va_S (fun _ => False) s.heap s.heap [] := va_S.rf
  have hl := lv_entry ([.ref h0, .int x]) (n := 2) (Nat.le_of_ble_eq_true rfl)
  rw [lg_entry_eq]
  generalize (lg_sl ([.ref h0, .int x]) ++ List.replicate (2 - (lg_sl ([.ref h0, .int x])).length) Slot.unset).toArray = ls at hl ⊢
  have hl : lv_has ls 2 [(0, .ref h0), (1, .int x)] := hl
  refine lv_iload_n hx hb dX6_isCampaign_0 rfl (lv_at hl 1 rfl) ?_
  refine lv_iconst (v := 0) hx hb dX6_isCampaign_1 (by decide) ?_
  refine lv_aload_n hx hb dX6_isCampaign_2 rfl (lv_at hl 0 rfl) ?_
  refine va_get (D := (dC, dI)) (ci := 6) (v := .int n) (C := RX6) (T := TX6) (N := 51) hx hb hts uB6 hown hK hP 0 rfl rfl 9 (by decide) (hts _ wm_12) (fun _ h9 => h9) hf9 dX6_isCampaign_3 ?_
  refine lv_iconst (v := 1) hx hb dX6_isCampaign_6 (by decide) ?_
  refine lv_isub hx hb dX6_isCampaign_7 ?_
  refine lv_topi (fun x_1 ex_1 => ?_)
  refine k_S ⟨hx, hb, hml, hown, hts⟩ (c_in l x 0 x_1) 3 wm_4 wm_5 wm_6 wm_7 (by decide +kernel) ⟨Nat.le_of_ble_eq_true rfl, Nat.le_of_ble_eq_true rfl⟩ rfl hl.1 rfl (Nat.le_of_ble_eq_true rfl) dX6_isCampaign_8 ⟨Nat.le_of_ble_eq_true rfl, Nat.le_of_ble_eq_true rfl⟩ hS hP (fun r_2 H locs hpr_2 hP hS => ?_)
  exact W.zret (v := r_2) hx hb hr (by rw [hpr_2]; split <;> rfl) (fun t ht hW => ⟨⟨r_2, (), rfl, (by rw [hpr_2, ex_1]), trivial⟩, hS.F ht⟩) hS.2.2 dX6_isCampaign_11
set_option maxHeartbeats 4000000 in
set_option maxRecDepth 100000 in
theorem c_mSale (l : Launch) (dC : Nat → ClassId) (dI : Nat → Nat → Nat) (h0 : Nat) (fs : List Value) (n x : Int32) (hf25 : fs[25]? = some (.int n)) : mV l yX6_isSale cX6_isSale 2 .boolean 1 (dC, dI) [(h0, .inr (6, fs))] [] [.ref h0, .int x] (fun r => r = if 0 ≤ x ∧ x ≤ n - 1 then 1 else 0) := by
  refine Met.ofW (cc := cX6_isSale) (maxL := 2) (ret := some .boolean) (by decide) rfl ?_
  intro p e s m args below meth c s₁ B hml hv
  obtain ⟨rfl, hP, hK⟩ := hv
  have hx := B.exec
  have hb := B.bytes
  have hr := B.returns
  have hlocks := B.notSynchronized
  have hts0 := atoms_spec (ws := Cond.code yX6_isSale cX6_isSale 2 (some .boolean) :: lw_B) B.pre
  have hts : ∀ w ∈ lw_B, w.before _ s = true := fun w h => hts0 w (List.mem_cons_of_mem _ h)
  have hown : s.vm.findClass RX6 = some m.cls := findClass_of_methodNamed B.named
  have hS : va_S (fun _ => False) s.heap s.heap [] := va_S.rf
  have hl := lv_entry ([.ref h0, .int x]) (n := 2) (Nat.le_of_ble_eq_true rfl)
  rw [lg_entry_eq]
  generalize (lg_sl ([.ref h0, .int x]) ++ List.replicate (2 - (lg_sl ([.ref h0, .int x])).length) Slot.unset).toArray = ls at hl ⊢
  have hl : lv_has ls 2 [(0, .ref h0), (1, .int x)] := hl
  refine lv_iload_n hx hb dX6_isSale_0 rfl (lv_at hl 1 rfl) ?_
  refine lv_iconst (v := 0) hx hb dX6_isSale_1 (by decide) ?_
  refine lv_aload_n hx hb dX6_isSale_2 rfl (lv_at hl 0 rfl) ?_
  refine va_get (D := (dC, dI)) (ci := 6) (v := .int n) (C := RX6) (T := TX6) (N := 51) hx hb hts uB6 hown hK hP 0 rfl rfl 25 (by decide) (hts _ wm_13) (fun _ h9 => h9) hf25 dX6_isSale_3 ?_
  refine lv_iconst (v := 1) hx hb dX6_isSale_6 (by decide) ?_
  refine lv_isub hx hb dX6_isSale_7 ?_
  refine lv_topi (fun x_1 ex_1 => ?_)
  refine k_S ⟨hx, hb, hml, hown, hts⟩ (c_in l x 0 x_1) 3 wm_4 wm_5 wm_6 wm_7 (by decide +kernel) ⟨Nat.le_of_ble_eq_true rfl, Nat.le_of_ble_eq_true rfl⟩ rfl hl.1 rfl (Nat.le_of_ble_eq_true rfl) dX6_isSale_8 ⟨Nat.le_of_ble_eq_true rfl, Nat.le_of_ble_eq_true rfl⟩ hS hP (fun r_2 H locs hpr_2 hP hS => ?_)
  exact W.zret (v := r_2) hx hb hr (by rw [hpr_2]; split <;> rfl) (fun t ht hW => ⟨⟨r_2, (), rfl, (by rw [hpr_2, ex_1]), trivial⟩, hS.F ht⟩) hS.2.2 dX6_isSale_11
set_option maxHeartbeats 4000000 in
set_option maxRecDepth 100000 in
theorem b_X5_budget (l : Launch) (dC : Nat → ClassId) (dI : Nat → Nat → Nat) (h0 : Nat) (fs : List Value) (p0 p1 p2 : Int32) (hf7 : fs[7]? = some (.int 0)) (hf8 : fs[8]? = some (.int 0)) (hf9 : fs[9]? = some (.int 0)) : mV l yX5_budget cX5_budget 4 .int 2 (dC, dI) [(h0, .inr (5, fs))] [] [.ref h0, .int p0, .int p1, .int p2] (fun r => r = (-1)) := by
  refine Met.ofW (cc := cX5_budget) (maxL := 4) (ret := some .int) (by decide) rfl ?_
  intro p e s m args below meth c s₁ B hml hv
  obtain ⟨rfl, hP, hK⟩ := hv
  have hx := B.exec
  have hb := B.bytes
  have hr := B.returns
  have hlocks := B.notSynchronized
  have hts0 := atoms_spec (ws := Cond.code yX5_budget cX5_budget 4 (some .int) :: lw_B) B.pre
  have hts : ∀ w ∈ lw_B, w.before _ s = true := fun w h => hts0 w (List.mem_cons_of_mem _ h)
  have hown : s.vm.findClass RX5 = some m.cls := findClass_of_methodNamed B.named
  have hS : va_S (fun _ => False) s.heap s.heap [] := va_S.rf
  have hl := lv_entry ([.ref h0, .int p0, .int p1, .int p2]) (n := 4) (Nat.le_of_ble_eq_true rfl)
  rw [lg_entry_eq]
  generalize (lg_sl ([.ref h0, .int p0, .int p1, .int p2]) ++ List.replicate (4 - (lg_sl ([.ref h0, .int p0, .int p1, .int p2])).length) Slot.unset).toArray = ls at hl ⊢
  have hl : lv_has ls 4 [(0, .ref h0), (1, .int p0), (2, .int p1), (3, .int p2)] := hl
  refine lv_aload_n hx hb dX5_budget_0 rfl (lv_at hl 0 rfl) ?_
  refine lv_iload_n hx hb dX5_budget_1 rfl (lv_at hl 1 rfl) ?_
  have hPc := hP.sub (ws' := [(h0, .inr (5, fs))]) [0] rfl
  refine k_V (ci := 5) (q0 := 0) (tc := []) ⟨hx, hb, hml, hown, hts⟩ (c_isCampaign l dC dI h0 fs 0 p0 hf8) 1 wm_14 wm_15 wm_16 wm_2 wm_17 (by decide +kernel) ⟨Nat.le_of_ble_eq_true rfl, Nat.le_of_ble_eq_true rfl⟩ hPc (hK.sub (tys' := []) [] rfl) rfl rfl rfl hl.1 rfl (Nat.le_of_ble_eq_true rfl) dX5_budget_2 ⟨Nat.le_of_ble_eq_true rfl, Nat.le_of_ble_eq_true rfl⟩ hS hP (fun r_1 H locs hpr_1 hP hS => ?_)
  obtain rfl : r_1 = 0 := hpr_1.trans (if_neg (k_no0 _))
  refine lv_if_eq (tgt := 28) hx hb dX5_budget_5 (by decide) (fun _ => ?_) (fun h9 => absurd (by decide) h9)
  refine lv_iconst (v := (-1)) hx hb dX5_budget_28 (by decide) ?_
  exact W.iret (v := (-1)) hx hb hr (fun t ht hW => ⟨⟨(-1), (), rfl, rfl, trivial⟩, hS.F ht⟩) hS.2.2 dX5_budget_29
set_option maxHeartbeats 4000000 in
set_option maxRecDepth 100000 in
theorem b_X6_budget (l : Launch) (dC : Nat → ClassId) (dI : Nat → Nat → Nat) (h0 : Nat) (fs : List Value) (p0 p1 p2 : Int32) (hf5 : fs[5]? = some (.int 0)) (hf9 : fs[9]? = some (.int 0)) (hf25 : fs[25]? = some (.int 0)) : mV l yX6_budget cX6_budget 4 .int 3 (dC, dI) [(h0, .inr (6, fs))] [] [.ref h0, .int p0, .int p1, .int p2] (fun r => r = (-1)) := by
  refine Met.ofW (cc := cX6_budget) (maxL := 4) (ret := some .int) (by decide) rfl ?_
  intro p e s m args below meth c s₁ B hml hv
  obtain ⟨rfl, hP, hK⟩ := hv
  have hx := B.exec
  have hb := B.bytes
  have hr := B.returns
  have hlocks := B.notSynchronized
  have hts0 := atoms_spec (ws := Cond.code yX6_budget cX6_budget 4 (some .int) :: lw_B) B.pre
  have hts : ∀ w ∈ lw_B, w.before _ s = true := fun w h => hts0 w (List.mem_cons_of_mem _ h)
  have hown : s.vm.findClass RX6 = some m.cls := findClass_of_methodNamed B.named
  have hS : va_S (fun _ => False) s.heap s.heap [] := va_S.rf
  have hl := lv_entry ([.ref h0, .int p0, .int p1, .int p2]) (n := 4) (Nat.le_of_ble_eq_true rfl)
  rw [lg_entry_eq]
  generalize (lg_sl ([.ref h0, .int p0, .int p1, .int p2]) ++ List.replicate (4 - (lg_sl ([.ref h0, .int p0, .int p1, .int p2])).length) Slot.unset).toArray = ls at hl ⊢
  have hl : lv_has ls 4 [(0, .ref h0), (1, .int p0), (2, .int p1), (3, .int p2)] := hl
  refine lv_aload_n hx hb dX6_budget_0 rfl (lv_at hl 0 rfl) ?_
  refine lv_iload_n hx hb dX6_budget_1 rfl (lv_at hl 1 rfl) ?_
  have hPc := hP.sub (ws' := [(h0, .inr (6, fs))]) [0] rfl
  refine k_V (ci := 6) (q0 := 0) (tc := []) ⟨hx, hb, hml, hown, hts⟩ (c_mCampaign l dC dI h0 fs 0 p0 hf9) 1 wm_18 wm_19 wm_20 wm_6 wm_21 (by decide +kernel) ⟨Nat.le_of_ble_eq_true rfl, Nat.le_of_ble_eq_true rfl⟩ hPc (hK.sub (tys' := []) [] rfl) rfl rfl rfl hl.1 rfl (Nat.le_of_ble_eq_true rfl) dX6_budget_2 ⟨Nat.le_of_ble_eq_true rfl, Nat.le_of_ble_eq_true rfl⟩ hS hP (fun r_1 H locs hpr_1 hP hS => ?_)
  obtain rfl : r_1 = 0 := hpr_1.trans (if_neg (k_no1 _))
  refine lv_if_eq (tgt := 28) hx hb dX6_budget_5 (by decide) (fun _ => ?_) (fun h9 => absurd (by decide) h9)
  refine lv_iconst (v := (-1)) hx hb dX6_budget_28 (by decide) ?_
  exact W.iret (v := (-1)) hx hb hr (fun t ht hW => ⟨⟨(-1), (), rfl, rfl, trivial⟩, hS.F ht⟩) hS.2.2 dX6_budget_29
set_option maxHeartbeats 4000000 in
set_option maxRecDepth 100000 in
theorem b_X5_cap (l : Launch) (dC : Nat → ClassId) (dI : Nat → Nat → Nat) (h0 : Nat) (fs : List Value) (p0 p1 p2 : Int32) (hf7 : fs[7]? = some (.int 0)) (hf8 : fs[8]? = some (.int 0)) (hf9 : fs[9]? = some (.int 0)) : mV l yX5_cap cX5_cap 4 .int 2 (dC, dI) [(h0, .inr (5, fs))] [] [.ref h0, .int p0, .int p1, .int p2] (fun r => r = (-1)) := by
  refine Met.ofW (cc := cX5_cap) (maxL := 4) (ret := some .int) (by decide) rfl ?_
  intro p e s m args below meth c s₁ B hml hv
  obtain ⟨rfl, hP, hK⟩ := hv
  have hx := B.exec
  have hb := B.bytes
  have hr := B.returns
  have hlocks := B.notSynchronized
  have hts0 := atoms_spec (ws := Cond.code yX5_cap cX5_cap 4 (some .int) :: lw_B) B.pre
  have hts : ∀ w ∈ lw_B, w.before _ s = true := fun w h => hts0 w (List.mem_cons_of_mem _ h)
  have hown : s.vm.findClass RX5 = some m.cls := findClass_of_methodNamed B.named
  have hS : va_S (fun _ => False) s.heap s.heap [] := va_S.rf
  have hl := lv_entry ([.ref h0, .int p0, .int p1, .int p2]) (n := 4) (Nat.le_of_ble_eq_true rfl)
  rw [lg_entry_eq]
  generalize (lg_sl ([.ref h0, .int p0, .int p1, .int p2]) ++ List.replicate (4 - (lg_sl ([.ref h0, .int p0, .int p1, .int p2])).length) Slot.unset).toArray = ls at hl ⊢
  have hl : lv_has ls 4 [(0, .ref h0), (1, .int p0), (2, .int p1), (3, .int p2)] := hl
  refine lv_aload_n hx hb dX5_cap_0 rfl (lv_at hl 0 rfl) ?_
  refine lv_iload_n hx hb dX5_cap_1 rfl (lv_at hl 1 rfl) ?_
  have hPc := hP.sub (ws' := [(h0, .inr (5, fs))]) [0] rfl
  refine k_V (ci := 5) (q0 := 0) (tc := []) ⟨hx, hb, hml, hown, hts⟩ (c_isCampaign l dC dI h0 fs 0 p0 hf8) 1 wm_14 wm_15 wm_16 wm_2 wm_17 (by decide +kernel) ⟨Nat.le_of_ble_eq_true rfl, Nat.le_of_ble_eq_true rfl⟩ hPc (hK.sub (tys' := []) [] rfl) rfl rfl rfl hl.1 rfl (Nat.le_of_ble_eq_true rfl) dX5_cap_2 ⟨Nat.le_of_ble_eq_true rfl, Nat.le_of_ble_eq_true rfl⟩ hS hP (fun r_1 H locs hpr_1 hP hS => ?_)
  obtain rfl : r_1 = 0 := hpr_1.trans (if_neg (k_no0 _))
  refine lv_if_eq (tgt := 29) hx hb dX5_cap_5 (by decide) (fun _ => ?_) (fun h9 => absurd (by decide) h9)
  refine lv_iconst (v := (-1)) hx hb dX5_cap_29 (by decide) ?_
  exact W.iret (v := (-1)) hx hb hr (fun t ht hW => ⟨⟨(-1), (), rfl, rfl, trivial⟩, hS.F ht⟩) hS.2.2 dX5_cap_30
set_option maxHeartbeats 4000000 in
set_option maxRecDepth 100000 in
theorem b_X6_cap (l : Launch) (dC : Nat → ClassId) (dI : Nat → Nat → Nat) (h0 : Nat) (fs : List Value) (p0 p1 p2 : Int32) (hf5 : fs[5]? = some (.int 0)) (hf9 : fs[9]? = some (.int 0)) (hf25 : fs[25]? = some (.int 0)) : mV l yX6_cap cX6_cap 4 .int 3 (dC, dI) [(h0, .inr (6, fs))] [] [.ref h0, .int p0, .int p1, .int p2] (fun r => r = (-1)) := by
  refine Met.ofW (cc := cX6_cap) (maxL := 4) (ret := some .int) (by decide) rfl ?_
  intro p e s m args below meth c s₁ B hml hv
  obtain ⟨rfl, hP, hK⟩ := hv
  have hx := B.exec
  have hb := B.bytes
  have hr := B.returns
  have hlocks := B.notSynchronized
  have hts0 := atoms_spec (ws := Cond.code yX6_cap cX6_cap 4 (some .int) :: lw_B) B.pre
  have hts : ∀ w ∈ lw_B, w.before _ s = true := fun w h => hts0 w (List.mem_cons_of_mem _ h)
  have hown : s.vm.findClass RX6 = some m.cls := findClass_of_methodNamed B.named
  have hS : va_S (fun _ => False) s.heap s.heap [] := va_S.rf
  have hl := lv_entry ([.ref h0, .int p0, .int p1, .int p2]) (n := 4) (Nat.le_of_ble_eq_true rfl)
  rw [lg_entry_eq]
  generalize (lg_sl ([.ref h0, .int p0, .int p1, .int p2]) ++ List.replicate (4 - (lg_sl ([.ref h0, .int p0, .int p1, .int p2])).length) Slot.unset).toArray = ls at hl ⊢
  have hl : lv_has ls 4 [(0, .ref h0), (1, .int p0), (2, .int p1), (3, .int p2)] := hl
  refine lv_aload_n hx hb dX6_cap_0 rfl (lv_at hl 0 rfl) ?_
  refine lv_iload_n hx hb dX6_cap_1 rfl (lv_at hl 1 rfl) ?_
  have hPc := hP.sub (ws' := [(h0, .inr (6, fs))]) [0] rfl
  refine k_V (ci := 6) (q0 := 0) (tc := []) ⟨hx, hb, hml, hown, hts⟩ (c_mCampaign l dC dI h0 fs 0 p0 hf9) 1 wm_18 wm_19 wm_20 wm_6 wm_21 (by decide +kernel) ⟨Nat.le_of_ble_eq_true rfl, Nat.le_of_ble_eq_true rfl⟩ hPc (hK.sub (tys' := []) [] rfl) rfl rfl rfl hl.1 rfl (Nat.le_of_ble_eq_true rfl) dX6_cap_2 ⟨Nat.le_of_ble_eq_true rfl, Nat.le_of_ble_eq_true rfl⟩ hS hP (fun r_1 H locs hpr_1 hP hS => ?_)
  obtain rfl : r_1 = 0 := hpr_1.trans (if_neg (k_no1 _))
  refine lv_if_eq (tgt := 29) hx hb dX6_cap_5 (by decide) (fun _ => ?_) (fun h9 => absurd (by decide) h9)
  refine lv_iconst (v := (-1)) hx hb dX6_cap_29 (by decide) ?_
  exact W.iret (v := (-1)) hx hb hr (fun t ht hW => ⟨⟨(-1), (), rfl, rfl, trivial⟩, hS.F ht⟩) hS.2.2 dX6_cap_30
set_option maxHeartbeats 4000000 in
set_option maxRecDepth 100000 in
theorem b_X5_apart (l : Launch) (dC : Nat → ClassId) (dI : Nat → Nat → Nat) (h0 : Nat) (fs : List Value) (p0 p1 p2 : Int32) (hf7 : fs[7]? = some (.int 0)) (hf8 : fs[8]? = some (.int 0)) (hf9 : fs[9]? = some (.int 0)) : mV l yX5_apart cX5_apart 5 .int 2 (dC, dI) [(h0, .inr (5, fs))] [] [.ref h0, .int p0, .int p1, .int p2] (fun r => r = (-1)) := by
  refine Met.ofW (cc := cX5_apart) (maxL := 5) (ret := some .int) (by decide) rfl ?_
  intro p e s m args below meth c s₁ B hml hv
  obtain ⟨rfl, hP, hK⟩ := hv
  have hx := B.exec
  have hb := B.bytes
  have hr := B.returns
  have hlocks := B.notSynchronized
  have hts0 := atoms_spec (ws := Cond.code yX5_apart cX5_apart 5 (some .int) :: lw_B) B.pre
  have hts : ∀ w ∈ lw_B, w.before _ s = true := fun w h => hts0 w (List.mem_cons_of_mem _ h)
  have hown : s.vm.findClass RX5 = some m.cls := findClass_of_methodNamed B.named
  have hS : va_S (fun _ => False) s.heap s.heap [] := va_S.rf
  have hl := lv_entry ([.ref h0, .int p0, .int p1, .int p2]) (n := 5) (Nat.le_of_ble_eq_true rfl)
  rw [lg_entry_eq]
  generalize (lg_sl ([.ref h0, .int p0, .int p1, .int p2]) ++ List.replicate (5 - (lg_sl ([.ref h0, .int p0, .int p1, .int p2])).length) Slot.unset).toArray = ls at hl ⊢
  have hl : lv_has ls 5 [(0, .ref h0), (1, .int p0), (2, .int p1), (3, .int p2)] := hl
  refine lv_aload_n hx hb dX5_apart_0 rfl (lv_at hl 0 rfl) ?_
  refine lv_iload_n hx hb dX5_apart_1 rfl (lv_at hl 1 rfl) ?_
  have hPc := hP.sub (ws' := [(h0, .inr (5, fs))]) [0] rfl
  refine k_V (ci := 5) (q0 := 0) (tc := []) ⟨hx, hb, hml, hown, hts⟩ (c_isCampaign l dC dI h0 fs 0 p0 hf8) 1 wm_14 wm_15 wm_16 wm_2 wm_17 (by decide +kernel) ⟨Nat.le_of_ble_eq_true rfl, Nat.le_of_ble_eq_true rfl⟩ hPc (hK.sub (tys' := []) [] rfl) rfl rfl rfl hl.1 rfl (Nat.le_of_ble_eq_true rfl) dX5_apart_2 ⟨Nat.le_of_ble_eq_true rfl, Nat.le_of_ble_eq_true rfl⟩ hS hP (fun r_1 H locs hpr_1 hP hS => ?_)
  obtain rfl : r_1 = 0 := hpr_1.trans (if_neg (k_no0 _))
  refine lv_if_eq (tgt := 30) hx hb dX5_apart_5 (by decide) (fun _ => ?_) (fun h9 => absurd (by decide) h9)
  refine lv_iconst (v := (-1)) hx hb dX5_apart_30 (by decide) ?_
  exact W.iret (v := (-1)) hx hb hr (fun t ht hW => ⟨⟨(-1), (), rfl, rfl, trivial⟩, hS.F ht⟩) hS.2.2 dX5_apart_31
set_option maxHeartbeats 4000000 in
set_option maxRecDepth 100000 in
theorem b_X6_apart (l : Launch) (dC : Nat → ClassId) (dI : Nat → Nat → Nat) (h0 : Nat) (fs : List Value) (p0 p1 p2 : Int32) (hf5 : fs[5]? = some (.int 0)) (hf9 : fs[9]? = some (.int 0)) (hf25 : fs[25]? = some (.int 0)) : mV l yX6_apart cX6_apart 5 .int 3 (dC, dI) [(h0, .inr (6, fs))] [] [.ref h0, .int p0, .int p1, .int p2] (fun r => r = (-1)) := by
  refine Met.ofW (cc := cX6_apart) (maxL := 5) (ret := some .int) (by decide) rfl ?_
  intro p e s m args below meth c s₁ B hml hv
  obtain ⟨rfl, hP, hK⟩ := hv
  have hx := B.exec
  have hb := B.bytes
  have hr := B.returns
  have hlocks := B.notSynchronized
  have hts0 := atoms_spec (ws := Cond.code yX6_apart cX6_apart 5 (some .int) :: lw_B) B.pre
  have hts : ∀ w ∈ lw_B, w.before _ s = true := fun w h => hts0 w (List.mem_cons_of_mem _ h)
  have hown : s.vm.findClass RX6 = some m.cls := findClass_of_methodNamed B.named
  have hS : va_S (fun _ => False) s.heap s.heap [] := va_S.rf
  have hl := lv_entry ([.ref h0, .int p0, .int p1, .int p2]) (n := 5) (Nat.le_of_ble_eq_true rfl)
  rw [lg_entry_eq]
  generalize (lg_sl ([.ref h0, .int p0, .int p1, .int p2]) ++ List.replicate (5 - (lg_sl ([.ref h0, .int p0, .int p1, .int p2])).length) Slot.unset).toArray = ls at hl ⊢
  have hl : lv_has ls 5 [(0, .ref h0), (1, .int p0), (2, .int p1), (3, .int p2)] := hl
  refine lv_aload_n hx hb dX6_apart_0 rfl (lv_at hl 0 rfl) ?_
  refine lv_iload_n hx hb dX6_apart_1 rfl (lv_at hl 1 rfl) ?_
  have hPc := hP.sub (ws' := [(h0, .inr (6, fs))]) [0] rfl
  refine k_V (ci := 6) (q0 := 0) (tc := []) ⟨hx, hb, hml, hown, hts⟩ (c_mCampaign l dC dI h0 fs 0 p0 hf9) 1 wm_18 wm_19 wm_20 wm_6 wm_21 (by decide +kernel) ⟨Nat.le_of_ble_eq_true rfl, Nat.le_of_ble_eq_true rfl⟩ hPc (hK.sub (tys' := []) [] rfl) rfl rfl rfl hl.1 rfl (Nat.le_of_ble_eq_true rfl) dX6_apart_2 ⟨Nat.le_of_ble_eq_true rfl, Nat.le_of_ble_eq_true rfl⟩ hS hP (fun r_1 H locs hpr_1 hP hS => ?_)
  obtain rfl : r_1 = 0 := hpr_1.trans (if_neg (k_no1 _))
  refine lv_if_eq (tgt := 30) hx hb dX6_apart_5 (by decide) (fun _ => ?_) (fun h9 => absurd (by decide) h9)
  refine lv_iconst (v := (-1)) hx hb dX6_apart_30 (by decide) ?_
  exact W.iret (v := (-1)) hx hb hr (fun t ht hW => ⟨⟨(-1), (), rfl, rfl, trivial⟩, hS.F ht⟩) hS.2.2 dX6_apart_31
set_option maxHeartbeats 4000000 in
set_option maxRecDepth 100000 in
theorem b_X5_promise (l : Launch) (dC : Nat → ClassId) (dI : Nat → Nat → Nat) (h0 : Nat) (fs : List Value) (p0 p1 p2 : Int32) (hf7 : fs[7]? = some (.int 0)) (hf8 : fs[8]? = some (.int 0)) (hf9 : fs[9]? = some (.int 0)) : mV l yX5_promise cX5_promise 4 .int 2 (dC, dI) [(h0, .inr (5, fs))] [] [.ref h0, .int p0, .int p1, .int p2] (fun r => r = (-1)) := by
  refine Met.ofW (cc := cX5_promise) (maxL := 4) (ret := some .int) (by decide) rfl ?_
  intro p e s m args below meth c s₁ B hml hv
  obtain ⟨rfl, hP, hK⟩ := hv
  have hx := B.exec
  have hb := B.bytes
  have hr := B.returns
  have hlocks := B.notSynchronized
  have hts0 := atoms_spec (ws := Cond.code yX5_promise cX5_promise 4 (some .int) :: lw_B) B.pre
  have hts : ∀ w ∈ lw_B, w.before _ s = true := fun w h => hts0 w (List.mem_cons_of_mem _ h)
  have hown : s.vm.findClass RX5 = some m.cls := findClass_of_methodNamed B.named
  have hS : va_S (fun _ => False) s.heap s.heap [] := va_S.rf
  have hl := lv_entry ([.ref h0, .int p0, .int p1, .int p2]) (n := 4) (Nat.le_of_ble_eq_true rfl)
  rw [lg_entry_eq]
  generalize (lg_sl ([.ref h0, .int p0, .int p1, .int p2]) ++ List.replicate (4 - (lg_sl ([.ref h0, .int p0, .int p1, .int p2])).length) Slot.unset).toArray = ls at hl ⊢
  have hl : lv_has ls 4 [(0, .ref h0), (1, .int p0), (2, .int p1), (3, .int p2)] := hl
  refine lv_aload_n hx hb dX5_promise_0 rfl (lv_at hl 0 rfl) ?_
  refine lv_iload_n hx hb dX5_promise_1 rfl (lv_at hl 1 rfl) ?_
  have hPc := hP.sub (ws' := [(h0, .inr (5, fs))]) [0] rfl
  refine k_V (ci := 5) (q0 := 0) (tc := []) ⟨hx, hb, hml, hown, hts⟩ (c_isCampaign l dC dI h0 fs 0 p0 hf8) 1 wm_14 wm_15 wm_16 wm_2 wm_17 (by decide +kernel) ⟨Nat.le_of_ble_eq_true rfl, Nat.le_of_ble_eq_true rfl⟩ hPc (hK.sub (tys' := []) [] rfl) rfl rfl rfl hl.1 rfl (Nat.le_of_ble_eq_true rfl) dX5_promise_2 ⟨Nat.le_of_ble_eq_true rfl, Nat.le_of_ble_eq_true rfl⟩ hS hP (fun r_1 H locs hpr_1 hP hS => ?_)
  obtain rfl : r_1 = 0 := hpr_1.trans (if_neg (k_no0 _))
  refine lv_if_eq (tgt := 30) hx hb dX5_promise_5 (by decide) (fun _ => ?_) (fun h9 => absurd (by decide) h9)
  refine lv_iconst (v := (-1)) hx hb dX5_promise_30 (by decide) ?_
  exact W.iret (v := (-1)) hx hb hr (fun t ht hW => ⟨⟨(-1), (), rfl, rfl, trivial⟩, hS.F ht⟩) hS.2.2 dX5_promise_31
set_option maxHeartbeats 4000000 in
set_option maxRecDepth 100000 in
theorem b_X6_promise (l : Launch) (dC : Nat → ClassId) (dI : Nat → Nat → Nat) (h0 : Nat) (fs : List Value) (p0 p1 p2 : Int32) (hf5 : fs[5]? = some (.int 0)) (hf9 : fs[9]? = some (.int 0)) (hf25 : fs[25]? = some (.int 0)) : mV l yX6_promise cX6_promise 4 .int 3 (dC, dI) [(h0, .inr (6, fs))] [] [.ref h0, .int p0, .int p1, .int p2] (fun r => r = (-1)) := by
  refine Met.ofW (cc := cX6_promise) (maxL := 4) (ret := some .int) (by decide) rfl ?_
  intro p e s m args below meth c s₁ B hml hv
  obtain ⟨rfl, hP, hK⟩ := hv
  have hx := B.exec
  have hb := B.bytes
  have hr := B.returns
  have hlocks := B.notSynchronized
  have hts0 := atoms_spec (ws := Cond.code yX6_promise cX6_promise 4 (some .int) :: lw_B) B.pre
  have hts : ∀ w ∈ lw_B, w.before _ s = true := fun w h => hts0 w (List.mem_cons_of_mem _ h)
  have hown : s.vm.findClass RX6 = some m.cls := findClass_of_methodNamed B.named
  have hS : va_S (fun _ => False) s.heap s.heap [] := va_S.rf
  have hl := lv_entry ([.ref h0, .int p0, .int p1, .int p2]) (n := 4) (Nat.le_of_ble_eq_true rfl)
  rw [lg_entry_eq]
  generalize (lg_sl ([.ref h0, .int p0, .int p1, .int p2]) ++ List.replicate (4 - (lg_sl ([.ref h0, .int p0, .int p1, .int p2])).length) Slot.unset).toArray = ls at hl ⊢
  have hl : lv_has ls 4 [(0, .ref h0), (1, .int p0), (2, .int p1), (3, .int p2)] := hl
  refine lv_aload_n hx hb dX6_promise_0 rfl (lv_at hl 0 rfl) ?_
  refine lv_iload_n hx hb dX6_promise_1 rfl (lv_at hl 1 rfl) ?_
  have hPc := hP.sub (ws' := [(h0, .inr (6, fs))]) [0] rfl
  refine k_V (ci := 6) (q0 := 0) (tc := []) ⟨hx, hb, hml, hown, hts⟩ (c_mCampaign l dC dI h0 fs 0 p0 hf9) 1 wm_18 wm_19 wm_20 wm_6 wm_21 (by decide +kernel) ⟨Nat.le_of_ble_eq_true rfl, Nat.le_of_ble_eq_true rfl⟩ hPc (hK.sub (tys' := []) [] rfl) rfl rfl rfl hl.1 rfl (Nat.le_of_ble_eq_true rfl) dX6_promise_2 ⟨Nat.le_of_ble_eq_true rfl, Nat.le_of_ble_eq_true rfl⟩ hS hP (fun r_1 H locs hpr_1 hP hS => ?_)
  obtain rfl : r_1 = 0 := hpr_1.trans (if_neg (k_no1 _))
  refine lv_if_eq (tgt := 40) hx hb dX6_promise_5 (by decide) (fun _ => ?_) (fun h9 => absurd (by decide) h9)
  refine lv_iconst (v := (-1)) hx hb dX6_promise_40 (by decide) ?_
  exact W.iret (v := (-1)) hx hb hr (fun t ht hW => ⟨⟨(-1), (), rfl, rfl, trivial⟩, hS.F ht⟩) hS.2.2 dX6_promise_41
set_option maxHeartbeats 4000000 in
set_option maxRecDepth 100000 in
theorem b_X5_stop (l : Launch) (dC : Nat → ClassId) (dI : Nat → Nat → Nat) (h0 : Nat) (fs : List Value) (p0 p1 : Int32) (hf7 : fs[7]? = some (.int 0)) (hf8 : fs[8]? = some (.int 0)) (hf9 : fs[9]? = some (.int 0)) : mV l yX5_stop cX5_stop 4 .int 2 (dC, dI) [(h0, .inr (5, fs))] [] [.ref h0, .int p0, .int p1] (fun r => r = (-1)) := by
  refine Met.ofW (cc := cX5_stop) (maxL := 4) (ret := some .int) (by decide) rfl ?_
  intro p e s m args below meth c s₁ B hml hv
  obtain ⟨rfl, hP, hK⟩ := hv
  have hx := B.exec
  have hb := B.bytes
  have hr := B.returns
  have hlocks := B.notSynchronized
  have hts0 := atoms_spec (ws := Cond.code yX5_stop cX5_stop 4 (some .int) :: lw_B) B.pre
  have hts : ∀ w ∈ lw_B, w.before _ s = true := fun w h => hts0 w (List.mem_cons_of_mem _ h)
  have hown : s.vm.findClass RX5 = some m.cls := findClass_of_methodNamed B.named
  have hS : va_S (fun _ => False) s.heap s.heap [] := va_S.rf
  have hl := lv_entry ([.ref h0, .int p0, .int p1]) (n := 4) (Nat.le_of_ble_eq_true rfl)
  rw [lg_entry_eq]
  generalize (lg_sl ([.ref h0, .int p0, .int p1]) ++ List.replicate (4 - (lg_sl ([.ref h0, .int p0, .int p1])).length) Slot.unset).toArray = ls at hl ⊢
  have hl : lv_has ls 4 [(0, .ref h0), (1, .int p0), (2, .int p1)] := hl
  refine lv_aload_n hx hb dX5_stop_0 rfl (lv_at hl 0 rfl) ?_
  refine lv_iload_n hx hb dX5_stop_1 rfl (lv_at hl 1 rfl) ?_
  have hPc := hP.sub (ws' := [(h0, .inr (5, fs))]) [0] rfl
  refine k_V (ci := 5) (q0 := 0) (tc := []) ⟨hx, hb, hml, hown, hts⟩ (c_isCampaign l dC dI h0 fs 0 p0 hf8) 1 wm_14 wm_15 wm_16 wm_2 wm_17 (by decide +kernel) ⟨Nat.le_of_ble_eq_true rfl, Nat.le_of_ble_eq_true rfl⟩ hPc (hK.sub (tys' := []) [] rfl) rfl rfl rfl hl.1 rfl (Nat.le_of_ble_eq_true rfl) dX5_stop_2 ⟨Nat.le_of_ble_eq_true rfl, Nat.le_of_ble_eq_true rfl⟩ hS hP (fun r_1 H locs hpr_1 hP hS => ?_)
  obtain rfl : r_1 = 0 := hpr_1.trans (if_neg (k_no0 _))
  refine lv_if_eq (tgt := 17) hx hb dX5_stop_5 (by decide) (fun _ => ?_) (fun h9 => absurd (by decide) h9)
  refine lv_iconst (v := (-1)) hx hb dX5_stop_17 (by decide) ?_
  exact W.iret (v := (-1)) hx hb hr (fun t ht hW => ⟨⟨(-1), (), rfl, rfl, trivial⟩, hS.F ht⟩) hS.2.2 dX5_stop_18
set_option maxHeartbeats 4000000 in
set_option maxRecDepth 100000 in
theorem b_X6_stop (l : Launch) (dC : Nat → ClassId) (dI : Nat → Nat → Nat) (h0 : Nat) (fs : List Value) (p0 p1 : Int32) (hf5 : fs[5]? = some (.int 0)) (hf9 : fs[9]? = some (.int 0)) (hf25 : fs[25]? = some (.int 0)) : mV l yX6_stop cX6_stop 4 .int 3 (dC, dI) [(h0, .inr (6, fs))] [] [.ref h0, .int p0, .int p1] (fun r => r = (-1)) := by
  refine Met.ofW (cc := cX6_stop) (maxL := 4) (ret := some .int) (by decide) rfl ?_
  intro p e s m args below meth c s₁ B hml hv
  obtain ⟨rfl, hP, hK⟩ := hv
  have hx := B.exec
  have hb := B.bytes
  have hr := B.returns
  have hlocks := B.notSynchronized
  have hts0 := atoms_spec (ws := Cond.code yX6_stop cX6_stop 4 (some .int) :: lw_B) B.pre
  have hts : ∀ w ∈ lw_B, w.before _ s = true := fun w h => hts0 w (List.mem_cons_of_mem _ h)
  have hown : s.vm.findClass RX6 = some m.cls := findClass_of_methodNamed B.named
  have hS : va_S (fun _ => False) s.heap s.heap [] := va_S.rf
  have hl := lv_entry ([.ref h0, .int p0, .int p1]) (n := 4) (Nat.le_of_ble_eq_true rfl)
  rw [lg_entry_eq]
  generalize (lg_sl ([.ref h0, .int p0, .int p1]) ++ List.replicate (4 - (lg_sl ([.ref h0, .int p0, .int p1])).length) Slot.unset).toArray = ls at hl ⊢
  have hl : lv_has ls 4 [(0, .ref h0), (1, .int p0), (2, .int p1)] := hl
  refine lv_aload_n hx hb dX6_stop_0 rfl (lv_at hl 0 rfl) ?_
  refine lv_iload_n hx hb dX6_stop_1 rfl (lv_at hl 1 rfl) ?_
  have hPc := hP.sub (ws' := [(h0, .inr (6, fs))]) [0] rfl
  refine k_V (ci := 6) (q0 := 0) (tc := []) ⟨hx, hb, hml, hown, hts⟩ (c_mCampaign l dC dI h0 fs 0 p0 hf9) 1 wm_18 wm_19 wm_20 wm_6 wm_21 (by decide +kernel) ⟨Nat.le_of_ble_eq_true rfl, Nat.le_of_ble_eq_true rfl⟩ hPc (hK.sub (tys' := []) [] rfl) rfl rfl rfl hl.1 rfl (Nat.le_of_ble_eq_true rfl) dX6_stop_2 ⟨Nat.le_of_ble_eq_true rfl, Nat.le_of_ble_eq_true rfl⟩ hS hP (fun r_1 H locs hpr_1 hP hS => ?_)
  obtain rfl : r_1 = 0 := hpr_1.trans (if_neg (k_no1 _))
  refine lv_if_eq (tgt := 17) hx hb dX6_stop_5 (by decide) (fun _ => ?_) (fun h9 => absurd (by decide) h9)
  refine lv_iconst (v := (-1)) hx hb dX6_stop_17 (by decide) ?_
  exact W.iret (v := (-1)) hx hb hr (fun t ht hW => ⟨⟨(-1), (), rfl, rfl, trivial⟩, hS.F ht⟩) hS.2.2 dX6_stop_18
set_option maxHeartbeats 4000000 in
set_option maxRecDepth 100000 in
theorem b_X5_come (l : Launch) (dC : Nat → ClassId) (dI : Nat → Nat → Nat) (h0 : Nat) (fs : List Value) (p0 p1 : Int32) (hf7 : fs[7]? = some (.int 0)) (hf8 : fs[8]? = some (.int 0)) (hf9 : fs[9]? = some (.int 0)) : mV l yX5_come cX5_come 6 .int 2 (dC, dI) [(h0, .inr (5, fs))] [] [.ref h0, .int p0, .int p1] (fun r => r = (-1)) := by
  refine Met.ofW (cc := cX5_come) (maxL := 6) (ret := some .int) (by decide) rfl ?_
  intro p e s m args below meth c s₁ B hml hv
  obtain ⟨rfl, hP, hK⟩ := hv
  have hx := B.exec
  have hb := B.bytes
  have hr := B.returns
  have hlocks := B.notSynchronized
  have hts0 := atoms_spec (ws := Cond.code yX5_come cX5_come 6 (some .int) :: lw_B) B.pre
  have hts : ∀ w ∈ lw_B, w.before _ s = true := fun w h => hts0 w (List.mem_cons_of_mem _ h)
  have hown : s.vm.findClass RX5 = some m.cls := findClass_of_methodNamed B.named
  have hS : va_S (fun _ => False) s.heap s.heap [] := va_S.rf
  have hl := lv_entry ([.ref h0, .int p0, .int p1]) (n := 6) (Nat.le_of_ble_eq_true rfl)
  rw [lg_entry_eq]
  generalize (lg_sl ([.ref h0, .int p0, .int p1]) ++ List.replicate (6 - (lg_sl ([.ref h0, .int p0, .int p1])).length) Slot.unset).toArray = ls at hl ⊢
  have hl : lv_has ls 6 [(0, .ref h0), (1, .int p0), (2, .int p1)] := hl
  refine lv_iload_n hx hb dX5_come_0 rfl (lv_at hl 1 rfl) ?_
  refine k_S ⟨hx, hb, hml, hown, hts⟩ (c_isReader l p0) 1 wm_22 wm_23 wm_2 wm_24 (by decide +kernel) ⟨Nat.le_of_ble_eq_true rfl, Nat.le_of_ble_eq_true rfl⟩ rfl hl.1 rfl (Nat.le_of_ble_eq_true rfl) dX5_come_1 ⟨Nat.le_of_ble_eq_true rfl, Nat.le_of_ble_eq_true rfl⟩ hS hP (fun r_1 H locs hpr_1 hP hS => ?_)
  refine lv_if_eq (tgt := 15) hx hb dX5_come_4 (by decide) (fun c_2 => ?_) (fun c_2 => ?_)
  · skip
    refine lv_iconst (v := (-1)) hx hb dX5_come_15 (by decide) ?_
    exact W.iret (v := (-1)) hx hb hr (fun t ht hW => ⟨⟨(-1), (), rfl, rfl, trivial⟩, hS.F ht⟩) hS.2.2 dX5_come_16
  · skip
    refine lv_aload_n hx hb dX5_come_7 rfl (lv_at hl 0 rfl) ?_
    refine lv_iload_n hx hb dX5_come_8 rfl (lv_at hl 2 rfl) ?_
    have hPc := hP.sub (ws' := [(h0, .inr (5, fs))]) [0] rfl
    refine k_V (ci := 5) (q0 := 0) (tc := []) ⟨hx, hb, hml, hown, hts⟩ (c_isPage l dC dI h0 fs 0 p1 hf7) 1 wm_25 wm_26 wm_27 wm_2 wm_28 (by decide +kernel) ⟨Nat.le_of_ble_eq_true rfl, Nat.le_of_ble_eq_true rfl⟩ hPc (hK.sub (tys' := []) [] rfl) rfl rfl rfl hl.1 rfl (Nat.le_of_ble_eq_true rfl) dX5_come_9 ⟨Nat.le_of_ble_eq_true rfl, Nat.le_of_ble_eq_true rfl⟩ hS hP (fun r_3 H locs hpr_3 hP hS => ?_)
    obtain rfl : r_3 = 0 := hpr_3.trans (if_neg (k_no0 _))
    refine lv_if_ne (tgt := 17) hx hb dX5_come_12 (by decide) (fun h9 => absurd (by decide) h9) (fun _ => ?_)
    refine lv_iconst (v := (-1)) hx hb dX5_come_15 (by decide) ?_
    exact W.iret (v := (-1)) hx hb hr (fun t ht hW => ⟨⟨(-1), (), rfl, rfl, trivial⟩, hS.F ht⟩) hS.2.2 dX5_come_16
set_option maxHeartbeats 4000000 in
set_option maxRecDepth 100000 in
theorem b_X6_come (l : Launch) (dC : Nat → ClassId) (dI : Nat → Nat → Nat) (h0 : Nat) (fs : List Value) (p0 p1 : Int32) (hf5 : fs[5]? = some (.int 0)) (hf9 : fs[9]? = some (.int 0)) (hf25 : fs[25]? = some (.int 0)) : mV l yX6_come cX6_come 7 .int 3 (dC, dI) [(h0, .inr (6, fs))] [] [.ref h0, .int p0, .int p1] (fun r => r = (-1)) := by
  refine Met.ofW (cc := cX6_come) (maxL := 7) (ret := some .int) (by decide) rfl ?_
  intro p e s m args below meth c s₁ B hml hv
  obtain ⟨rfl, hP, hK⟩ := hv
  have hx := B.exec
  have hb := B.bytes
  have hr := B.returns
  have hlocks := B.notSynchronized
  have hts0 := atoms_spec (ws := Cond.code yX6_come cX6_come 7 (some .int) :: lw_B) B.pre
  have hts : ∀ w ∈ lw_B, w.before _ s = true := fun w h => hts0 w (List.mem_cons_of_mem _ h)
  have hown : s.vm.findClass RX6 = some m.cls := findClass_of_methodNamed B.named
  have hS : va_S (fun _ => False) s.heap s.heap [] := va_S.rf
  have hl := lv_entry ([.ref h0, .int p0, .int p1]) (n := 7) (Nat.le_of_ble_eq_true rfl)
  rw [lg_entry_eq]
  generalize (lg_sl ([.ref h0, .int p0, .int p1]) ++ List.replicate (7 - (lg_sl ([.ref h0, .int p0, .int p1])).length) Slot.unset).toArray = ls at hl ⊢
  have hl : lv_has ls 7 [(0, .ref h0), (1, .int p0), (2, .int p1)] := hl
  refine lv_iload_n hx hb dX6_come_0 rfl (lv_at hl 1 rfl) ?_
  refine k_S ⟨hx, hb, hml, hown, hts⟩ (c_mReader l p0) 1 wm_29 wm_30 wm_6 wm_31 (by decide +kernel) ⟨Nat.le_of_ble_eq_true rfl, Nat.le_of_ble_eq_true rfl⟩ rfl hl.1 rfl (Nat.le_of_ble_eq_true rfl) dX6_come_1 ⟨Nat.le_of_ble_eq_true rfl, Nat.le_of_ble_eq_true rfl⟩ hS hP (fun r_1 H locs hpr_1 hP hS => ?_)
  refine lv_if_eq (tgt := 15) hx hb dX6_come_4 (by decide) (fun c_2 => ?_) (fun c_2 => ?_)
  · skip
    refine lv_iconst (v := (-1)) hx hb dX6_come_15 (by decide) ?_
    exact W.iret (v := (-1)) hx hb hr (fun t ht hW => ⟨⟨(-1), (), rfl, rfl, trivial⟩, hS.F ht⟩) hS.2.2 dX6_come_16
  · skip
    refine lv_aload_n hx hb dX6_come_7 rfl (lv_at hl 0 rfl) ?_
    refine lv_iload_n hx hb dX6_come_8 rfl (lv_at hl 2 rfl) ?_
    have hPc := hP.sub (ws' := [(h0, .inr (6, fs))]) [0] rfl
    refine k_V (ci := 6) (q0 := 0) (tc := []) ⟨hx, hb, hml, hown, hts⟩ (c_mPage l dC dI h0 fs 0 p1 hf5) 1 wm_32 wm_33 wm_34 wm_6 wm_35 (by decide +kernel) ⟨Nat.le_of_ble_eq_true rfl, Nat.le_of_ble_eq_true rfl⟩ hPc (hK.sub (tys' := []) [] rfl) rfl rfl rfl hl.1 rfl (Nat.le_of_ble_eq_true rfl) dX6_come_9 ⟨Nat.le_of_ble_eq_true rfl, Nat.le_of_ble_eq_true rfl⟩ hS hP (fun r_3 H locs hpr_3 hP hS => ?_)
    obtain rfl : r_3 = 0 := hpr_3.trans (if_neg (k_no1 _))
    refine lv_if_ne (tgt := 17) hx hb dX6_come_12 (by decide) (fun h9 => absurd (by decide) h9) (fun _ => ?_)
    refine lv_iconst (v := (-1)) hx hb dX6_come_15 (by decide) ?_
    exact W.iret (v := (-1)) hx hb hr (fun t ht hW => ⟨⟨(-1), (), rfl, rfl, trivial⟩, hS.F ht⟩) hS.2.2 dX6_come_16
set_option maxHeartbeats 4000000 in
set_option maxRecDepth 100000 in
theorem b_X5_why (l : Launch) (dC : Nat → ClassId) (dI : Nat → Nat → Nat) (h0 : Nat) (fs : List Value) (p0 p1 p2 : Int32) (hf7 : fs[7]? = some (.int 0)) (hf8 : fs[8]? = some (.int 0)) (hf9 : fs[9]? = some (.int 0)) : mV l yX5_why cX5_why 4 .int 2 (dC, dI) [(h0, .inr (5, fs))] [] [.ref h0, .int p0, .int p1, .int p2] (fun r => r = (-1)) := by
  refine Met.ofW (cc := cX5_why) (maxL := 4) (ret := some .int) (by decide) rfl ?_
  intro p e s m args below meth c s₁ B hml hv
  obtain ⟨rfl, hP, hK⟩ := hv
  have hx := B.exec
  have hb := B.bytes
  have hr := B.returns
  have hlocks := B.notSynchronized
  have hts0 := atoms_spec (ws := Cond.code yX5_why cX5_why 4 (some .int) :: lw_B) B.pre
  have hts : ∀ w ∈ lw_B, w.before _ s = true := fun w h => hts0 w (List.mem_cons_of_mem _ h)
  have hown : s.vm.findClass RX5 = some m.cls := findClass_of_methodNamed B.named
  have hS : va_S (fun _ => False) s.heap s.heap [] := va_S.rf
  have hl := lv_entry ([.ref h0, .int p0, .int p1, .int p2]) (n := 4) (Nat.le_of_ble_eq_true rfl)
  rw [lg_entry_eq]
  generalize (lg_sl ([.ref h0, .int p0, .int p1, .int p2]) ++ List.replicate (4 - (lg_sl ([.ref h0, .int p0, .int p1, .int p2])).length) Slot.unset).toArray = ls at hl ⊢
  have hl : lv_has ls 4 [(0, .ref h0), (1, .int p0), (2, .int p1), (3, .int p2)] := hl
  refine lv_aload_n hx hb dX5_why_0 rfl (lv_at hl 0 rfl) ?_
  refine lv_iload_n hx hb dX5_why_1 rfl (lv_at hl 1 rfl) ?_
  have hPc := hP.sub (ws' := [(h0, .inr (5, fs))]) [0] rfl
  refine k_V (ci := 5) (q0 := 0) (tc := []) ⟨hx, hb, hml, hown, hts⟩ (c_isCampaign l dC dI h0 fs 0 p0 hf8) 1 wm_14 wm_15 wm_16 wm_2 wm_17 (by decide +kernel) ⟨Nat.le_of_ble_eq_true rfl, Nat.le_of_ble_eq_true rfl⟩ hPc (hK.sub (tys' := []) [] rfl) rfl rfl rfl hl.1 rfl (Nat.le_of_ble_eq_true rfl) dX5_why_2 ⟨Nat.le_of_ble_eq_true rfl, Nat.le_of_ble_eq_true rfl⟩ hS hP (fun r_1 H locs hpr_1 hP hS => ?_)
  obtain rfl : r_1 = 0 := hpr_1.trans (if_neg (k_no0 _))
  refine lv_if_eq (tgt := 23) hx hb dX5_why_5 (by decide) (fun _ => ?_) (fun h9 => absurd (by decide) h9)
  refine lv_iconst (v := (-1)) hx hb dX5_why_23 (by decide) ?_
  exact W.iret (v := (-1)) hx hb hr (fun t ht hW => ⟨⟨(-1), (), rfl, rfl, trivial⟩, hS.F ht⟩) hS.2.2 dX5_why_24
set_option maxHeartbeats 4000000 in
set_option maxRecDepth 100000 in
theorem b_X6_why (l : Launch) (dC : Nat → ClassId) (dI : Nat → Nat → Nat) (h0 : Nat) (fs : List Value) (p0 p1 p2 : Int32) (hf5 : fs[5]? = some (.int 0)) (hf9 : fs[9]? = some (.int 0)) (hf25 : fs[25]? = some (.int 0)) : mV l yX6_why cX6_why 4 .int 3 (dC, dI) [(h0, .inr (6, fs))] [] [.ref h0, .int p0, .int p1, .int p2] (fun r => r = (-1)) := by
  refine Met.ofW (cc := cX6_why) (maxL := 4) (ret := some .int) (by decide) rfl ?_
  intro p e s m args below meth c s₁ B hml hv
  obtain ⟨rfl, hP, hK⟩ := hv
  have hx := B.exec
  have hb := B.bytes
  have hr := B.returns
  have hlocks := B.notSynchronized
  have hts0 := atoms_spec (ws := Cond.code yX6_why cX6_why 4 (some .int) :: lw_B) B.pre
  have hts : ∀ w ∈ lw_B, w.before _ s = true := fun w h => hts0 w (List.mem_cons_of_mem _ h)
  have hown : s.vm.findClass RX6 = some m.cls := findClass_of_methodNamed B.named
  have hS : va_S (fun _ => False) s.heap s.heap [] := va_S.rf
  have hl := lv_entry ([.ref h0, .int p0, .int p1, .int p2]) (n := 4) (Nat.le_of_ble_eq_true rfl)
  rw [lg_entry_eq]
  generalize (lg_sl ([.ref h0, .int p0, .int p1, .int p2]) ++ List.replicate (4 - (lg_sl ([.ref h0, .int p0, .int p1, .int p2])).length) Slot.unset).toArray = ls at hl ⊢
  have hl : lv_has ls 4 [(0, .ref h0), (1, .int p0), (2, .int p1), (3, .int p2)] := hl
  refine lv_aload_n hx hb dX6_why_0 rfl (lv_at hl 0 rfl) ?_
  refine lv_iload_n hx hb dX6_why_1 rfl (lv_at hl 1 rfl) ?_
  have hPc := hP.sub (ws' := [(h0, .inr (6, fs))]) [0] rfl
  refine k_V (ci := 6) (q0 := 0) (tc := []) ⟨hx, hb, hml, hown, hts⟩ (c_mCampaign l dC dI h0 fs 0 p0 hf9) 1 wm_18 wm_19 wm_20 wm_6 wm_21 (by decide +kernel) ⟨Nat.le_of_ble_eq_true rfl, Nat.le_of_ble_eq_true rfl⟩ hPc (hK.sub (tys' := []) [] rfl) rfl rfl rfl hl.1 rfl (Nat.le_of_ble_eq_true rfl) dX6_why_2 ⟨Nat.le_of_ble_eq_true rfl, Nat.le_of_ble_eq_true rfl⟩ hS hP (fun r_1 H locs hpr_1 hP hS => ?_)
  obtain rfl : r_1 = 0 := hpr_1.trans (if_neg (k_no1 _))
  refine lv_if_eq (tgt := 33) hx hb dX6_why_5 (by decide) (fun _ => ?_) (fun h9 => absurd (by decide) h9)
  refine lv_iconst (v := (-1)) hx hb dX6_why_33 (by decide) ?_
  exact W.iret (v := (-1)) hx hb hr (fun t ht hW => ⟨⟨(-1), (), rfl, rfl, trivial⟩, hS.F ht⟩) hS.2.2 dX6_why_34
set_option maxHeartbeats 4000000 in
set_option maxRecDepth 100000 in
theorem b_X5_best (l : Launch) (dC : Nat → ClassId) (dI : Nat → Nat → Nat) (h0 : Nat) (fs : List Value) (p0 p1 : Int32) (hf7 : fs[7]? = some (.int 0)) (hf8 : fs[8]? = some (.int 0)) (hf9 : fs[9]? = some (.int 0)) : mVl l yX5_best cX5_best 3 .long 2 (dC, dI) [(h0, .inr (5, fs))] [] [.ref h0, .int p0, .int p1] (fun r => r = (-1)) := by
  refine Met.ofW (cc := cX5_best) (maxL := 3) (ret := some .long) (by decide) rfl ?_
  intro p e s m args below meth c s₁ B hml hv
  obtain ⟨rfl, hP, hK⟩ := hv
  have hx := B.exec
  have hb := B.bytes
  have hr := B.returns
  have hlocks := B.notSynchronized
  have hts0 := atoms_spec (ws := Cond.code yX5_best cX5_best 3 (some .long) :: lw_B) B.pre
  have hts : ∀ w ∈ lw_B, w.before _ s = true := fun w h => hts0 w (List.mem_cons_of_mem _ h)
  have hown : s.vm.findClass RX5 = some m.cls := findClass_of_methodNamed B.named
  have hS : va_S (fun _ => False) s.heap s.heap [] := va_S.rf
  have hl := lv_entry ([.ref h0, .int p0, .int p1]) (n := 3) (Nat.le_of_ble_eq_true rfl)
  rw [lg_entry_eq]
  generalize (lg_sl ([.ref h0, .int p0, .int p1]) ++ List.replicate (3 - (lg_sl ([.ref h0, .int p0, .int p1])).length) Slot.unset).toArray = ls at hl ⊢
  have hl : lv_has ls 3 [(0, .ref h0), (1, .int p0), (2, .int p1)] := hl
  refine lv_iload_n hx hb dX5_best_0 rfl (lv_at hl 1 rfl) ?_
  refine k_S ⟨hx, hb, hml, hown, hts⟩ (c_isReader l p0) 1 wm_22 wm_23 wm_2 wm_24 (by decide +kernel) ⟨Nat.le_of_ble_eq_true rfl, Nat.le_of_ble_eq_true rfl⟩ rfl hl.1 rfl (Nat.le_of_ble_eq_true rfl) dX5_best_1 ⟨Nat.le_of_ble_eq_true rfl, Nat.le_of_ble_eq_true rfl⟩ hS hP (fun r_1 H locs hpr_1 hP hS => ?_)
  refine lv_if_eq (tgt := 15) hx hb dX5_best_4 (by decide) (fun c_2 => ?_) (fun c_2 => ?_)
  · skip
    refine lv_ldc2 (v := (-1)) hx hb hown (hts _ wm_36) dX5_best_15 ?_
    exact W.lret (v := (-1)) hx hb hr (fun t ht hW => ⟨⟨(-1), (), rfl, rfl, trivial⟩, hS.F ht⟩) hS.2.2 dX5_best_18
  · skip
    refine lv_aload_n hx hb dX5_best_7 rfl (lv_at hl 0 rfl) ?_
    refine lv_iload_n hx hb dX5_best_8 rfl (lv_at hl 2 rfl) ?_
    have hPc := hP.sub (ws' := [(h0, .inr (5, fs))]) [0] rfl
    refine k_V (ci := 5) (q0 := 0) (tc := []) ⟨hx, hb, hml, hown, hts⟩ (c_isPage l dC dI h0 fs 0 p1 hf7) 1 wm_25 wm_26 wm_27 wm_2 wm_28 (by decide +kernel) ⟨Nat.le_of_ble_eq_true rfl, Nat.le_of_ble_eq_true rfl⟩ hPc (hK.sub (tys' := []) [] rfl) rfl rfl rfl hl.1 rfl (Nat.le_of_ble_eq_true rfl) dX5_best_9 ⟨Nat.le_of_ble_eq_true rfl, Nat.le_of_ble_eq_true rfl⟩ hS hP (fun r_3 H locs hpr_3 hP hS => ?_)
    obtain rfl : r_3 = 0 := hpr_3.trans (if_neg (k_no0 _))
    refine lv_if_ne (tgt := 19) hx hb dX5_best_12 (by decide) (fun h9 => absurd (by decide) h9) (fun _ => ?_)
    refine lv_ldc2 (v := (-1)) hx hb hown (hts _ wm_36) dX5_best_15 ?_
    exact W.lret (v := (-1)) hx hb hr (fun t ht hW => ⟨⟨(-1), (), rfl, rfl, trivial⟩, hS.F ht⟩) hS.2.2 dX5_best_18
set_option maxHeartbeats 4000000 in
set_option maxRecDepth 100000 in
theorem b_X6_best (l : Launch) (dC : Nat → ClassId) (dI : Nat → Nat → Nat) (h0 : Nat) (fs : List Value) (p0 p1 : Int32) (hf5 : fs[5]? = some (.int 0)) (hf9 : fs[9]? = some (.int 0)) (hf25 : fs[25]? = some (.int 0)) : mVl l yX6_best cX6_best 3 .long 3 (dC, dI) [(h0, .inr (6, fs))] [] [.ref h0, .int p0, .int p1] (fun r => r = (-1)) := by
  refine Met.ofW (cc := cX6_best) (maxL := 3) (ret := some .long) (by decide) rfl ?_
  intro p e s m args below meth c s₁ B hml hv
  obtain ⟨rfl, hP, hK⟩ := hv
  have hx := B.exec
  have hb := B.bytes
  have hr := B.returns
  have hlocks := B.notSynchronized
  have hts0 := atoms_spec (ws := Cond.code yX6_best cX6_best 3 (some .long) :: lw_B) B.pre
  have hts : ∀ w ∈ lw_B, w.before _ s = true := fun w h => hts0 w (List.mem_cons_of_mem _ h)
  have hown : s.vm.findClass RX6 = some m.cls := findClass_of_methodNamed B.named
  have hS : va_S (fun _ => False) s.heap s.heap [] := va_S.rf
  have hl := lv_entry ([.ref h0, .int p0, .int p1]) (n := 3) (Nat.le_of_ble_eq_true rfl)
  rw [lg_entry_eq]
  generalize (lg_sl ([.ref h0, .int p0, .int p1]) ++ List.replicate (3 - (lg_sl ([.ref h0, .int p0, .int p1])).length) Slot.unset).toArray = ls at hl ⊢
  have hl : lv_has ls 3 [(0, .ref h0), (1, .int p0), (2, .int p1)] := hl
  refine lv_iload_n hx hb dX6_best_0 rfl (lv_at hl 1 rfl) ?_
  refine k_S ⟨hx, hb, hml, hown, hts⟩ (c_mReader l p0) 1 wm_29 wm_30 wm_6 wm_31 (by decide +kernel) ⟨Nat.le_of_ble_eq_true rfl, Nat.le_of_ble_eq_true rfl⟩ rfl hl.1 rfl (Nat.le_of_ble_eq_true rfl) dX6_best_1 ⟨Nat.le_of_ble_eq_true rfl, Nat.le_of_ble_eq_true rfl⟩ hS hP (fun r_1 H locs hpr_1 hP hS => ?_)
  refine lv_if_eq (tgt := 24) hx hb dX6_best_4 (by decide) (fun c_2 => ?_) (fun c_2 => ?_)
  · skip
    refine lv_ldc2 (v := (-1)) hx hb hown (hts _ wm_37) dX6_best_24 ?_
    exact W.lret (v := (-1)) hx hb hr (fun t ht hW => ⟨⟨(-1), (), rfl, rfl, trivial⟩, hS.F ht⟩) hS.2.2 dX6_best_27
  · skip
    refine lv_aload_n hx hb dX6_best_7 rfl (lv_at hl 0 rfl) ?_
    refine lv_iload_n hx hb dX6_best_8 rfl (lv_at hl 2 rfl) ?_
    have hPc := hP.sub (ws' := [(h0, .inr (6, fs))]) [0] rfl
    refine k_V (ci := 6) (q0 := 0) (tc := []) ⟨hx, hb, hml, hown, hts⟩ (c_mPage l dC dI h0 fs 0 p1 hf5) 1 wm_32 wm_33 wm_34 wm_6 wm_35 (by decide +kernel) ⟨Nat.le_of_ble_eq_true rfl, Nat.le_of_ble_eq_true rfl⟩ hPc (hK.sub (tys' := []) [] rfl) rfl rfl rfl hl.1 rfl (Nat.le_of_ble_eq_true rfl) dX6_best_9 ⟨Nat.le_of_ble_eq_true rfl, Nat.le_of_ble_eq_true rfl⟩ hS hP (fun r_3 H locs hpr_3 hP hS => ?_)
    obtain rfl : r_3 = 0 := hpr_3.trans (if_neg (k_no1 _))
    refine lv_if_eq (tgt := 24) hx hb dX6_best_12 (by decide) (fun _ => ?_) (fun h9 => absurd (by decide) h9)
    refine lv_ldc2 (v := (-1)) hx hb hown (hts _ wm_37) dX6_best_24 ?_
    exact W.lret (v := (-1)) hx hb hr (fun t ht hW => ⟨⟨(-1), (), rfl, rfl, trivial⟩, hS.F ht⟩) hS.2.2 dX6_best_27
set_option maxHeartbeats 4000000 in
set_option maxRecDepth 100000 in
theorem b_X5_give (l : Launch) (dC : Nat → ClassId) (dI : Nat → Nat → Nat) (h0 : Nat) (fs : List Value) (p0 p1 p2 : Int32) (hf7 : fs[7]? = some (.int 0)) (hf8 : fs[8]? = some (.int 0)) (hf9 : fs[9]? = some (.int 0)) : mV l yX5_give cX5_give 5 .int 2 (dC, dI) [(h0, .inr (5, fs))] [] [.ref h0, .int p0, .int p1, .int p2] (fun r => r = (-1)) := by
  refine Met.ofW (cc := cX5_give) (maxL := 5) (ret := some .int) (by decide) rfl ?_
  intro p e s m args below meth c s₁ B hml hv
  obtain ⟨rfl, hP, hK⟩ := hv
  have hx := B.exec
  have hb := B.bytes
  have hr := B.returns
  have hlocks := B.notSynchronized
  have hts0 := atoms_spec (ws := Cond.code yX5_give cX5_give 5 (some .int) :: lw_B) B.pre
  have hts : ∀ w ∈ lw_B, w.before _ s = true := fun w h => hts0 w (List.mem_cons_of_mem _ h)
  have hown : s.vm.findClass RX5 = some m.cls := findClass_of_methodNamed B.named
  have hS : va_S (fun _ => False) s.heap s.heap [] := va_S.rf
  have hl := lv_entry ([.ref h0, .int p0, .int p1, .int p2]) (n := 5) (Nat.le_of_ble_eq_true rfl)
  rw [lg_entry_eq]
  generalize (lg_sl ([.ref h0, .int p0, .int p1, .int p2]) ++ List.replicate (5 - (lg_sl ([.ref h0, .int p0, .int p1, .int p2])).length) Slot.unset).toArray = ls at hl ⊢
  have hl : lv_has ls 5 [(0, .ref h0), (1, .int p0), (2, .int p1), (3, .int p2)] := hl
  refine lv_iload_n hx hb dX5_give_0 rfl (lv_at hl 1 rfl) ?_
  refine k_S ⟨hx, hb, hml, hown, hts⟩ (c_isReader l p0) 1 wm_22 wm_23 wm_2 wm_24 (by decide +kernel) ⟨Nat.le_of_ble_eq_true rfl, Nat.le_of_ble_eq_true rfl⟩ rfl hl.1 rfl (Nat.le_of_ble_eq_true rfl) dX5_give_1 ⟨Nat.le_of_ble_eq_true rfl, Nat.le_of_ble_eq_true rfl⟩ hS hP (fun r_1 H locs hpr_1 hP hS => ?_)
  refine lv_if_eq (tgt := 34) hx hb dX5_give_4 (by decide) (fun c_2 => ?_) (fun c_2 => ?_)
  · skip
    refine lv_iconst (v := (-1)) hx hb dX5_give_34 (by decide) ?_
    exact W.iret (v := (-1)) hx hb hr (fun t ht hW => ⟨⟨(-1), (), rfl, rfl, trivial⟩, hS.F ht⟩) hS.2.2 dX5_give_35
  · skip
    refine lv_aload_n hx hb dX5_give_7 rfl (lv_at hl 0 rfl) ?_
    refine lv_iload_n hx hb dX5_give_8 rfl (lv_at hl 2 rfl) ?_
    have hPc := hP.sub (ws' := [(h0, .inr (5, fs))]) [0] rfl
    refine k_V (ci := 5) (q0 := 0) (tc := []) ⟨hx, hb, hml, hown, hts⟩ (c_isPage l dC dI h0 fs 0 p1 hf7) 1 wm_25 wm_26 wm_27 wm_2 wm_28 (by decide +kernel) ⟨Nat.le_of_ble_eq_true rfl, Nat.le_of_ble_eq_true rfl⟩ hPc (hK.sub (tys' := []) [] rfl) rfl rfl rfl hl.1 rfl (Nat.le_of_ble_eq_true rfl) dX5_give_9 ⟨Nat.le_of_ble_eq_true rfl, Nat.le_of_ble_eq_true rfl⟩ hS hP (fun r_3 H locs hpr_3 hP hS => ?_)
    obtain rfl : r_3 = 0 := hpr_3.trans (if_neg (k_no0 _))
    refine lv_if_eq (tgt := 34) hx hb dX5_give_12 (by decide) (fun _ => ?_) (fun h9 => absurd (by decide) h9)
    refine lv_iconst (v := (-1)) hx hb dX5_give_34 (by decide) ?_
    exact W.iret (v := (-1)) hx hb hr (fun t ht hW => ⟨⟨(-1), (), rfl, rfl, trivial⟩, hS.F ht⟩) hS.2.2 dX5_give_35
set_option maxHeartbeats 4000000 in
set_option maxRecDepth 100000 in
theorem b_X6_give (l : Launch) (dC : Nat → ClassId) (dI : Nat → Nat → Nat) (h0 : Nat) (fs : List Value) (p0 p1 p2 : Int32) (hf5 : fs[5]? = some (.int 0)) (hf9 : fs[9]? = some (.int 0)) (hf25 : fs[25]? = some (.int 0)) : mV l yX6_give cX6_give 6 .int 3 (dC, dI) [(h0, .inr (6, fs))] [] [.ref h0, .int p0, .int p1, .int p2] (fun r => r = (-1)) := by
  refine Met.ofW (cc := cX6_give) (maxL := 6) (ret := some .int) (by decide) rfl ?_
  intro p e s m args below meth c s₁ B hml hv
  obtain ⟨rfl, hP, hK⟩ := hv
  have hx := B.exec
  have hb := B.bytes
  have hr := B.returns
  have hlocks := B.notSynchronized
  have hts0 := atoms_spec (ws := Cond.code yX6_give cX6_give 6 (some .int) :: lw_B) B.pre
  have hts : ∀ w ∈ lw_B, w.before _ s = true := fun w h => hts0 w (List.mem_cons_of_mem _ h)
  have hown : s.vm.findClass RX6 = some m.cls := findClass_of_methodNamed B.named
  have hS : va_S (fun _ => False) s.heap s.heap [] := va_S.rf
  have hl := lv_entry ([.ref h0, .int p0, .int p1, .int p2]) (n := 6) (Nat.le_of_ble_eq_true rfl)
  rw [lg_entry_eq]
  generalize (lg_sl ([.ref h0, .int p0, .int p1, .int p2]) ++ List.replicate (6 - (lg_sl ([.ref h0, .int p0, .int p1, .int p2])).length) Slot.unset).toArray = ls at hl ⊢
  have hl : lv_has ls 6 [(0, .ref h0), (1, .int p0), (2, .int p1), (3, .int p2)] := hl
  refine lv_iload_n hx hb dX6_give_0 rfl (lv_at hl 1 rfl) ?_
  refine k_S ⟨hx, hb, hml, hown, hts⟩ (c_mReader l p0) 1 wm_29 wm_30 wm_6 wm_31 (by decide +kernel) ⟨Nat.le_of_ble_eq_true rfl, Nat.le_of_ble_eq_true rfl⟩ rfl hl.1 rfl (Nat.le_of_ble_eq_true rfl) dX6_give_1 ⟨Nat.le_of_ble_eq_true rfl, Nat.le_of_ble_eq_true rfl⟩ hS hP (fun r_1 H locs hpr_1 hP hS => ?_)
  refine lv_if_eq (tgt := 31) hx hb dX6_give_4 (by decide) (fun c_2 => ?_) (fun c_2 => ?_)
  · skip
    refine lv_iconst (v := (-1)) hx hb dX6_give_31 (by decide) ?_
    exact W.iret (v := (-1)) hx hb hr (fun t ht hW => ⟨⟨(-1), (), rfl, rfl, trivial⟩, hS.F ht⟩) hS.2.2 dX6_give_32
  · skip
    refine lv_aload_n hx hb dX6_give_7 rfl (lv_at hl 0 rfl) ?_
    refine lv_iload_n hx hb dX6_give_8 rfl (lv_at hl 2 rfl) ?_
    have hPc := hP.sub (ws' := [(h0, .inr (6, fs))]) [0] rfl
    refine k_V (ci := 6) (q0 := 0) (tc := []) ⟨hx, hb, hml, hown, hts⟩ (c_mPage l dC dI h0 fs 0 p1 hf5) 1 wm_32 wm_33 wm_34 wm_6 wm_35 (by decide +kernel) ⟨Nat.le_of_ble_eq_true rfl, Nat.le_of_ble_eq_true rfl⟩ hPc (hK.sub (tys' := []) [] rfl) rfl rfl rfl hl.1 rfl (Nat.le_of_ble_eq_true rfl) dX6_give_9 ⟨Nat.le_of_ble_eq_true rfl, Nat.le_of_ble_eq_true rfl⟩ hS hP (fun r_3 H locs hpr_3 hP hS => ?_)
    obtain rfl : r_3 = 0 := hpr_3.trans (if_neg (k_no1 _))
    refine lv_if_eq (tgt := 31) hx hb dX6_give_12 (by decide) (fun _ => ?_) (fun h9 => absurd (by decide) h9)
    refine lv_iconst (v := (-1)) hx hb dX6_give_31 (by decide) ?_
    exact W.iret (v := (-1)) hx hb hr (fun t ht hW => ⟨⟨(-1), (), rfl, rfl, trivial⟩, hS.F ht⟩) hS.2.2 dX6_give_32
set_option maxHeartbeats 4000000 in
set_option maxRecDepth 100000 in
theorem b_X5_sale (l : Launch) (dC : Nat → ClassId) (dI : Nat → Nat → Nat) (h0 : Nat) (fs : List Value) (p0 p1 : Int32) (hf7 : fs[7]? = some (.int 0)) (hf8 : fs[8]? = some (.int 0)) (hf9 : fs[9]? = some (.int 0)) : mV l yX5_sale cX5_sale 4 .int 2 (dC, dI) [(h0, .inr (5, fs))] [] [.ref h0, .int p0, .int p1] (fun r => r = (-1)) := by
  refine Met.ofW (cc := cX5_sale) (maxL := 4) (ret := some .int) (by decide) rfl ?_
  intro p e s m args below meth c s₁ B hml hv
  obtain ⟨rfl, hP, hK⟩ := hv
  have hx := B.exec
  have hb := B.bytes
  have hr := B.returns
  have hlocks := B.notSynchronized
  have hts0 := atoms_spec (ws := Cond.code yX5_sale cX5_sale 4 (some .int) :: lw_B) B.pre
  have hts : ∀ w ∈ lw_B, w.before _ s = true := fun w h => hts0 w (List.mem_cons_of_mem _ h)
  have hown : s.vm.findClass RX5 = some m.cls := findClass_of_methodNamed B.named
  have hS : va_S (fun _ => False) s.heap s.heap [] := va_S.rf
  have hl := lv_entry ([.ref h0, .int p0, .int p1]) (n := 4) (Nat.le_of_ble_eq_true rfl)
  rw [lg_entry_eq]
  generalize (lg_sl ([.ref h0, .int p0, .int p1]) ++ List.replicate (4 - (lg_sl ([.ref h0, .int p0, .int p1])).length) Slot.unset).toArray = ls at hl ⊢
  have hl : lv_has ls 4 [(0, .ref h0), (1, .int p0), (2, .int p1)] := hl
  refine lv_aload_n hx hb dX5_sale_0 rfl (lv_at hl 0 rfl) ?_
  refine lv_iload_n hx hb dX5_sale_1 rfl (lv_at hl 1 rfl) ?_
  have hPc := hP.sub (ws' := [(h0, .inr (5, fs))]) [0] rfl
  refine k_V (ci := 5) (q0 := 0) (tc := []) ⟨hx, hb, hml, hown, hts⟩ (c_isSale l dC dI h0 fs 0 p0 hf9) 1 wm_38 wm_39 wm_40 wm_2 wm_41 (by decide +kernel) ⟨Nat.le_of_ble_eq_true rfl, Nat.le_of_ble_eq_true rfl⟩ hPc (hK.sub (tys' := []) [] rfl) rfl rfl rfl hl.1 rfl (Nat.le_of_ble_eq_true rfl) dX5_sale_2 ⟨Nat.le_of_ble_eq_true rfl, Nat.le_of_ble_eq_true rfl⟩ hS hP (fun r_1 H locs hpr_1 hP hS => ?_)
  obtain rfl : r_1 = 0 := hpr_1.trans (if_neg (k_no0 _))
  refine lv_if_ne (tgt := 10) hx hb dX5_sale_5 (by decide) (fun h9 => absurd (by decide) h9) (fun _ => ?_)
  refine lv_iconst (v := (-1)) hx hb dX5_sale_8 (by decide) ?_
  exact W.iret (v := (-1)) hx hb hr (fun t ht hW => ⟨⟨(-1), (), rfl, rfl, trivial⟩, hS.F ht⟩) hS.2.2 dX5_sale_9
set_option maxHeartbeats 4000000 in
set_option maxRecDepth 100000 in
theorem b_X6_sale (l : Launch) (dC : Nat → ClassId) (dI : Nat → Nat → Nat) (h0 : Nat) (fs : List Value) (p0 p1 : Int32) (hf5 : fs[5]? = some (.int 0)) (hf9 : fs[9]? = some (.int 0)) (hf25 : fs[25]? = some (.int 0)) : mV l yX6_sale cX6_sale 3 .int 3 (dC, dI) [(h0, .inr (6, fs))] [] [.ref h0, .int p0, .int p1] (fun r => r = (-1)) := by
  refine Met.ofW (cc := cX6_sale) (maxL := 3) (ret := some .int) (by decide) rfl ?_
  intro p e s m args below meth c s₁ B hml hv
  obtain ⟨rfl, hP, hK⟩ := hv
  have hx := B.exec
  have hb := B.bytes
  have hr := B.returns
  have hlocks := B.notSynchronized
  have hts0 := atoms_spec (ws := Cond.code yX6_sale cX6_sale 3 (some .int) :: lw_B) B.pre
  have hts : ∀ w ∈ lw_B, w.before _ s = true := fun w h => hts0 w (List.mem_cons_of_mem _ h)
  have hown : s.vm.findClass RX6 = some m.cls := findClass_of_methodNamed B.named
  have hS : va_S (fun _ => False) s.heap s.heap [] := va_S.rf
  have hl := lv_entry ([.ref h0, .int p0, .int p1]) (n := 3) (Nat.le_of_ble_eq_true rfl)
  rw [lg_entry_eq]
  generalize (lg_sl ([.ref h0, .int p0, .int p1]) ++ List.replicate (3 - (lg_sl ([.ref h0, .int p0, .int p1])).length) Slot.unset).toArray = ls at hl ⊢
  have hl : lv_has ls 3 [(0, .ref h0), (1, .int p0), (2, .int p1)] := hl
  refine lv_aload_n hx hb dX6_sale_0 rfl (lv_at hl 0 rfl) ?_
  refine lv_iload_n hx hb dX6_sale_1 rfl (lv_at hl 1 rfl) ?_
  have hPc := hP.sub (ws' := [(h0, .inr (6, fs))]) [0] rfl
  refine k_V (ci := 6) (q0 := 0) (tc := []) ⟨hx, hb, hml, hown, hts⟩ (c_mSale l dC dI h0 fs 0 p0 hf25) 1 wm_42 wm_43 wm_44 wm_6 wm_45 (by decide +kernel) ⟨Nat.le_of_ble_eq_true rfl, Nat.le_of_ble_eq_true rfl⟩ hPc (hK.sub (tys' := []) [] rfl) rfl rfl rfl hl.1 rfl (Nat.le_of_ble_eq_true rfl) dX6_sale_2 ⟨Nat.le_of_ble_eq_true rfl, Nat.le_of_ble_eq_true rfl⟩ hS hP (fun r_1 H locs hpr_1 hP hS => ?_)
  obtain rfl : r_1 = 0 := hpr_1.trans (if_neg (k_no1 _))
  refine lv_if_ne (tgt := 10) hx hb dX6_sale_5 (by decide) (fun h9 => absurd (by decide) h9) (fun _ => ?_)
  refine lv_iconst (v := (-1)) hx hb dX6_sale_8 (by decide) ?_
  exact W.iret (v := (-1)) hx hb hr (fun t ht hW => ⟨⟨(-1), (), rfl, rfl, trivial⟩, hS.F ht⟩) hS.2.2 dX6_sale_9
set_option maxHeartbeats 4000000 in
set_option maxRecDepth 100000 in
theorem b_X5_press (l : Launch) (dC : Nat → ClassId) (dI : Nat → Nat → Nat) (h0 : Nat) (fs : List Value) (p0 : Int32) (hf7 : fs[7]? = some (.int 0)) (hf8 : fs[8]? = some (.int 0)) (hf9 : fs[9]? = some (.int 0)) : mV l yX5_press cX5_press 5 .int 2 (dC, dI) [(h0, .inr (5, fs))] [] [.ref h0, .int p0] (fun r => r = (-1)) := by
  refine Met.ofW (cc := cX5_press) (maxL := 5) (ret := some .int) (by decide) rfl ?_
  intro p e s m args below meth c s₁ B hml hv
  obtain ⟨rfl, hP, hK⟩ := hv
  have hx := B.exec
  have hb := B.bytes
  have hr := B.returns
  have hlocks := B.notSynchronized
  have hts0 := atoms_spec (ws := Cond.code yX5_press cX5_press 5 (some .int) :: lw_B) B.pre
  have hts : ∀ w ∈ lw_B, w.before _ s = true := fun w h => hts0 w (List.mem_cons_of_mem _ h)
  have hown : s.vm.findClass RX5 = some m.cls := findClass_of_methodNamed B.named
  have hS : va_S (fun _ => False) s.heap s.heap [] := va_S.rf
  have hl := lv_entry ([.ref h0, .int p0]) (n := 5) (Nat.le_of_ble_eq_true rfl)
  rw [lg_entry_eq]
  generalize (lg_sl ([.ref h0, .int p0]) ++ List.replicate (5 - (lg_sl ([.ref h0, .int p0])).length) Slot.unset).toArray = ls at hl ⊢
  have hl : lv_has ls 5 [(0, .ref h0), (1, .int p0)] := hl
  refine lv_aload_n hx hb dX5_press_0 rfl (lv_at hl 0 rfl) ?_
  refine lv_iload_n hx hb dX5_press_1 rfl (lv_at hl 1 rfl) ?_
  have hPc := hP.sub (ws' := [(h0, .inr (5, fs))]) [0] rfl
  refine k_V (ci := 5) (q0 := 0) (tc := []) ⟨hx, hb, hml, hown, hts⟩ (c_isSale l dC dI h0 fs 0 p0 hf9) 1 wm_38 wm_39 wm_40 wm_2 wm_41 (by decide +kernel) ⟨Nat.le_of_ble_eq_true rfl, Nat.le_of_ble_eq_true rfl⟩ hPc (hK.sub (tys' := []) [] rfl) rfl rfl rfl hl.1 rfl (Nat.le_of_ble_eq_true rfl) dX5_press_2 ⟨Nat.le_of_ble_eq_true rfl, Nat.le_of_ble_eq_true rfl⟩ hS hP (fun r_1 H locs hpr_1 hP hS => ?_)
  obtain rfl : r_1 = 0 := hpr_1.trans (if_neg (k_no0 _))
  refine lv_if_ne (tgt := 10) hx hb dX5_press_5 (by decide) (fun h9 => absurd (by decide) h9) (fun _ => ?_)
  refine lv_iconst (v := (-1)) hx hb dX5_press_8 (by decide) ?_
  exact W.iret (v := (-1)) hx hb hr (fun t ht hW => ⟨⟨(-1), (), rfl, rfl, trivial⟩, hS.F ht⟩) hS.2.2 dX5_press_9
set_option maxHeartbeats 4000000 in
set_option maxRecDepth 100000 in
theorem b_X6_press (l : Launch) (dC : Nat → ClassId) (dI : Nat → Nat → Nat) (h0 : Nat) (fs : List Value) (p0 : Int32) (hf5 : fs[5]? = some (.int 0)) (hf9 : fs[9]? = some (.int 0)) (hf25 : fs[25]? = some (.int 0)) : mV l yX6_press cX6_press 3 .int 3 (dC, dI) [(h0, .inr (6, fs))] [] [.ref h0, .int p0] (fun r => r = (-1)) := by
  refine Met.ofW (cc := cX6_press) (maxL := 3) (ret := some .int) (by decide) rfl ?_
  intro p e s m args below meth c s₁ B hml hv
  obtain ⟨rfl, hP, hK⟩ := hv
  have hx := B.exec
  have hb := B.bytes
  have hr := B.returns
  have hlocks := B.notSynchronized
  have hts0 := atoms_spec (ws := Cond.code yX6_press cX6_press 3 (some .int) :: lw_B) B.pre
  have hts : ∀ w ∈ lw_B, w.before _ s = true := fun w h => hts0 w (List.mem_cons_of_mem _ h)
  have hown : s.vm.findClass RX6 = some m.cls := findClass_of_methodNamed B.named
  have hS : va_S (fun _ => False) s.heap s.heap [] := va_S.rf
  have hl := lv_entry ([.ref h0, .int p0]) (n := 3) (Nat.le_of_ble_eq_true rfl)
  rw [lg_entry_eq]
  generalize (lg_sl ([.ref h0, .int p0]) ++ List.replicate (3 - (lg_sl ([.ref h0, .int p0])).length) Slot.unset).toArray = ls at hl ⊢
  have hl : lv_has ls 3 [(0, .ref h0), (1, .int p0)] := hl
  refine lv_aload_n hx hb dX6_press_0 rfl (lv_at hl 0 rfl) ?_
  refine lv_iload_n hx hb dX6_press_1 rfl (lv_at hl 1 rfl) ?_
  have hPc := hP.sub (ws' := [(h0, .inr (6, fs))]) [0] rfl
  refine k_V (ci := 6) (q0 := 0) (tc := []) ⟨hx, hb, hml, hown, hts⟩ (c_mSale l dC dI h0 fs 0 p0 hf25) 1 wm_42 wm_43 wm_44 wm_6 wm_45 (by decide +kernel) ⟨Nat.le_of_ble_eq_true rfl, Nat.le_of_ble_eq_true rfl⟩ hPc (hK.sub (tys' := []) [] rfl) rfl rfl rfl hl.1 rfl (Nat.le_of_ble_eq_true rfl) dX6_press_2 ⟨Nat.le_of_ble_eq_true rfl, Nat.le_of_ble_eq_true rfl⟩ hS hP (fun r_1 H locs hpr_1 hP hS => ?_)
  obtain rfl : r_1 = 0 := hpr_1.trans (if_neg (k_no1 _))
  refine lv_if_ne (tgt := 10) hx hb dX6_press_5 (by decide) (fun h9 => absurd (by decide) h9) (fun _ => ?_)
  refine lv_iconst (v := (-1)) hx hb dX6_press_8 (by decide) ?_
  exact W.iret (v := (-1)) hx hb hr (fun t ht hW => ⟨⟨(-1), (), rfl, rfl, trivial⟩, hS.F ht⟩) hS.2.2 dX6_press_9
set_option maxHeartbeats 4000000 in
set_option maxRecDepth 100000 in
theorem b_X5_refund (l : Launch) (dC : Nat → ClassId) (dI : Nat → Nat → Nat) (h0 : Nat) (fs : List Value) (p0 : Int32) (hf7 : fs[7]? = some (.int 0)) (hf8 : fs[8]? = some (.int 0)) (hf9 : fs[9]? = some (.int 0)) : mV l yX5_refund cX5_refund 4 .int 2 (dC, dI) [(h0, .inr (5, fs))] [] [.ref h0, .int p0] (fun r => r = (-1)) := by
  refine Met.ofW (cc := cX5_refund) (maxL := 4) (ret := some .int) (by decide) rfl ?_
  intro p e s m args below meth c s₁ B hml hv
  obtain ⟨rfl, hP, hK⟩ := hv
  have hx := B.exec
  have hb := B.bytes
  have hr := B.returns
  have hlocks := B.notSynchronized
  have hts0 := atoms_spec (ws := Cond.code yX5_refund cX5_refund 4 (some .int) :: lw_B) B.pre
  have hts : ∀ w ∈ lw_B, w.before _ s = true := fun w h => hts0 w (List.mem_cons_of_mem _ h)
  have hown : s.vm.findClass RX5 = some m.cls := findClass_of_methodNamed B.named
  have hS : va_S (fun _ => False) s.heap s.heap [] := va_S.rf
  have hl := lv_entry ([.ref h0, .int p0]) (n := 4) (Nat.le_of_ble_eq_true rfl)
  rw [lg_entry_eq]
  generalize (lg_sl ([.ref h0, .int p0]) ++ List.replicate (4 - (lg_sl ([.ref h0, .int p0])).length) Slot.unset).toArray = ls at hl ⊢
  have hl : lv_has ls 4 [(0, .ref h0), (1, .int p0)] := hl
  refine lv_aload_n hx hb dX5_refund_0 rfl (lv_at hl 0 rfl) ?_
  refine lv_iload_n hx hb dX5_refund_1 rfl (lv_at hl 1 rfl) ?_
  have hPc := hP.sub (ws' := [(h0, .inr (5, fs))]) [0] rfl
  refine k_V (ci := 5) (q0 := 0) (tc := []) ⟨hx, hb, hml, hown, hts⟩ (c_isSale l dC dI h0 fs 0 p0 hf9) 1 wm_38 wm_39 wm_40 wm_2 wm_41 (by decide +kernel) ⟨Nat.le_of_ble_eq_true rfl, Nat.le_of_ble_eq_true rfl⟩ hPc (hK.sub (tys' := []) [] rfl) rfl rfl rfl hl.1 rfl (Nat.le_of_ble_eq_true rfl) dX5_refund_2 ⟨Nat.le_of_ble_eq_true rfl, Nat.le_of_ble_eq_true rfl⟩ hS hP (fun r_1 H locs hpr_1 hP hS => ?_)
  obtain rfl : r_1 = 0 := hpr_1.trans (if_neg (k_no0 _))
  refine lv_if_ne (tgt := 10) hx hb dX5_refund_5 (by decide) (fun h9 => absurd (by decide) h9) (fun _ => ?_)
  refine lv_iconst (v := (-1)) hx hb dX5_refund_8 (by decide) ?_
  exact W.iret (v := (-1)) hx hb hr (fun t ht hW => ⟨⟨(-1), (), rfl, rfl, trivial⟩, hS.F ht⟩) hS.2.2 dX5_refund_9
set_option maxHeartbeats 4000000 in
set_option maxRecDepth 100000 in
theorem b_X6_refund (l : Launch) (dC : Nat → ClassId) (dI : Nat → Nat → Nat) (h0 : Nat) (fs : List Value) (p0 : Int32) (hf5 : fs[5]? = some (.int 0)) (hf9 : fs[9]? = some (.int 0)) (hf25 : fs[25]? = some (.int 0)) : mV l yX6_refund cX6_refund 3 .int 3 (dC, dI) [(h0, .inr (6, fs))] [] [.ref h0, .int p0] (fun r => r = (-1)) := by
  refine Met.ofW (cc := cX6_refund) (maxL := 3) (ret := some .int) (by decide) rfl ?_
  intro p e s m args below meth c s₁ B hml hv
  obtain ⟨rfl, hP, hK⟩ := hv
  have hx := B.exec
  have hb := B.bytes
  have hr := B.returns
  have hlocks := B.notSynchronized
  have hts0 := atoms_spec (ws := Cond.code yX6_refund cX6_refund 3 (some .int) :: lw_B) B.pre
  have hts : ∀ w ∈ lw_B, w.before _ s = true := fun w h => hts0 w (List.mem_cons_of_mem _ h)
  have hown : s.vm.findClass RX6 = some m.cls := findClass_of_methodNamed B.named
  have hS : va_S (fun _ => False) s.heap s.heap [] := va_S.rf
  have hl := lv_entry ([.ref h0, .int p0]) (n := 3) (Nat.le_of_ble_eq_true rfl)
  rw [lg_entry_eq]
  generalize (lg_sl ([.ref h0, .int p0]) ++ List.replicate (3 - (lg_sl ([.ref h0, .int p0])).length) Slot.unset).toArray = ls at hl ⊢
  have hl : lv_has ls 3 [(0, .ref h0), (1, .int p0)] := hl
  refine lv_aload_n hx hb dX6_refund_0 rfl (lv_at hl 0 rfl) ?_
  refine lv_iload_n hx hb dX6_refund_1 rfl (lv_at hl 1 rfl) ?_
  have hPc := hP.sub (ws' := [(h0, .inr (6, fs))]) [0] rfl
  refine k_V (ci := 6) (q0 := 0) (tc := []) ⟨hx, hb, hml, hown, hts⟩ (c_mSale l dC dI h0 fs 0 p0 hf25) 1 wm_42 wm_43 wm_44 wm_6 wm_45 (by decide +kernel) ⟨Nat.le_of_ble_eq_true rfl, Nat.le_of_ble_eq_true rfl⟩ hPc (hK.sub (tys' := []) [] rfl) rfl rfl rfl hl.1 rfl (Nat.le_of_ble_eq_true rfl) dX6_refund_2 ⟨Nat.le_of_ble_eq_true rfl, Nat.le_of_ble_eq_true rfl⟩ hS hP (fun r_1 H locs hpr_1 hP hS => ?_)
  obtain rfl : r_1 = 0 := hpr_1.trans (if_neg (k_no1 _))
  refine lv_if_ne (tgt := 10) hx hb dX6_refund_5 (by decide) (fun h9 => absurd (by decide) h9) (fun _ => ?_)
  refine lv_iconst (v := (-1)) hx hb dX6_refund_8 (by decide) ?_
  exact W.iret (v := (-1)) hx hb hr (fun t ht hW => ⟨⟨(-1), (), rfl, rfl, trivial⟩, hS.F ht⟩) hS.2.2 dX6_refund_9
set_option maxHeartbeats 4000000 in
set_option maxRecDepth 100000 in
theorem b_X5_told (l : Launch) (dC : Nat → ClassId) (dI : Nat → Nat → Nat) (h0 : Nat) (fs : List Value) (p0 p1 : Int32) (hf7 : fs[7]? = some (.int 0)) (hf8 : fs[8]? = some (.int 0)) (hf9 : fs[9]? = some (.int 0)) : mV l yX5_told cX5_told 4 .int 2 (dC, dI) [(h0, .inr (5, fs))] [] [.ref h0, .int p0, .int p1] (fun r => r = (-2000000)) := by
  refine Met.ofW (cc := cX5_told) (maxL := 4) (ret := some .int) (by decide) rfl ?_
  intro p e s m args below meth c s₁ B hml hv
  obtain ⟨rfl, hP, hK⟩ := hv
  have hx := B.exec
  have hb := B.bytes
  have hr := B.returns
  have hlocks := B.notSynchronized
  have hts0 := atoms_spec (ws := Cond.code yX5_told cX5_told 4 (some .int) :: lw_B) B.pre
  have hts : ∀ w ∈ lw_B, w.before _ s = true := fun w h => hts0 w (List.mem_cons_of_mem _ h)
  have hown : s.vm.findClass RX5 = some m.cls := findClass_of_methodNamed B.named
  have hS : va_S (fun _ => False) s.heap s.heap [] := va_S.rf
  have hl := lv_entry ([.ref h0, .int p0, .int p1]) (n := 4) (Nat.le_of_ble_eq_true rfl)
  rw [lg_entry_eq]
  generalize (lg_sl ([.ref h0, .int p0, .int p1]) ++ List.replicate (4 - (lg_sl ([.ref h0, .int p0, .int p1])).length) Slot.unset).toArray = ls at hl ⊢
  have hl : lv_has ls 4 [(0, .ref h0), (1, .int p0), (2, .int p1)] := hl
  refine lv_aload_n hx hb dX5_told_0 rfl (lv_at hl 0 rfl) ?_
  refine lv_iload_n hx hb dX5_told_1 rfl (lv_at hl 1 rfl) ?_
  have hPc := hP.sub (ws' := [(h0, .inr (5, fs))]) [0] rfl
  refine k_V (ci := 5) (q0 := 0) (tc := []) ⟨hx, hb, hml, hown, hts⟩ (c_isCampaign l dC dI h0 fs 0 p0 hf8) 1 wm_14 wm_15 wm_16 wm_2 wm_17 (by decide +kernel) ⟨Nat.le_of_ble_eq_true rfl, Nat.le_of_ble_eq_true rfl⟩ hPc (hK.sub (tys' := []) [] rfl) rfl rfl rfl hl.1 rfl (Nat.le_of_ble_eq_true rfl) dX5_told_2 ⟨Nat.le_of_ble_eq_true rfl, Nat.le_of_ble_eq_true rfl⟩ hS hP (fun r_1 H locs hpr_1 hP hS => ?_)
  obtain rfl : r_1 = 0 := hpr_1.trans (if_neg (k_no0 _))
  refine lv_if_ne (tgt := 11) hx hb dX5_told_5 (by decide) (fun h9 => absurd (by decide) h9) (fun _ => ?_)
  refine lv_ldc (v := (-2000000)) hx hb hown (hts _ wm_46) dX5_told_8 ?_
  exact W.iret (v := (-2000000)) hx hb hr (fun t ht hW => ⟨⟨(-2000000), (), rfl, rfl, trivial⟩, hS.F ht⟩) hS.2.2 dX5_told_10
set_option maxHeartbeats 4000000 in
set_option maxRecDepth 100000 in
theorem b_X6_told (l : Launch) (dC : Nat → ClassId) (dI : Nat → Nat → Nat) (h0 : Nat) (fs : List Value) (p0 p1 : Int32) (hf5 : fs[5]? = some (.int 0)) (hf9 : fs[9]? = some (.int 0)) (hf25 : fs[25]? = some (.int 0)) : mV l yX6_told cX6_told 3 .int 3 (dC, dI) [(h0, .inr (6, fs))] [] [.ref h0, .int p0, .int p1] (fun r => r = (-2000000)) := by
  refine Met.ofW (cc := cX6_told) (maxL := 3) (ret := some .int) (by decide) rfl ?_
  intro p e s m args below meth c s₁ B hml hv
  obtain ⟨rfl, hP, hK⟩ := hv
  have hx := B.exec
  have hb := B.bytes
  have hr := B.returns
  have hlocks := B.notSynchronized
  have hts0 := atoms_spec (ws := Cond.code yX6_told cX6_told 3 (some .int) :: lw_B) B.pre
  have hts : ∀ w ∈ lw_B, w.before _ s = true := fun w h => hts0 w (List.mem_cons_of_mem _ h)
  have hown : s.vm.findClass RX6 = some m.cls := findClass_of_methodNamed B.named
  have hS : va_S (fun _ => False) s.heap s.heap [] := va_S.rf
  have hl := lv_entry ([.ref h0, .int p0, .int p1]) (n := 3) (Nat.le_of_ble_eq_true rfl)
  rw [lg_entry_eq]
  generalize (lg_sl ([.ref h0, .int p0, .int p1]) ++ List.replicate (3 - (lg_sl ([.ref h0, .int p0, .int p1])).length) Slot.unset).toArray = ls at hl ⊢
  have hl : lv_has ls 3 [(0, .ref h0), (1, .int p0), (2, .int p1)] := hl
  refine lv_aload_n hx hb dX6_told_0 rfl (lv_at hl 0 rfl) ?_
  refine lv_iload_n hx hb dX6_told_1 rfl (lv_at hl 1 rfl) ?_
  have hPc := hP.sub (ws' := [(h0, .inr (6, fs))]) [0] rfl
  refine k_V (ci := 6) (q0 := 0) (tc := []) ⟨hx, hb, hml, hown, hts⟩ (c_mCampaign l dC dI h0 fs 0 p0 hf9) 1 wm_18 wm_19 wm_20 wm_6 wm_21 (by decide +kernel) ⟨Nat.le_of_ble_eq_true rfl, Nat.le_of_ble_eq_true rfl⟩ hPc (hK.sub (tys' := []) [] rfl) rfl rfl rfl hl.1 rfl (Nat.le_of_ble_eq_true rfl) dX6_told_2 ⟨Nat.le_of_ble_eq_true rfl, Nat.le_of_ble_eq_true rfl⟩ hS hP (fun r_1 H locs hpr_1 hP hS => ?_)
  obtain rfl : r_1 = 0 := hpr_1.trans (if_neg (k_no1 _))
  refine lv_if_ne (tgt := 12) hx hb dX6_told_5 (by decide) (fun h9 => absurd (by decide) h9) (fun _ => ?_)
  refine lv_ldcw (v := (-2000000)) hx hb hown (hts _ wm_47) dX6_told_8 ?_
  exact W.iret (v := (-2000000)) hx hb hr (fun t ht hW => ⟨⟨(-2000000), (), rfl, rfl, trivial⟩, hS.F ht⟩) hS.2.2 dX6_told_11
set_option maxHeartbeats 4000000 in
set_option maxRecDepth 100000 in
theorem b_X5_chance (l : Launch) (dC : Nat → ClassId) (dI : Nat → Nat → Nat) (h0 : Nat) (fs : List Value) (p0 : Int32) (hf7 : fs[7]? = some (.int 0)) (hf8 : fs[8]? = some (.int 0)) (hf9 : fs[9]? = some (.int 0)) : mV l yX5_chance cX5_chance 2 .int 2 (dC, dI) [(h0, .inr (5, fs))] [] [.ref h0, .int p0] (fun r => r = (-1)) := by
  refine Met.ofW (cc := cX5_chance) (maxL := 2) (ret := some .int) (by decide) rfl ?_
  intro p e s m args below meth c s₁ B hml hv
  obtain ⟨rfl, hP, hK⟩ := hv
  have hx := B.exec
  have hb := B.bytes
  have hr := B.returns
  have hlocks := B.notSynchronized
  have hts0 := atoms_spec (ws := Cond.code yX5_chance cX5_chance 2 (some .int) :: lw_B) B.pre
  have hts : ∀ w ∈ lw_B, w.before _ s = true := fun w h => hts0 w (List.mem_cons_of_mem _ h)
  have hown : s.vm.findClass RX5 = some m.cls := findClass_of_methodNamed B.named
  have hS : va_S (fun _ => False) s.heap s.heap [] := va_S.rf
  have hl := lv_entry ([.ref h0, .int p0]) (n := 2) (Nat.le_of_ble_eq_true rfl)
  rw [lg_entry_eq]
  generalize (lg_sl ([.ref h0, .int p0]) ++ List.replicate (2 - (lg_sl ([.ref h0, .int p0])).length) Slot.unset).toArray = ls at hl ⊢
  have hl : lv_has ls 2 [(0, .ref h0), (1, .int p0)] := hl
  refine lv_aload_n hx hb dX5_chance_0 rfl (lv_at hl 0 rfl) ?_
  refine lv_iload_n hx hb dX5_chance_1 rfl (lv_at hl 1 rfl) ?_
  have hPc := hP.sub (ws' := [(h0, .inr (5, fs))]) [0] rfl
  refine k_V (ci := 5) (q0 := 0) (tc := []) ⟨hx, hb, hml, hown, hts⟩ (c_isCampaign l dC dI h0 fs 0 p0 hf8) 1 wm_14 wm_15 wm_16 wm_2 wm_17 (by decide +kernel) ⟨Nat.le_of_ble_eq_true rfl, Nat.le_of_ble_eq_true rfl⟩ hPc (hK.sub (tys' := []) [] rfl) rfl rfl rfl hl.1 rfl (Nat.le_of_ble_eq_true rfl) dX5_chance_2 ⟨Nat.le_of_ble_eq_true rfl, Nat.le_of_ble_eq_true rfl⟩ hS hP (fun r_1 H locs hpr_1 hP hS => ?_)
  obtain rfl : r_1 = 0 := hpr_1.trans (if_neg (k_no0 _))
  refine lv_if_ne (tgt := 10) hx hb dX5_chance_5 (by decide) (fun h9 => absurd (by decide) h9) (fun _ => ?_)
  refine lv_iconst (v := (-1)) hx hb dX5_chance_8 (by decide) ?_
  exact W.iret (v := (-1)) hx hb hr (fun t ht hW => ⟨⟨(-1), (), rfl, rfl, trivial⟩, hS.F ht⟩) hS.2.2 dX5_chance_9
set_option maxHeartbeats 4000000 in
set_option maxRecDepth 100000 in
theorem b_X6_chance (l : Launch) (dC : Nat → ClassId) (dI : Nat → Nat → Nat) (h0 : Nat) (fs : List Value) (p0 : Int32) (hf5 : fs[5]? = some (.int 0)) (hf9 : fs[9]? = some (.int 0)) (hf25 : fs[25]? = some (.int 0)) : mV l yX6_chance cX6_chance 2 .int 3 (dC, dI) [(h0, .inr (6, fs))] [] [.ref h0, .int p0] (fun r => r = (-1)) := by
  refine Met.ofW (cc := cX6_chance) (maxL := 2) (ret := some .int) (by decide) rfl ?_
  intro p e s m args below meth c s₁ B hml hv
  obtain ⟨rfl, hP, hK⟩ := hv
  have hx := B.exec
  have hb := B.bytes
  have hr := B.returns
  have hlocks := B.notSynchronized
  have hts0 := atoms_spec (ws := Cond.code yX6_chance cX6_chance 2 (some .int) :: lw_B) B.pre
  have hts : ∀ w ∈ lw_B, w.before _ s = true := fun w h => hts0 w (List.mem_cons_of_mem _ h)
  have hown : s.vm.findClass RX6 = some m.cls := findClass_of_methodNamed B.named
  have hS : va_S (fun _ => False) s.heap s.heap [] := va_S.rf
  have hl := lv_entry ([.ref h0, .int p0]) (n := 2) (Nat.le_of_ble_eq_true rfl)
  rw [lg_entry_eq]
  generalize (lg_sl ([.ref h0, .int p0]) ++ List.replicate (2 - (lg_sl ([.ref h0, .int p0])).length) Slot.unset).toArray = ls at hl ⊢
  have hl : lv_has ls 2 [(0, .ref h0), (1, .int p0)] := hl
  refine lv_aload_n hx hb dX6_chance_0 rfl (lv_at hl 0 rfl) ?_
  refine lv_iload_n hx hb dX6_chance_1 rfl (lv_at hl 1 rfl) ?_
  have hPc := hP.sub (ws' := [(h0, .inr (6, fs))]) [0] rfl
  refine k_V (ci := 6) (q0 := 0) (tc := []) ⟨hx, hb, hml, hown, hts⟩ (c_mCampaign l dC dI h0 fs 0 p0 hf9) 1 wm_18 wm_19 wm_20 wm_6 wm_21 (by decide +kernel) ⟨Nat.le_of_ble_eq_true rfl, Nat.le_of_ble_eq_true rfl⟩ hPc (hK.sub (tys' := []) [] rfl) rfl rfl rfl hl.1 rfl (Nat.le_of_ble_eq_true rfl) dX6_chance_2 ⟨Nat.le_of_ble_eq_true rfl, Nat.le_of_ble_eq_true rfl⟩ hS hP (fun r_1 H locs hpr_1 hP hS => ?_)
  obtain rfl : r_1 = 0 := hpr_1.trans (if_neg (k_no1 _))
  refine lv_if_eq (tgt := 42) hx hb dX6_chance_5 (by decide) (fun _ => ?_) (fun h9 => absurd (by decide) h9)
  refine lv_iconst (v := (-1)) hx hb dX6_chance_42 (by decide) ?_
  exact W.iret (v := (-1)) hx hb hr (fun t ht hW => ⟨⟨(-1), (), rfl, rfl, trivial⟩, hS.F ht⟩) hS.2.2 dX6_chance_43
set_option maxHeartbeats 4000000 in
set_option maxRecDepth 100000 in
theorem b_X5_draw (l : Launch) (dC : Nat → ClassId) (dI : Nat → Nat → Nat) (h0 : Nat) (fs : List Value) (p0 p1 : Int32) (hf7 : fs[7]? = some (.int 0)) (hf8 : fs[8]? = some (.int 0)) (hf9 : fs[9]? = some (.int 0)) : mV l yX5_draw cX5_draw 3 .int 2 (dC, dI) [(h0, .inr (5, fs))] [] [.ref h0, .int p0, .int p1] (fun r => r = (-1)) := by
  refine Met.ofW (cc := cX5_draw) (maxL := 3) (ret := some .int) (by decide) rfl ?_
  intro p e s m args below meth c s₁ B hml hv
  obtain ⟨rfl, hP, hK⟩ := hv
  have hx := B.exec
  have hb := B.bytes
  have hr := B.returns
  have hlocks := B.notSynchronized
  have hts0 := atoms_spec (ws := Cond.code yX5_draw cX5_draw 3 (some .int) :: lw_B) B.pre
  have hts : ∀ w ∈ lw_B, w.before _ s = true := fun w h => hts0 w (List.mem_cons_of_mem _ h)
  have hown : s.vm.findClass RX5 = some m.cls := findClass_of_methodNamed B.named
  have hS : va_S (fun _ => False) s.heap s.heap [] := va_S.rf
  have hl := lv_entry ([.ref h0, .int p0, .int p1]) (n := 3) (Nat.le_of_ble_eq_true rfl)
  rw [lg_entry_eq]
  generalize (lg_sl ([.ref h0, .int p0, .int p1]) ++ List.replicate (3 - (lg_sl ([.ref h0, .int p0, .int p1])).length) Slot.unset).toArray = ls at hl ⊢
  have hl : lv_has ls 3 [(0, .ref h0), (1, .int p0), (2, .int p1)] := hl
  refine lv_aload_n hx hb dX5_draw_0 rfl (lv_at hl 0 rfl) ?_
  refine lv_iload_n hx hb dX5_draw_1 rfl (lv_at hl 1 rfl) ?_
  have hPc := hP.sub (ws' := [(h0, .inr (5, fs))]) [0] rfl
  refine k_V (ci := 5) (q0 := 0) (tc := []) ⟨hx, hb, hml, hown, hts⟩ (c_isCampaign l dC dI h0 fs 0 p0 hf8) 1 wm_14 wm_15 wm_16 wm_2 wm_17 (by decide +kernel) ⟨Nat.le_of_ble_eq_true rfl, Nat.le_of_ble_eq_true rfl⟩ hPc (hK.sub (tys' := []) [] rfl) rfl rfl rfl hl.1 rfl (Nat.le_of_ble_eq_true rfl) dX5_draw_2 ⟨Nat.le_of_ble_eq_true rfl, Nat.le_of_ble_eq_true rfl⟩ hS hP (fun r_1 H locs hpr_1 hP hS => ?_)
  obtain rfl : r_1 = 0 := hpr_1.trans (if_neg (k_no0 _))
  refine lv_if_eq (tgt := 15) hx hb dX5_draw_5 (by decide) (fun _ => ?_) (fun h9 => absurd (by decide) h9)
  refine lv_iconst (v := (-1)) hx hb dX5_draw_15 (by decide) ?_
  exact W.iret (v := (-1)) hx hb hr (fun t ht hW => ⟨⟨(-1), (), rfl, rfl, trivial⟩, hS.F ht⟩) hS.2.2 dX5_draw_16
set_option maxHeartbeats 4000000 in
set_option maxRecDepth 100000 in
theorem b_X6_draw (l : Launch) (dC : Nat → ClassId) (dI : Nat → Nat → Nat) (h0 : Nat) (fs : List Value) (p0 p1 : Int32) (hf5 : fs[5]? = some (.int 0)) (hf9 : fs[9]? = some (.int 0)) (hf25 : fs[25]? = some (.int 0)) : mV l yX6_draw cX6_draw 3 .int 3 (dC, dI) [(h0, .inr (6, fs))] [] [.ref h0, .int p0, .int p1] (fun r => r = (-1)) := by
  refine Met.ofW (cc := cX6_draw) (maxL := 3) (ret := some .int) (by decide) rfl ?_
  intro p e s m args below meth c s₁ B hml hv
  obtain ⟨rfl, hP, hK⟩ := hv
  have hx := B.exec
  have hb := B.bytes
  have hr := B.returns
  have hlocks := B.notSynchronized
  have hts0 := atoms_spec (ws := Cond.code yX6_draw cX6_draw 3 (some .int) :: lw_B) B.pre
  have hts : ∀ w ∈ lw_B, w.before _ s = true := fun w h => hts0 w (List.mem_cons_of_mem _ h)
  have hown : s.vm.findClass RX6 = some m.cls := findClass_of_methodNamed B.named
  have hS : va_S (fun _ => False) s.heap s.heap [] := va_S.rf
  have hl := lv_entry ([.ref h0, .int p0, .int p1]) (n := 3) (Nat.le_of_ble_eq_true rfl)
  rw [lg_entry_eq]
  generalize (lg_sl ([.ref h0, .int p0, .int p1]) ++ List.replicate (3 - (lg_sl ([.ref h0, .int p0, .int p1])).length) Slot.unset).toArray = ls at hl ⊢
  have hl : lv_has ls 3 [(0, .ref h0), (1, .int p0), (2, .int p1)] := hl
  refine lv_aload_n hx hb dX6_draw_0 rfl (lv_at hl 0 rfl) ?_
  refine lv_iload_n hx hb dX6_draw_1 rfl (lv_at hl 1 rfl) ?_
  have hPc := hP.sub (ws' := [(h0, .inr (6, fs))]) [0] rfl
  refine k_V (ci := 6) (q0 := 0) (tc := []) ⟨hx, hb, hml, hown, hts⟩ (c_mCampaign l dC dI h0 fs 0 p0 hf9) 1 wm_18 wm_19 wm_20 wm_6 wm_21 (by decide +kernel) ⟨Nat.le_of_ble_eq_true rfl, Nat.le_of_ble_eq_true rfl⟩ hPc (hK.sub (tys' := []) [] rfl) rfl rfl rfl hl.1 rfl (Nat.le_of_ble_eq_true rfl) dX6_draw_2 ⟨Nat.le_of_ble_eq_true rfl, Nat.le_of_ble_eq_true rfl⟩ hS hP (fun r_1 H locs hpr_1 hP hS => ?_)
  obtain rfl : r_1 = 0 := hpr_1.trans (if_neg (k_no1 _))
  refine lv_if_eq (tgt := 24) hx hb dX6_draw_5 (by decide) (fun _ => ?_) (fun h9 => absurd (by decide) h9)
  refine lv_iconst (v := (-1)) hx hb dX6_draw_24 (by decide) ?_
  exact W.iret (v := (-1)) hx hb hr (fun t ht hW => ⟨⟨(-1), (), rfl, rfl, trivial⟩, hS.F ht⟩) hS.2.2 dX6_draw_25
set_option maxHeartbeats 4000000 in
set_option maxRecDepth 100000 in
theorem b_X5_income (l : Launch) (dC : Nat → ClassId) (dI : Nat → Nat → Nat) (h0 : Nat) (fs : List Value) (p0 : Int32) (hf7 : fs[7]? = some (.int 0)) (hf8 : fs[8]? = some (.int 0)) (hf9 : fs[9]? = some (.int 0)) : mV l yX5_income cX5_income 2 .int 2 (dC, dI) [(h0, .inr (5, fs))] [] [.ref h0, .int p0] (fun r => r = (-1)) := by
  refine Met.ofW (cc := cX5_income) (maxL := 2) (ret := some .int) (by decide) rfl ?_
  intro p e s m args below meth c s₁ B hml hv
  obtain ⟨rfl, hP, hK⟩ := hv
  have hx := B.exec
  have hb := B.bytes
  have hr := B.returns
  have hlocks := B.notSynchronized
  have hts0 := atoms_spec (ws := Cond.code yX5_income cX5_income 2 (some .int) :: lw_B) B.pre
  have hts : ∀ w ∈ lw_B, w.before _ s = true := fun w h => hts0 w (List.mem_cons_of_mem _ h)
  have hown : s.vm.findClass RX5 = some m.cls := findClass_of_methodNamed B.named
  have hS : va_S (fun _ => False) s.heap s.heap [] := va_S.rf
  have hl := lv_entry ([.ref h0, .int p0]) (n := 2) (Nat.le_of_ble_eq_true rfl)
  rw [lg_entry_eq]
  generalize (lg_sl ([.ref h0, .int p0]) ++ List.replicate (2 - (lg_sl ([.ref h0, .int p0])).length) Slot.unset).toArray = ls at hl ⊢
  have hl : lv_has ls 2 [(0, .ref h0), (1, .int p0)] := hl
  refine lv_aload_n hx hb dX5_income_0 rfl (lv_at hl 0 rfl) ?_
  refine lv_iload_n hx hb dX5_income_1 rfl (lv_at hl 1 rfl) ?_
  have hPc := hP.sub (ws' := [(h0, .inr (5, fs))]) [0] rfl
  refine k_V (ci := 5) (q0 := 0) (tc := []) ⟨hx, hb, hml, hown, hts⟩ (c_isPage l dC dI h0 fs 0 p0 hf7) 1 wm_25 wm_26 wm_27 wm_2 wm_28 (by decide +kernel) ⟨Nat.le_of_ble_eq_true rfl, Nat.le_of_ble_eq_true rfl⟩ hPc (hK.sub (tys' := []) [] rfl) rfl rfl rfl hl.1 rfl (Nat.le_of_ble_eq_true rfl) dX5_income_2 ⟨Nat.le_of_ble_eq_true rfl, Nat.le_of_ble_eq_true rfl⟩ hS hP (fun r_1 H locs hpr_1 hP hS => ?_)
  obtain rfl : r_1 = 0 := hpr_1.trans (if_neg (k_no0 _))
  refine lv_if_ne (tgt := 10) hx hb dX5_income_5 (by decide) (fun h9 => absurd (by decide) h9) (fun _ => ?_)
  refine lv_iconst (v := (-1)) hx hb dX5_income_8 (by decide) ?_
  exact W.iret (v := (-1)) hx hb hr (fun t ht hW => ⟨⟨(-1), (), rfl, rfl, trivial⟩, hS.F ht⟩) hS.2.2 dX5_income_9
set_option maxHeartbeats 4000000 in
set_option maxRecDepth 100000 in
theorem b_X6_income (l : Launch) (dC : Nat → ClassId) (dI : Nat → Nat → Nat) (h0 : Nat) (fs : List Value) (p0 : Int32) (hf5 : fs[5]? = some (.int 0)) (hf9 : fs[9]? = some (.int 0)) (hf25 : fs[25]? = some (.int 0)) : mV l yX6_income cX6_income 4 .int 3 (dC, dI) [(h0, .inr (6, fs))] [] [.ref h0, .int p0] (fun r => r = (-1)) := by
  refine Met.ofW (cc := cX6_income) (maxL := 4) (ret := some .int) (by decide) rfl ?_
  intro p e s m args below meth c s₁ B hml hv
  obtain ⟨rfl, hP, hK⟩ := hv
  have hx := B.exec
  have hb := B.bytes
  have hr := B.returns
  have hlocks := B.notSynchronized
  have hts0 := atoms_spec (ws := Cond.code yX6_income cX6_income 4 (some .int) :: lw_B) B.pre
  have hts : ∀ w ∈ lw_B, w.before _ s = true := fun w h => hts0 w (List.mem_cons_of_mem _ h)
  have hown : s.vm.findClass RX6 = some m.cls := findClass_of_methodNamed B.named
  have hS : va_S (fun _ => False) s.heap s.heap [] := va_S.rf
  have hl := lv_entry ([.ref h0, .int p0]) (n := 4) (Nat.le_of_ble_eq_true rfl)
  rw [lg_entry_eq]
  generalize (lg_sl ([.ref h0, .int p0]) ++ List.replicate (4 - (lg_sl ([.ref h0, .int p0])).length) Slot.unset).toArray = ls at hl ⊢
  have hl : lv_has ls 4 [(0, .ref h0), (1, .int p0)] := hl
  refine lv_aload_n hx hb dX6_income_0 rfl (lv_at hl 0 rfl) ?_
  refine lv_iload_n hx hb dX6_income_1 rfl (lv_at hl 1 rfl) ?_
  have hPc := hP.sub (ws' := [(h0, .inr (6, fs))]) [0] rfl
  refine k_V (ci := 6) (q0 := 0) (tc := []) ⟨hx, hb, hml, hown, hts⟩ (c_mPage l dC dI h0 fs 0 p0 hf5) 1 wm_32 wm_33 wm_34 wm_6 wm_35 (by decide +kernel) ⟨Nat.le_of_ble_eq_true rfl, Nat.le_of_ble_eq_true rfl⟩ hPc (hK.sub (tys' := []) [] rfl) rfl rfl rfl hl.1 rfl (Nat.le_of_ble_eq_true rfl) dX6_income_2 ⟨Nat.le_of_ble_eq_true rfl, Nat.le_of_ble_eq_true rfl⟩ hS hP (fun r_1 H locs hpr_1 hP hS => ?_)
  obtain rfl : r_1 = 0 := hpr_1.trans (if_neg (k_no1 _))
  refine lv_if_ne (tgt := 10) hx hb dX6_income_5 (by decide) (fun h9 => absurd (by decide) h9) (fun _ => ?_)
  refine lv_iconst (v := (-1)) hx hb dX6_income_8 (by decide) ?_
  exact W.iret (v := (-1)) hx hb hr (fun t ht hW => ⟨⟨(-1), (), rfl, rfl, trivial⟩, hS.F ht⟩) hS.2.2 dX6_income_9
end
section
set_option maxHeartbeats 4000000 in
set_option maxRecDepth 100000 in
theorem f_rule (l : Launch) (dC : Nat → ClassId) (dI : Nat → Nat → Nat) (sz : Nat) (h0 : Nat) (fs : List Value) (x : Int32) (hf13 : fs[13]? = some (.int 0)) (hlen_h0 : fs.length = 17) : mFi l yX5_rule cX5_rule 3 0 0 0 (dC, dI) [(h0, .inr (5, fs))] sz [] (fun _ => True) [.ref h0, .int x] (fun r => r = if 0 ≤ x ∧ x ≤ 1 then 0 else (-1)) := by
  refine Met.ofW (cc := cX5_rule) (maxL := 3) (ret := some .int) (by decide) rfl ?_
  intro p e s m args below meth c s₁ B hml hv
  obtain ⟨rfl, hsz, hP, hK, hD0, hex⟩ := hv
  subst hsz
  have hx := B.exec
  have hb := B.bytes
  have hr := B.returns
  have hlocks := B.notSynchronized
  have hts0 := atoms_spec (ws := Cond.code yX5_rule cX5_rule 3 (some .int) :: lw_B) B.pre
  have hts : ∀ w ∈ lw_B, w.before _ s = true := fun w h => hts0 w (List.mem_cons_of_mem _ h)
  have hown : s.vm.findClass RX5 = some m.cls := findClass_of_methodNamed B.named
  have hD := hD0.self (sz := s.heap.size)
  generalize hAe : va_A [(h0, .inr (5, fs))] s.heap.size = A at hD ⊢
  have hA : ∀ q : Nat, s.heap.size ≤ q → A q := fun q h => by rw [← hAe]; exact Or.inr h
  have hS : va_S A s.heap s.heap [] := va_S.rf
  have hl := lv_entry ([.ref h0, .int x]) (n := 3) (Nat.le_of_ble_eq_true rfl)
  rw [lg_entry_eq]
  generalize (lg_sl ([.ref h0, .int x]) ++ List.replicate (3 - (lg_sl ([.ref h0, .int x])).length) Slot.unset).toArray = ls at hl ⊢
  have hl : lv_has ls 3 [(0, .ref h0), (1, .int x)] := hl
  refine lv_iload_n hx hb dX5_rule_0 rfl (lv_at hl 1 rfl) ?_
  refine lv_if_eq (tgt := 11) hx hb dX5_rule_1 (by decide) (fun c_1 => ?_) (fun c_1 => ?_)
  · skip
    refine lv_aload_n hx hb dX5_rule_11 rfl (lv_at hl 0 rfl) ?_
    refine va_get (D := (dC, dI)) (ci := 5) (v := .int 0) (C := RX5) (T := TX5) (N := 17) hx hb hts uB5 hown hK hP 0 rfl rfl 13 (by decide) (hts _ wm_48) (fun _ h9 => h9) hf13 dX5_rule_12 ?_
    refine lv_istore_n (lv' := [(2, .int 0), (0, .ref h0), (1, .int x)]) hx hb dX5_rule_15 rfl hl (by decide) rfl (fun ls hl => ?_)
    refine lv_aload_n hx hb dX5_rule_16 rfl (lv_at hl 1 rfl) ?_
    refine lv_iload_n hx hb dX5_rule_17 rfl (lv_at hl 2 rfl) ?_
    refine va_put (D := (dC, dI)) (ci := 5) (v := .int x) (ty := .int) (C := RX5) (T := TX5) (N := 17) hx hb hts uB5 tyX5 tyX5_ok nmX5 hown hK hP hD hS 0 rfl rfl 13 (by decide) (hts _ wm_48) (fun _ h9 => h9) rfl (by decide +kernel) rfl rfl (by rw [hlen_h0]; decide) dX5_rule_18 (fun H locs hP hD hS => ?_)
    obtain ⟨fs_2, efs_2⟩ : ∃ z9, z9 = (fs).set 13 (.int x) := ⟨_, rfl⟩
    have hP : va_P (dC, dI) vwCl [(h0, .inr (5, fs_2))] H := by rw [efs_2]; exact hP
    have hD : va_D A [(h0, .inr (5, fs_2))] := by rw [efs_2]; exact hD
    have hf13 : fs_2[13]? = some (.int x) := by rw [efs_2]; exact List.getElem?_set_self (by rw [hlen_h0]; decide)
    have hlen_h0 : fs_2.length = 17 := by rw [efs_2, List.length_set]; exact hlen_h0
    refine lv_iload_n hx hb dX5_rule_21 rfl (lv_at hl 0 rfl) ?_
    exact W.iret (v := 0) hx hb hr (fun t ht hW => ⟨⟨0, (), rfl, (by simp only [Int32.lt_iff_toInt_lt, Int32.le_iff_toInt_le, ← Int32.toInt_inj, Int32.reduceToInt] at c_1; exact (if_pos (by simp only [Int32.lt_iff_toInt_lt, Int32.le_iff_toInt_le, ← Int32.toInt_inj, Int32.reduceToInt]; omega)).symm), trivial⟩, hS.F ht⟩) hS.2.2 dX5_rule_22
  · skip
    refine lv_iload_n hx hb dX5_rule_4 rfl (lv_at hl 1 rfl) ?_
    refine lv_iconst (v := 1) hx hb dX5_rule_5 (by decide) ?_
    refine lv_icmp_eq (tgt := 11) hx hb dX5_rule_6 (by decide) (fun c_3 => ?_) (fun c_3 => ?_)
    · skip
      refine lv_aload_n hx hb dX5_rule_11 rfl (lv_at hl 0 rfl) ?_
      refine va_get (D := (dC, dI)) (ci := 5) (v := .int 0) (C := RX5) (T := TX5) (N := 17) hx hb hts uB5 hown hK hP 0 rfl rfl 13 (by decide) (hts _ wm_48) (fun _ h9 => h9) hf13 dX5_rule_12 ?_
      refine lv_istore_n (lv' := [(2, .int 0), (0, .ref h0), (1, .int x)]) hx hb dX5_rule_15 rfl hl (by decide) rfl (fun ls hl => ?_)
      refine lv_aload_n hx hb dX5_rule_16 rfl (lv_at hl 1 rfl) ?_
      refine lv_iload_n hx hb dX5_rule_17 rfl (lv_at hl 2 rfl) ?_
      refine va_put (D := (dC, dI)) (ci := 5) (v := .int x) (ty := .int) (C := RX5) (T := TX5) (N := 17) hx hb hts uB5 tyX5 tyX5_ok nmX5 hown hK hP hD hS 0 rfl rfl 13 (by decide) (hts _ wm_48) (fun _ h9 => h9) rfl (by decide +kernel) rfl rfl (by rw [hlen_h0]; decide) dX5_rule_18 (fun H locs hP hD hS => ?_)
      obtain ⟨fs_4, efs_4⟩ : ∃ z9, z9 = (fs).set 13 (.int x) := ⟨_, rfl⟩
      have hP : va_P (dC, dI) vwCl [(h0, .inr (5, fs_4))] H := by rw [efs_4]; exact hP
      have hD : va_D A [(h0, .inr (5, fs_4))] := by rw [efs_4]; exact hD
      have hf13 : fs_4[13]? = some (.int x) := by rw [efs_4]; exact List.getElem?_set_self (by rw [hlen_h0]; decide)
      have hlen_h0 : fs_4.length = 17 := by rw [efs_4, List.length_set]; exact hlen_h0
      refine lv_iload_n hx hb dX5_rule_21 rfl (lv_at hl 0 rfl) ?_
      exact W.iret (v := 0) hx hb hr (fun t ht hW => ⟨⟨0, (), rfl, (by simp only [Int32.lt_iff_toInt_lt, Int32.le_iff_toInt_le, ← Int32.toInt_inj, Int32.reduceToInt] at c_1 c_3; exact (if_pos (by simp only [Int32.lt_iff_toInt_lt, Int32.le_iff_toInt_le, ← Int32.toInt_inj, Int32.reduceToInt]; omega)).symm), trivial⟩, hS.F ht⟩) hS.2.2 dX5_rule_22
    · skip
      refine lv_iconst (v := (-1)) hx hb dX5_rule_9 (by decide) ?_
      exact W.iret (v := (-1)) hx hb hr (fun t ht hW => ⟨⟨(-1), (), rfl, (by simp only [Int32.lt_iff_toInt_lt, Int32.le_iff_toInt_le, ← Int32.toInt_inj, Int32.reduceToInt] at c_1 c_3; exact (if_neg (by simp only [Int32.lt_iff_toInt_lt, Int32.le_iff_toInt_le, ← Int32.toInt_inj, Int32.reduceToInt]; omega)).symm), trivial⟩, hS.F ht⟩) hS.2.2 dX5_rule_10
set_option maxHeartbeats 4000000 in
set_option maxRecDepth 100000 in
theorem f_mrule (l : Launch) (dC : Nat → ClassId) (dI : Nat → Nat → Nat) (sz : Nat) (h0 : Nat) (fs : List Value) (x : Int32) (hfr : fs[2]? = some (.int 0)) (hlen_h0 : fs.length = 51) : mFi l yX6_rule cX6_rule 3 1 0 0 (dC, dI) [(h0, .inr (6, fs))] sz [] (fun _ => True) [.ref h0, .int x] (fun r => r = if 0 ≤ x ∧ x ≤ 1 then 0 else (-1)) := by
  refine Met.ofW (cc := cX6_rule) (maxL := 3) (ret := some .int) (by decide) rfl ?_
  intro p e s m args below meth c s₁ B hml hv
  obtain ⟨rfl, hsz, hP, hK, hD0, hex⟩ := hv
  subst hsz
  have hx := B.exec
  have hb := B.bytes
  have hr := B.returns
  have hlocks := B.notSynchronized
  have hts0 := atoms_spec (ws := Cond.code yX6_rule cX6_rule 3 (some .int) :: lw_B) B.pre
  have hts : ∀ w ∈ lw_B, w.before _ s = true := fun w h => hts0 w (List.mem_cons_of_mem _ h)
  have hown : s.vm.findClass RX6 = some m.cls := findClass_of_methodNamed B.named
  have hD := hD0.self (sz := s.heap.size)
  generalize hAe : va_A [(h0, .inr (6, fs))] s.heap.size = A at hD ⊢
  have hA : ∀ q : Nat, s.heap.size ≤ q → A q := fun q h => by rw [← hAe]; exact Or.inr h
  have hS : va_S A s.heap s.heap [] := va_S.rf
  have hl := lv_entry ([.ref h0, .int x]) (n := 3) (Nat.le_of_ble_eq_true rfl)
  rw [lg_entry_eq]
  generalize (lg_sl ([.ref h0, .int x]) ++ List.replicate (3 - (lg_sl ([.ref h0, .int x])).length) Slot.unset).toArray = ls at hl ⊢
  have hl : lv_has ls 3 [(0, .ref h0), (1, .int x)] := hl
  refine lv_iload_n hx hb dX6_rule_0 rfl (lv_at hl 1 rfl) ?_
  refine lv_iconst (v := 0) hx hb dX6_rule_1 (by decide) ?_
  refine lv_iconst (v := 1) hx hb dX6_rule_2 (by decide) ?_
  refine k_S ⟨hx, hb, hml, hown, hts⟩ (c_in l x 0 1) 3 wm_4 wm_5 wm_6 wm_7 (by decide +kernel) ⟨Nat.le_of_ble_eq_true rfl, Nat.le_of_ble_eq_true rfl⟩ rfl hl.1 rfl (Nat.le_of_ble_eq_true rfl) dX6_rule_3 ⟨Nat.le_of_ble_eq_true rfl, Nat.le_of_ble_eq_true rfl⟩ hS hP (fun r_1 H locs hpr_1 hP hS => ?_)
  refine lv_if_ne (tgt := 11) hx hb dX6_rule_6 (by decide) (fun c_2 => ?_) (fun c_2 => ?_)
  · skip
    have g_2 := k_ft hpr_1 c_2
    refine lv_aload_n hx hb dX6_rule_11 rfl (lv_at hl 0 rfl) ?_
    refine va_get (D := (dC, dI)) (ci := 6) (v := .int 0) (C := RX6) (T := TX6) (N := 51) hx hb hts uB6 hown hK hP 0 rfl rfl 2 (by decide) (hts _ wm_49) (fun _ h9 => h9) hfr dX6_rule_12 ?_
    refine lv_istore_n (lv' := [(2, .int 0), (0, .ref h0), (1, .int x)]) hx hb dX6_rule_15 rfl hl (by decide) rfl (fun ls hl => ?_)
    refine lv_aload_n hx hb dX6_rule_16 rfl (lv_at hl 1 rfl) ?_
    refine lv_iload_n hx hb dX6_rule_17 rfl (lv_at hl 2 rfl) ?_
    refine va_put (D := (dC, dI)) (ci := 6) (v := .int x) (ty := .int) (C := RX6) (T := TX6) (N := 51) hx hb hts uB6 tyX6 tyX6_ok nmX6 hown hK hP hD hS 0 rfl rfl 2 (by decide) (hts _ wm_49) (fun _ h9 => h9) rfl (by decide +kernel) rfl rfl (by rw [hlen_h0]; decide) dX6_rule_18 (fun H locs hP hD hS => ?_)
    obtain ⟨fs_3, efs_3⟩ : ∃ z9, z9 = (fs).set 2 (.int x) := ⟨_, rfl⟩
    have hP : va_P (dC, dI) vwCl [(h0, .inr (6, fs_3))] H := by rw [efs_3]; exact hP
    have hD : va_D A [(h0, .inr (6, fs_3))] := by rw [efs_3]; exact hD
    have hfr : fs_3[2]? = some (.int x) := by rw [efs_3]; exact List.getElem?_set_self (by rw [hlen_h0]; decide)
    have hlen_h0 : fs_3.length = 51 := by rw [efs_3, List.length_set]; exact hlen_h0
    refine lv_iload_n hx hb dX6_rule_21 rfl (lv_at hl 0 rfl) ?_
    exact W.iret (v := 0) hx hb hr (fun t ht hW => ⟨⟨0, (), rfl, (by simp only [Int32.lt_iff_toInt_lt, Int32.le_iff_toInt_le, ← Int32.toInt_inj, Int32.reduceToInt] at g_2; exact (if_pos (by simp only [Int32.lt_iff_toInt_lt, Int32.le_iff_toInt_le, ← Int32.toInt_inj, Int32.reduceToInt]; omega)).symm), trivial⟩, hS.F ht⟩) hS.2.2 dX6_rule_22
  · skip
    have g_2 := k_ff hpr_1 c_2
    refine lv_iconst (v := (-1)) hx hb dX6_rule_9 (by decide) ?_
    exact W.iret (v := (-1)) hx hb hr (fun t ht hW => ⟨⟨(-1), (), rfl, (by simp only [Int32.lt_iff_toInt_lt, Int32.le_iff_toInt_le, ← Int32.toInt_inj, Int32.reduceToInt] at g_2; exact (if_neg (by simp only [Int32.lt_iff_toInt_lt, Int32.le_iff_toInt_le, ← Int32.toInt_inj, Int32.reduceToInt]; omega)).symm), trivial⟩, hS.F ht⟩) hS.2.2 dX6_rule_10
set_option maxHeartbeats 4000000 in
set_option maxRecDepth 100000 in
theorem f_pace (l : Launch) (dC : Nat → ClassId) (dI : Nat → Nat → Nat) (sz : Nat) (h0 : Nat) (fs : List Value) (x y : Int32)  (hlen_h0 : fs.length = 17) : mFi l yX5_pace cX5_pace 3 1 0 0 (dC, dI) [(h0, .inr (5, fs))] sz [] (fun _ => True) [.ref h0, .int x, .int y] (fun r => r = if (x = 0 ∨ (10 ≤ x ∧ x ≤ 100)) ∧ (1 ≤ y ∧ y ≤ 200) then 1 else (-1)) := by
  refine Met.ofW (cc := cX5_pace) (maxL := 3) (ret := some .int) (by decide) rfl ?_
  intro p e s m args below meth c s₁ B hml hv
  obtain ⟨rfl, hsz, hP, hK, hD0, hex⟩ := hv
  subst hsz
  have hx := B.exec
  have hb := B.bytes
  have hr := B.returns
  have hlocks := B.notSynchronized
  have hts0 := atoms_spec (ws := Cond.code yX5_pace cX5_pace 3 (some .int) :: lw_B) B.pre
  have hts : ∀ w ∈ lw_B, w.before _ s = true := fun w h => hts0 w (List.mem_cons_of_mem _ h)
  have hown : s.vm.findClass RX5 = some m.cls := findClass_of_methodNamed B.named
  have hD := hD0.self (sz := s.heap.size)
  generalize hAe : va_A [(h0, .inr (5, fs))] s.heap.size = A at hD ⊢
  have hA : ∀ q : Nat, s.heap.size ≤ q → A q := fun q h => by rw [← hAe]; exact Or.inr h
  have hS : va_S A s.heap s.heap [] := va_S.rf
  have hl := lv_entry ([.ref h0, .int x, .int y]) (n := 3) (Nat.le_of_ble_eq_true rfl)
  rw [lg_entry_eq]
  generalize (lg_sl ([.ref h0, .int x, .int y]) ++ List.replicate (3 - (lg_sl ([.ref h0, .int x, .int y])).length) Slot.unset).toArray = ls at hl ⊢
  have hl : lv_has ls 3 [(0, .ref h0), (1, .int x), (2, .int y)] := hl
  refine lv_iload_n hx hb dX5_pace_0 rfl (lv_at hl 1 rfl) ?_
  refine lv_if_eq (tgt := 17) hx hb dX5_pace_1 (by decide) (fun c_1 => ?_) (fun c_1 => ?_)
  · skip
    refine lv_iload_n hx hb dX5_pace_17 rfl (lv_at hl 2 rfl) ?_
    refine lv_iconst (v := 1) hx hb dX5_pace_18 (by decide) ?_
    refine lv_sipush (v := 200) hx hb dX5_pace_19 (by decide) ?_
    refine k_S ⟨hx, hb, hml, hown, hts⟩ (c_isWithin l y 1 200) 3 wm_0 wm_1 wm_2 wm_3 (by decide +kernel) ⟨Nat.le_of_ble_eq_true rfl, Nat.le_of_ble_eq_true rfl⟩ rfl hl.1 rfl (Nat.le_of_ble_eq_true rfl) dX5_pace_22 ⟨Nat.le_of_ble_eq_true rfl, Nat.le_of_ble_eq_true rfl⟩ hS hP (fun r_2 H locs hpr_2 hP hS => ?_)
    refine lv_if_ne (tgt := 30) hx hb dX5_pace_25 (by decide) (fun c_3 => ?_) (fun c_3 => ?_)
    · skip
      have g_3 := k_ft hpr_2 c_3
      refine lv_aload_n hx hb dX5_pace_30 rfl (lv_at hl 0 rfl) ?_
      refine lv_iload_n hx hb dX5_pace_31 rfl (lv_at hl 1 rfl) ?_
      refine va_put (D := (dC, dI)) (ci := 5) (v := .int x) (ty := .int) (C := RX5) (T := TX5) (N := 17) hx hb hts uB5 tyX5 tyX5_ok nmX5 hown hK hP hD hS 0 rfl rfl 14 (by decide) (hts _ wm_50) (fun _ h9 => h9) rfl (by decide +kernel) rfl rfl (by rw [hlen_h0]; decide) dX5_pace_32 (fun H locs hP hD hS => ?_)
      obtain ⟨fs_4, efs_4⟩ : ∃ z9, z9 = (fs).set 14 (.int x) := ⟨_, rfl⟩
      have hP : va_P (dC, dI) vwCl [(h0, .inr (5, fs_4))] H := by rw [efs_4]; exact hP
      have hD : va_D A [(h0, .inr (5, fs_4))] := by rw [efs_4]; exact hD
      have hf14_h0 : fs_4[14]? = some (.int x) := by rw [efs_4]; exact List.getElem?_set_self (by rw [hlen_h0]; decide)
      have hlen_h0 : fs_4.length = 17 := by rw [efs_4, List.length_set]; exact hlen_h0
      refine lv_aload_n hx hb dX5_pace_35 rfl (lv_at hl 0 rfl) ?_
      refine lv_iload_n hx hb dX5_pace_36 rfl (lv_at hl 2 rfl) ?_
      refine va_put (D := (dC, dI)) (ci := 5) (v := .int y) (ty := .int) (C := RX5) (T := TX5) (N := 17) hx hb hts uB5 tyX5 tyX5_ok nmX5 hown hK hP hD hS 0 rfl rfl 15 (by decide) (hts _ wm_51) (fun _ h9 => h9) rfl (by decide +kernel) rfl rfl (by rw [hlen_h0]; decide) dX5_pace_37 (fun H locs hP hD hS => ?_)
      obtain ⟨fs_5, efs_5⟩ : ∃ z9, z9 = (fs_4).set 15 (.int y) := ⟨_, rfl⟩
      have hP : va_P (dC, dI) vwCl [(h0, .inr (5, fs_5))] H := by rw [efs_5]; exact hP
      have hD : va_D A [(h0, .inr (5, fs_5))] := by rw [efs_5]; exact hD
      have hf14_h0 : fs_5[14]? = some (.int x) := by rw [efs_5, List.getElem?_set_ne (by decide)]; exact hf14_h0
      have hf15_h0 : fs_5[15]? = some (.int y) := by rw [efs_5]; exact List.getElem?_set_self (by rw [hlen_h0]; decide)
      have hlen_h0 : fs_5.length = 17 := by rw [efs_5, List.length_set]; exact hlen_h0
      refine lv_iconst (v := 1) hx hb dX5_pace_40 (by decide) ?_
      exact W.iret (v := 1) hx hb hr (fun t ht hW => ⟨⟨1, (), rfl, (by simp only [Int32.lt_iff_toInt_lt, Int32.le_iff_toInt_le, ← Int32.toInt_inj, Int32.reduceToInt] at c_1 g_3; exact (if_pos (by simp only [Int32.lt_iff_toInt_lt, Int32.le_iff_toInt_le, ← Int32.toInt_inj, Int32.reduceToInt]; omega)).symm), trivial⟩, hS.F ht⟩) hS.2.2 dX5_pace_41
    · skip
      have g_3 := k_ff hpr_2 c_3
      refine lv_iconst (v := (-1)) hx hb dX5_pace_28 (by decide) ?_
      exact W.iret (v := (-1)) hx hb hr (fun t ht hW => ⟨⟨(-1), (), rfl, (by simp only [Int32.lt_iff_toInt_lt, Int32.le_iff_toInt_le, ← Int32.toInt_inj, Int32.reduceToInt] at c_1 g_3; exact (if_neg (by simp only [Int32.lt_iff_toInt_lt, Int32.le_iff_toInt_le, ← Int32.toInt_inj, Int32.reduceToInt]; omega)).symm), trivial⟩, hS.F ht⟩) hS.2.2 dX5_pace_29
  · skip
    refine lv_iload_n hx hb dX5_pace_4 rfl (lv_at hl 1 rfl) ?_
    refine lv_bipush (v := 10) hx hb dX5_pace_5 (by decide) ?_
    refine lv_bipush (v := 100) hx hb dX5_pace_7 (by decide) ?_
    refine k_S ⟨hx, hb, hml, hown, hts⟩ (c_isWithin l x 10 100) 3 wm_0 wm_1 wm_2 wm_3 (by decide +kernel) ⟨Nat.le_of_ble_eq_true rfl, Nat.le_of_ble_eq_true rfl⟩ rfl hl.1 rfl (Nat.le_of_ble_eq_true rfl) dX5_pace_9 ⟨Nat.le_of_ble_eq_true rfl, Nat.le_of_ble_eq_true rfl⟩ hS hP (fun r_6 H locs hpr_6 hP hS => ?_)
    refine lv_if_ne (tgt := 17) hx hb dX5_pace_12 (by decide) (fun c_7 => ?_) (fun c_7 => ?_)
    · skip
      have g_7 := k_ft hpr_6 c_7
      refine lv_iload_n hx hb dX5_pace_17 rfl (lv_at hl 2 rfl) ?_
      refine lv_iconst (v := 1) hx hb dX5_pace_18 (by decide) ?_
      refine lv_sipush (v := 200) hx hb dX5_pace_19 (by decide) ?_
      refine k_S ⟨hx, hb, hml, hown, hts⟩ (c_isWithin l y 1 200) 3 wm_0 wm_1 wm_2 wm_3 (by decide +kernel) ⟨Nat.le_of_ble_eq_true rfl, Nat.le_of_ble_eq_true rfl⟩ rfl hl.1 rfl (Nat.le_of_ble_eq_true rfl) dX5_pace_22 ⟨Nat.le_of_ble_eq_true rfl, Nat.le_of_ble_eq_true rfl⟩ hS hP (fun r_8 H locs hpr_8 hP hS => ?_)
      refine lv_if_ne (tgt := 30) hx hb dX5_pace_25 (by decide) (fun c_9 => ?_) (fun c_9 => ?_)
      · skip
        have g_9 := k_ft hpr_8 c_9
        refine lv_aload_n hx hb dX5_pace_30 rfl (lv_at hl 0 rfl) ?_
        refine lv_iload_n hx hb dX5_pace_31 rfl (lv_at hl 1 rfl) ?_
        refine va_put (D := (dC, dI)) (ci := 5) (v := .int x) (ty := .int) (C := RX5) (T := TX5) (N := 17) hx hb hts uB5 tyX5 tyX5_ok nmX5 hown hK hP hD hS 0 rfl rfl 14 (by decide) (hts _ wm_50) (fun _ h9 => h9) rfl (by decide +kernel) rfl rfl (by rw [hlen_h0]; decide) dX5_pace_32 (fun H locs hP hD hS => ?_)
        obtain ⟨fs_10, efs_10⟩ : ∃ z9, z9 = (fs).set 14 (.int x) := ⟨_, rfl⟩
        have hP : va_P (dC, dI) vwCl [(h0, .inr (5, fs_10))] H := by rw [efs_10]; exact hP
        have hD : va_D A [(h0, .inr (5, fs_10))] := by rw [efs_10]; exact hD
        have hf14_h0 : fs_10[14]? = some (.int x) := by rw [efs_10]; exact List.getElem?_set_self (by rw [hlen_h0]; decide)
        have hlen_h0 : fs_10.length = 17 := by rw [efs_10, List.length_set]; exact hlen_h0
        refine lv_aload_n hx hb dX5_pace_35 rfl (lv_at hl 0 rfl) ?_
        refine lv_iload_n hx hb dX5_pace_36 rfl (lv_at hl 2 rfl) ?_
        refine va_put (D := (dC, dI)) (ci := 5) (v := .int y) (ty := .int) (C := RX5) (T := TX5) (N := 17) hx hb hts uB5 tyX5 tyX5_ok nmX5 hown hK hP hD hS 0 rfl rfl 15 (by decide) (hts _ wm_51) (fun _ h9 => h9) rfl (by decide +kernel) rfl rfl (by rw [hlen_h0]; decide) dX5_pace_37 (fun H locs hP hD hS => ?_)
        obtain ⟨fs_11, efs_11⟩ : ∃ z9, z9 = (fs_10).set 15 (.int y) := ⟨_, rfl⟩
        have hP : va_P (dC, dI) vwCl [(h0, .inr (5, fs_11))] H := by rw [efs_11]; exact hP
        have hD : va_D A [(h0, .inr (5, fs_11))] := by rw [efs_11]; exact hD
        have hf14_h0 : fs_11[14]? = some (.int x) := by rw [efs_11, List.getElem?_set_ne (by decide)]; exact hf14_h0
        have hf15_h0 : fs_11[15]? = some (.int y) := by rw [efs_11]; exact List.getElem?_set_self (by rw [hlen_h0]; decide)
        have hlen_h0 : fs_11.length = 17 := by rw [efs_11, List.length_set]; exact hlen_h0
        refine lv_iconst (v := 1) hx hb dX5_pace_40 (by decide) ?_
        exact W.iret (v := 1) hx hb hr (fun t ht hW => ⟨⟨1, (), rfl, (by simp only [Int32.lt_iff_toInt_lt, Int32.le_iff_toInt_le, ← Int32.toInt_inj, Int32.reduceToInt] at c_1 g_7 g_9; exact (if_pos (by simp only [Int32.lt_iff_toInt_lt, Int32.le_iff_toInt_le, ← Int32.toInt_inj, Int32.reduceToInt]; omega)).symm), trivial⟩, hS.F ht⟩) hS.2.2 dX5_pace_41
      · skip
        have g_9 := k_ff hpr_8 c_9
        refine lv_iconst (v := (-1)) hx hb dX5_pace_28 (by decide) ?_
        exact W.iret (v := (-1)) hx hb hr (fun t ht hW => ⟨⟨(-1), (), rfl, (by simp only [Int32.lt_iff_toInt_lt, Int32.le_iff_toInt_le, ← Int32.toInt_inj, Int32.reduceToInt] at c_1 g_7 g_9; exact (if_neg (by simp only [Int32.lt_iff_toInt_lt, Int32.le_iff_toInt_le, ← Int32.toInt_inj, Int32.reduceToInt]; omega)).symm), trivial⟩, hS.F ht⟩) hS.2.2 dX5_pace_29
    · skip
      have g_7 := k_ff hpr_6 c_7
      refine lv_iconst (v := (-1)) hx hb dX5_pace_15 (by decide) ?_
      exact W.iret (v := (-1)) hx hb hr (fun t ht hW => ⟨⟨(-1), (), rfl, (by simp only [Int32.lt_iff_toInt_lt, Int32.le_iff_toInt_le, ← Int32.toInt_inj, Int32.reduceToInt] at c_1 g_7; exact (if_neg (by simp only [Int32.lt_iff_toInt_lt, Int32.le_iff_toInt_le, ← Int32.toInt_inj, Int32.reduceToInt]; omega)).symm), trivial⟩, hS.F ht⟩) hS.2.2 dX5_pace_16
set_option maxHeartbeats 4000000 in
set_option maxRecDepth 100000 in
theorem f_mpace (l : Launch) (dC : Nat → ClassId) (dI : Nat → Nat → Nat) (sz : Nat) (h0 : Nat) (fs : List Value) (x y : Int32)  (hlen_h0 : fs.length = 51) : mFi l yX6_pace cX6_pace 3 1 0 0 (dC, dI) [(h0, .inr (6, fs))] sz [] (fun _ => True) [.ref h0, .int x, .int y] (fun r => r = if (x = 0 ∨ (10 ≤ x ∧ x ≤ 100)) ∧ (1 ≤ y ∧ y ≤ 200) then 1 else (-1)) := by
  refine Met.ofW (cc := cX6_pace) (maxL := 3) (ret := some .int) (by decide) rfl ?_
  intro p e s m args below meth c s₁ B hml hv
  obtain ⟨rfl, hsz, hP, hK, hD0, hex⟩ := hv
  subst hsz
  have hx := B.exec
  have hb := B.bytes
  have hr := B.returns
  have hlocks := B.notSynchronized
  have hts0 := atoms_spec (ws := Cond.code yX6_pace cX6_pace 3 (some .int) :: lw_B) B.pre
  have hts : ∀ w ∈ lw_B, w.before _ s = true := fun w h => hts0 w (List.mem_cons_of_mem _ h)
  have hown : s.vm.findClass RX6 = some m.cls := findClass_of_methodNamed B.named
  have hD := hD0.self (sz := s.heap.size)
  generalize hAe : va_A [(h0, .inr (6, fs))] s.heap.size = A at hD ⊢
  have hA : ∀ q : Nat, s.heap.size ≤ q → A q := fun q h => by rw [← hAe]; exact Or.inr h
  have hS : va_S A s.heap s.heap [] := va_S.rf
  have hl := lv_entry ([.ref h0, .int x, .int y]) (n := 3) (Nat.le_of_ble_eq_true rfl)
  rw [lg_entry_eq]
  generalize (lg_sl ([.ref h0, .int x, .int y]) ++ List.replicate (3 - (lg_sl ([.ref h0, .int x, .int y])).length) Slot.unset).toArray = ls at hl ⊢
  have hl : lv_has ls 3 [(0, .ref h0), (1, .int x), (2, .int y)] := hl
  refine lv_iload_n hx hb dX6_pace_0 rfl (lv_at hl 1 rfl) ?_
  refine lv_if_eq (tgt := 15) hx hb dX6_pace_1 (by decide) (fun c_1 => ?_) (fun c_1 => ?_)
  · skip
    refine lv_iload_n hx hb dX6_pace_15 rfl (lv_at hl 2 rfl) ?_
    refine lv_iconst (v := 1) hx hb dX6_pace_16 (by decide) ?_
    refine lv_sipush (v := 200) hx hb dX6_pace_17 (by decide) ?_
    refine k_S ⟨hx, hb, hml, hown, hts⟩ (c_in l y 1 200) 3 wm_4 wm_5 wm_6 wm_7 (by decide +kernel) ⟨Nat.le_of_ble_eq_true rfl, Nat.le_of_ble_eq_true rfl⟩ rfl hl.1 rfl (Nat.le_of_ble_eq_true rfl) dX6_pace_20 ⟨Nat.le_of_ble_eq_true rfl, Nat.le_of_ble_eq_true rfl⟩ hS hP (fun r_2 H locs hpr_2 hP hS => ?_)
    refine lv_if_ne (tgt := 28) hx hb dX6_pace_23 (by decide) (fun c_3 => ?_) (fun c_3 => ?_)
    · skip
      have g_3 := k_ft hpr_2 c_3
      refine lv_aload_n hx hb dX6_pace_28 rfl (lv_at hl 0 rfl) ?_
      refine lv_iload_n hx hb dX6_pace_29 rfl (lv_at hl 1 rfl) ?_
      refine va_put (D := (dC, dI)) (ci := 6) (v := .int x) (ty := .int) (C := RX6) (T := TX6) (N := 51) hx hb hts uB6 tyX6 tyX6_ok nmX6 hown hK hP hD hS 0 rfl rfl 3 (by decide) (hts _ wm_52) (fun _ h9 => h9) rfl (by decide +kernel) rfl rfl (by rw [hlen_h0]; decide) dX6_pace_30 (fun H locs hP hD hS => ?_)
      obtain ⟨fs_4, efs_4⟩ : ∃ z9, z9 = (fs).set 3 (.int x) := ⟨_, rfl⟩
      have hP : va_P (dC, dI) vwCl [(h0, .inr (6, fs_4))] H := by rw [efs_4]; exact hP
      have hD : va_D A [(h0, .inr (6, fs_4))] := by rw [efs_4]; exact hD
      have hf3_h0 : fs_4[3]? = some (.int x) := by rw [efs_4]; exact List.getElem?_set_self (by rw [hlen_h0]; decide)
      have hlen_h0 : fs_4.length = 51 := by rw [efs_4, List.length_set]; exact hlen_h0
      refine lv_aload_n hx hb dX6_pace_33 rfl (lv_at hl 0 rfl) ?_
      refine lv_iload_n hx hb dX6_pace_34 rfl (lv_at hl 2 rfl) ?_
      refine va_put (D := (dC, dI)) (ci := 6) (v := .int y) (ty := .int) (C := RX6) (T := TX6) (N := 51) hx hb hts uB6 tyX6 tyX6_ok nmX6 hown hK hP hD hS 0 rfl rfl 4 (by decide) (hts _ wm_53) (fun _ h9 => h9) rfl (by decide +kernel) rfl rfl (by rw [hlen_h0]; decide) dX6_pace_35 (fun H locs hP hD hS => ?_)
      obtain ⟨fs_5, efs_5⟩ : ∃ z9, z9 = (fs_4).set 4 (.int y) := ⟨_, rfl⟩
      have hP : va_P (dC, dI) vwCl [(h0, .inr (6, fs_5))] H := by rw [efs_5]; exact hP
      have hD : va_D A [(h0, .inr (6, fs_5))] := by rw [efs_5]; exact hD
      have hf3_h0 : fs_5[3]? = some (.int x) := by rw [efs_5, List.getElem?_set_ne (by decide)]; exact hf3_h0
      have hf4_h0 : fs_5[4]? = some (.int y) := by rw [efs_5]; exact List.getElem?_set_self (by rw [hlen_h0]; decide)
      have hlen_h0 : fs_5.length = 51 := by rw [efs_5, List.length_set]; exact hlen_h0
      refine lv_iconst (v := 1) hx hb dX6_pace_38 (by decide) ?_
      exact W.iret (v := 1) hx hb hr (fun t ht hW => ⟨⟨1, (), rfl, (by simp only [Int32.lt_iff_toInt_lt, Int32.le_iff_toInt_le, ← Int32.toInt_inj, Int32.reduceToInt] at c_1 g_3; exact (if_pos (by simp only [Int32.lt_iff_toInt_lt, Int32.le_iff_toInt_le, ← Int32.toInt_inj, Int32.reduceToInt]; omega)).symm), trivial⟩, hS.F ht⟩) hS.2.2 dX6_pace_39
    · skip
      have g_3 := k_ff hpr_2 c_3
      refine lv_iconst (v := (-1)) hx hb dX6_pace_26 (by decide) ?_
      exact W.iret (v := (-1)) hx hb hr (fun t ht hW => ⟨⟨(-1), (), rfl, (by simp only [Int32.lt_iff_toInt_lt, Int32.le_iff_toInt_le, ← Int32.toInt_inj, Int32.reduceToInt] at c_1 g_3; exact (if_neg (by simp only [Int32.lt_iff_toInt_lt, Int32.le_iff_toInt_le, ← Int32.toInt_inj, Int32.reduceToInt]; omega)).symm), trivial⟩, hS.F ht⟩) hS.2.2 dX6_pace_27
  · skip
    refine lv_iload_n hx hb dX6_pace_4 rfl (lv_at hl 1 rfl) ?_
    refine lv_bipush (v := 10) hx hb dX6_pace_5 (by decide) ?_
    refine lv_bipush (v := 100) hx hb dX6_pace_7 (by decide) ?_
    refine k_S ⟨hx, hb, hml, hown, hts⟩ (c_in l x 10 100) 3 wm_4 wm_5 wm_6 wm_7 (by decide +kernel) ⟨Nat.le_of_ble_eq_true rfl, Nat.le_of_ble_eq_true rfl⟩ rfl hl.1 rfl (Nat.le_of_ble_eq_true rfl) dX6_pace_9 ⟨Nat.le_of_ble_eq_true rfl, Nat.le_of_ble_eq_true rfl⟩ hS hP (fun r_6 H locs hpr_6 hP hS => ?_)
    refine lv_if_eq (tgt := 26) hx hb dX6_pace_12 (by decide) (fun c_7 => ?_) (fun c_7 => ?_)
    · skip
      have g_7 := k_ff hpr_6 c_7
      refine lv_iconst (v := (-1)) hx hb dX6_pace_26 (by decide) ?_
      exact W.iret (v := (-1)) hx hb hr (fun t ht hW => ⟨⟨(-1), (), rfl, (by simp only [Int32.lt_iff_toInt_lt, Int32.le_iff_toInt_le, ← Int32.toInt_inj, Int32.reduceToInt] at c_1 g_7; exact (if_neg (by simp only [Int32.lt_iff_toInt_lt, Int32.le_iff_toInt_le, ← Int32.toInt_inj, Int32.reduceToInt]; omega)).symm), trivial⟩, hS.F ht⟩) hS.2.2 dX6_pace_27
    · skip
      have g_7 := k_ft hpr_6 c_7
      refine lv_iload_n hx hb dX6_pace_15 rfl (lv_at hl 2 rfl) ?_
      refine lv_iconst (v := 1) hx hb dX6_pace_16 (by decide) ?_
      refine lv_sipush (v := 200) hx hb dX6_pace_17 (by decide) ?_
      refine k_S ⟨hx, hb, hml, hown, hts⟩ (c_in l y 1 200) 3 wm_4 wm_5 wm_6 wm_7 (by decide +kernel) ⟨Nat.le_of_ble_eq_true rfl, Nat.le_of_ble_eq_true rfl⟩ rfl hl.1 rfl (Nat.le_of_ble_eq_true rfl) dX6_pace_20 ⟨Nat.le_of_ble_eq_true rfl, Nat.le_of_ble_eq_true rfl⟩ hS hP (fun r_8 H locs hpr_8 hP hS => ?_)
      refine lv_if_ne (tgt := 28) hx hb dX6_pace_23 (by decide) (fun c_9 => ?_) (fun c_9 => ?_)
      · skip
        have g_9 := k_ft hpr_8 c_9
        refine lv_aload_n hx hb dX6_pace_28 rfl (lv_at hl 0 rfl) ?_
        refine lv_iload_n hx hb dX6_pace_29 rfl (lv_at hl 1 rfl) ?_
        refine va_put (D := (dC, dI)) (ci := 6) (v := .int x) (ty := .int) (C := RX6) (T := TX6) (N := 51) hx hb hts uB6 tyX6 tyX6_ok nmX6 hown hK hP hD hS 0 rfl rfl 3 (by decide) (hts _ wm_52) (fun _ h9 => h9) rfl (by decide +kernel) rfl rfl (by rw [hlen_h0]; decide) dX6_pace_30 (fun H locs hP hD hS => ?_)
        obtain ⟨fs_10, efs_10⟩ : ∃ z9, z9 = (fs).set 3 (.int x) := ⟨_, rfl⟩
        have hP : va_P (dC, dI) vwCl [(h0, .inr (6, fs_10))] H := by rw [efs_10]; exact hP
        have hD : va_D A [(h0, .inr (6, fs_10))] := by rw [efs_10]; exact hD
        have hf3_h0 : fs_10[3]? = some (.int x) := by rw [efs_10]; exact List.getElem?_set_self (by rw [hlen_h0]; decide)
        have hlen_h0 : fs_10.length = 51 := by rw [efs_10, List.length_set]; exact hlen_h0
        refine lv_aload_n hx hb dX6_pace_33 rfl (lv_at hl 0 rfl) ?_
        refine lv_iload_n hx hb dX6_pace_34 rfl (lv_at hl 2 rfl) ?_
        refine va_put (D := (dC, dI)) (ci := 6) (v := .int y) (ty := .int) (C := RX6) (T := TX6) (N := 51) hx hb hts uB6 tyX6 tyX6_ok nmX6 hown hK hP hD hS 0 rfl rfl 4 (by decide) (hts _ wm_53) (fun _ h9 => h9) rfl (by decide +kernel) rfl rfl (by rw [hlen_h0]; decide) dX6_pace_35 (fun H locs hP hD hS => ?_)
        obtain ⟨fs_11, efs_11⟩ : ∃ z9, z9 = (fs_10).set 4 (.int y) := ⟨_, rfl⟩
        have hP : va_P (dC, dI) vwCl [(h0, .inr (6, fs_11))] H := by rw [efs_11]; exact hP
        have hD : va_D A [(h0, .inr (6, fs_11))] := by rw [efs_11]; exact hD
        have hf3_h0 : fs_11[3]? = some (.int x) := by rw [efs_11, List.getElem?_set_ne (by decide)]; exact hf3_h0
        have hf4_h0 : fs_11[4]? = some (.int y) := by rw [efs_11]; exact List.getElem?_set_self (by rw [hlen_h0]; decide)
        have hlen_h0 : fs_11.length = 51 := by rw [efs_11, List.length_set]; exact hlen_h0
        refine lv_iconst (v := 1) hx hb dX6_pace_38 (by decide) ?_
        exact W.iret (v := 1) hx hb hr (fun t ht hW => ⟨⟨1, (), rfl, (by simp only [Int32.lt_iff_toInt_lt, Int32.le_iff_toInt_le, ← Int32.toInt_inj, Int32.reduceToInt] at c_1 g_7 g_9; exact (if_pos (by simp only [Int32.lt_iff_toInt_lt, Int32.le_iff_toInt_le, ← Int32.toInt_inj, Int32.reduceToInt]; omega)).symm), trivial⟩, hS.F ht⟩) hS.2.2 dX6_pace_39
      · skip
        have g_9 := k_ff hpr_8 c_9
        refine lv_iconst (v := (-1)) hx hb dX6_pace_26 (by decide) ?_
        exact W.iret (v := (-1)) hx hb hr (fun t ht hW => ⟨⟨(-1), (), rfl, (by simp only [Int32.lt_iff_toInt_lt, Int32.le_iff_toInt_le, ← Int32.toInt_inj, Int32.reduceToInt] at c_1 g_7 g_9; exact (if_neg (by simp only [Int32.lt_iff_toInt_lt, Int32.le_iff_toInt_le, ← Int32.toInt_inj, Int32.reduceToInt]; omega)).symm), trivial⟩, hS.F ht⟩) hS.2.2 dX6_pace_27
end
section
set_option maxHeartbeats 4000000 in
set_option maxRecDepth 100000 in
theorem f_count (l : Launch) (dC : Nat → ClassId) (dI : Nat → Nat → Nat) (h0 : Nat) (fs : List Value) (x : Int32) (hf7 : fs[7]? = some (.int 0)) (hf8 : fs[8]? = some (.int 0)) (hf9 : fs[9]? = some (.int 0)) (hf12 : fs[12]? = some (.int 0)) (hf10 : fs[10]? = some (.int 0)) (hf11 : fs[11]? = some (.int 0)) : mV l yX5_count cX5_count 2 .int 0 (dC, dI) [(h0, .inr (5, fs))] [] [.ref h0, .int x] (fun r => r = if 0 ≤ x ∧ x ≤ 5 then 0 else (-1)) := by
  refine Met.ofW (cc := cX5_count) (maxL := 2) (ret := some .int) (by decide) rfl ?_
  intro p e s m args below meth c s₁ B hml hv
  obtain ⟨rfl, hP, hK⟩ := hv
  have hx := B.exec
  have hb := B.bytes
  have hr := B.returns
  have hlocks := B.notSynchronized
  have hts0 := atoms_spec (ws := Cond.code yX5_count cX5_count 2 (some .int) :: lw_B) B.pre
  have hts : ∀ w ∈ lw_B, w.before _ s = true := fun w h => hts0 w (List.mem_cons_of_mem _ h)
  have hown : s.vm.findClass RX5 = some m.cls := findClass_of_methodNamed B.named
  have hS : va_S (fun _ => False) s.heap s.heap [] := va_S.rf
  have hl := lv_entry ([.ref h0, .int x]) (n := 2) (Nat.le_of_ble_eq_true rfl)
  rw [lg_entry_eq]
  generalize (lg_sl ([.ref h0, .int x]) ++ List.replicate (2 - (lg_sl ([.ref h0, .int x])).length) Slot.unset).toArray = ls at hl ⊢
  have hl : lv_has ls 2 [(0, .ref h0), (1, .int x)] := hl
  refine lv_iload_n hx hb dX5_count_0 rfl (lv_at hl 1 rfl) ?_
  rcases k_sw5 x with h9 | rfl | rfl | rfl | rfl | rfl | rfl
  · skip
    refine lv_tableOut (tgt := 70) hx hb dX5_count_1 h9 (by decide) ?_
    refine lv_iconst (v := (-1)) hx hb dX5_count_70 (by decide) ?_
    exact W.iret (v := (-1)) hx hb hr (fun t ht hW => ⟨⟨(-1), (), rfl, (if_neg (by simp only [Int32.lt_iff_toInt_lt, Int32.le_iff_toInt_le, ← Int32.toInt_inj, Int32.reduceToInt]; omega)).symm, trivial⟩, hS.F ht⟩) hS.2.2 dX5_count_71
  · skip
    refine lv_tableIn (off := 39) (tgt := 40) hx hb dX5_count_1 (by decide) (by decide) rfl (by decide) ?_
    refine lv_aload_n hx hb dX5_count_40 rfl (lv_at hl 0 rfl) ?_
    refine va_get (D := (dC, dI)) (ci := 5) (v := .int 0) (C := RX5) (T := TX5) (N := 17) hx hb hts uB5 hown hK hP 0 rfl rfl 7 (by decide) (hts _ wm_8) (fun _ h9 => h9) hf7 dX5_count_41 ?_
    exact W.iret (v := 0) hx hb hr (fun t ht hW => ⟨⟨0, (), rfl, (by decide), trivial⟩, hS.F ht⟩) hS.2.2 dX5_count_44
  · skip
    refine lv_tableIn (off := 44) (tgt := 45) hx hb dX5_count_1 (by decide) (by decide) rfl (by decide) ?_
    refine lv_aload_n hx hb dX5_count_45 rfl (lv_at hl 0 rfl) ?_
    refine va_get (D := (dC, dI)) (ci := 5) (v := .int 0) (C := RX5) (T := TX5) (N := 17) hx hb hts uB5 hown hK hP 0 rfl rfl 8 (by decide) (hts _ wm_9) (fun _ h9 => h9) hf8 dX5_count_46 ?_
    exact W.iret (v := 0) hx hb hr (fun t ht hW => ⟨⟨0, (), rfl, (by decide), trivial⟩, hS.F ht⟩) hS.2.2 dX5_count_49
  · skip
    refine lv_tableIn (off := 49) (tgt := 50) hx hb dX5_count_1 (by decide) (by decide) rfl (by decide) ?_
    refine lv_aload_n hx hb dX5_count_50 rfl (lv_at hl 0 rfl) ?_
    refine va_get (D := (dC, dI)) (ci := 5) (v := .int 0) (C := RX5) (T := TX5) (N := 17) hx hb hts uB5 hown hK hP 0 rfl rfl 9 (by decide) (hts _ wm_10) (fun _ h9 => h9) hf9 dX5_count_51 ?_
    exact W.iret (v := 0) hx hb hr (fun t ht hW => ⟨⟨0, (), rfl, (by decide), trivial⟩, hS.F ht⟩) hS.2.2 dX5_count_54
  · skip
    refine lv_tableIn (off := 54) (tgt := 55) hx hb dX5_count_1 (by decide) (by decide) rfl (by decide) ?_
    refine lv_aload_n hx hb dX5_count_55 rfl (lv_at hl 0 rfl) ?_
    refine va_get (D := (dC, dI)) (ci := 5) (v := .int 0) (C := RX5) (T := TX5) (N := 17) hx hb hts uB5 hown hK hP 0 rfl rfl 12 (by decide) (hts _ wm_54) (fun _ h9 => h9) hf12 dX5_count_56 ?_
    exact W.iret (v := 0) hx hb hr (fun t ht hW => ⟨⟨0, (), rfl, (by decide), trivial⟩, hS.F ht⟩) hS.2.2 dX5_count_59
  · skip
    refine lv_tableIn (off := 59) (tgt := 60) hx hb dX5_count_1 (by decide) (by decide) rfl (by decide) ?_
    refine lv_aload_n hx hb dX5_count_60 rfl (lv_at hl 0 rfl) ?_
    refine va_get (D := (dC, dI)) (ci := 5) (v := .int 0) (C := RX5) (T := TX5) (N := 17) hx hb hts uB5 hown hK hP 0 rfl rfl 10 (by decide) (hts _ wm_55) (fun _ h9 => h9) hf10 dX5_count_61 ?_
    exact W.iret (v := 0) hx hb hr (fun t ht hW => ⟨⟨0, (), rfl, (by decide), trivial⟩, hS.F ht⟩) hS.2.2 dX5_count_64
  · skip
    refine lv_tableIn (off := 64) (tgt := 65) hx hb dX5_count_1 (by decide) (by decide) rfl (by decide) ?_
    refine lv_aload_n hx hb dX5_count_65 rfl (lv_at hl 0 rfl) ?_
    refine va_get (D := (dC, dI)) (ci := 5) (v := .int 0) (C := RX5) (T := TX5) (N := 17) hx hb hts uB5 hown hK hP 0 rfl rfl 11 (by decide) (hts _ wm_56) (fun _ h9 => h9) hf11 dX5_count_66 ?_
    exact W.iret (v := 0) hx hb hr (fun t ht hW => ⟨⟨0, (), rfl, (by decide), trivial⟩, hS.F ht⟩) hS.2.2 dX5_count_69
set_option maxHeartbeats 4000000 in
set_option maxRecDepth 100000 in
theorem f_mcount (l : Launch) (dC : Nat → ClassId) (dI : Nat → Nat → Nat) (h0 : Nat) (fs : List Value) (x : Int32) (hf5 : fs[5]? = some (.int 0)) (hf9 : fs[9]? = some (.int 0)) (hf25 : fs[25]? = some (.int 0)) (hf1 : fs[1]? = some (.int 0)) : mV l yX6_count cX6_count 4 .int 0 (dC, dI) [(h0, .inr (6, fs))] [] [.ref h0, .int x] (fun r => r = if 0 ≤ x ∧ x ≤ 5 then 0 else (-1)) := by
  refine Met.ofW (cc := cX6_count) (maxL := 4) (ret := some .int) (by decide) rfl ?_
  intro p e s m args below meth c s₁ B hml hv
  obtain ⟨rfl, hP, hK⟩ := hv
  have hx := B.exec
  have hb := B.bytes
  have hr := B.returns
  have hlocks := B.notSynchronized
  have hts0 := atoms_spec (ws := Cond.code yX6_count cX6_count 4 (some .int) :: lw_B) B.pre
  have hts : ∀ w ∈ lw_B, w.before _ s = true := fun w h => hts0 w (List.mem_cons_of_mem _ h)
  have hown : s.vm.findClass RX6 = some m.cls := findClass_of_methodNamed B.named
  have hS : va_S (fun _ => False) s.heap s.heap [] := va_S.rf
  have hl := lv_entry ([.ref h0, .int x]) (n := 4) (Nat.le_of_ble_eq_true rfl)
  rw [lg_entry_eq]
  generalize (lg_sl ([.ref h0, .int x]) ++ List.replicate (4 - (lg_sl ([.ref h0, .int x])).length) Slot.unset).toArray = ls at hl ⊢
  have hl : lv_has ls 4 [(0, .ref h0), (1, .int x)] := hl
  refine lv_iconst (v := 0) hx hb dX6_count_0 (by decide) ?_
  refine lv_istore_n (lv' := [(2, .int 0), (0, .ref h0), (1, .int x)]) hx hb dX6_count_1 rfl hl (by decide) rfl (fun ls hl => ?_)
  refine lv_iload_n hx hb dX6_count_2 rfl (lv_at hl 2 rfl) ?_
  rcases k_sw5 x with h9 | rfl | rfl | rfl | rfl | rfl | rfl
  · skip
    refine lv_tableOut (tgt := 123) hx hb dX6_count_3 h9 (by decide) ?_
    refine lv_iconst (v := (-1)) hx hb dX6_count_123 (by decide) ?_
    exact W.iret (v := (-1)) hx hb hr (fun t ht hW => ⟨⟨(-1), (), rfl, (if_neg (by simp only [Int32.lt_iff_toInt_lt, Int32.le_iff_toInt_le, ← Int32.toInt_inj, Int32.reduceToInt]; omega)).symm, trivial⟩, hS.F ht⟩) hS.2.2 dX6_count_124
  · skip
    refine lv_tableIn (off := 37) (tgt := 40) hx hb dX6_count_3 (by decide) (by decide) rfl (by decide) ?_
    refine lv_aload_n hx hb dX6_count_40 rfl (lv_at hl 1 rfl) ?_
    refine va_get (D := (dC, dI)) (ci := 6) (v := .int 0) (C := RX6) (T := TX6) (N := 51) hx hb hts uB6 hown hK hP 0 rfl rfl 5 (by decide) (hts _ wm_11) (fun _ h9 => h9) hf5 dX6_count_41 ?_
    exact W.iret (v := 0) hx hb hr (fun t ht hW => ⟨⟨0, (), rfl, (by decide), trivial⟩, hS.F ht⟩) hS.2.2 dX6_count_44
  · skip
    refine lv_tableIn (off := 42) (tgt := 45) hx hb dX6_count_3 (by decide) (by decide) rfl (by decide) ?_
    refine lv_aload_n hx hb dX6_count_45 rfl (lv_at hl 1 rfl) ?_
    refine va_get (D := (dC, dI)) (ci := 6) (v := .int 0) (C := RX6) (T := TX6) (N := 51) hx hb hts uB6 hown hK hP 0 rfl rfl 9 (by decide) (hts _ wm_12) (fun _ h9 => h9) hf9 dX6_count_46 ?_
    exact W.iret (v := 0) hx hb hr (fun t ht hW => ⟨⟨0, (), rfl, (by decide), trivial⟩, hS.F ht⟩) hS.2.2 dX6_count_49
  · skip
    refine lv_tableIn (off := 47) (tgt := 50) hx hb dX6_count_3 (by decide) (by decide) rfl (by decide) ?_
    refine lv_aload_n hx hb dX6_count_50 rfl (lv_at hl 1 rfl) ?_
    refine va_get (D := (dC, dI)) (ci := 6) (v := .int 0) (C := RX6) (T := TX6) (N := 51) hx hb hts uB6 hown hK hP 0 rfl rfl 25 (by decide) (hts _ wm_13) (fun _ h9 => h9) hf25 dX6_count_51 ?_
    exact W.iret (v := 0) hx hb hr (fun t ht hW => ⟨⟨0, (), rfl, (by decide), trivial⟩, hS.F ht⟩) hS.2.2 dX6_count_54
  · skip
    refine lv_tableIn (off := 52) (tgt := 55) hx hb dX6_count_3 (by decide) (by decide) rfl (by decide) ?_
    refine lv_aload_n hx hb dX6_count_55 rfl (lv_at hl 1 rfl) ?_
    refine va_get (D := (dC, dI)) (ci := 6) (v := .int 0) (C := RX6) (T := TX6) (N := 51) hx hb hts uB6 hown hK hP 0 rfl rfl 1 (by decide) (hts _ wm_57) (fun _ h9 => h9) hf1 dX6_count_56 ?_
    exact W.iret (v := 0) hx hb hr (fun t ht hW => ⟨⟨0, (), rfl, (by decide), trivial⟩, hS.F ht⟩) hS.2.2 dX6_count_59
  · skip
    refine lv_tableIn (off := 57) (tgt := 60) hx hb dX6_count_3 (by decide) (by decide) rfl (by decide) ?_
    refine lv_iconst (v := 0) hx hb dX6_count_60 (by decide) ?_
    refine lv_istore_n (lv' := [(3, .int 0), (2, .int 0), (0, .ref h0), (1, .int 4)]) hx hb dX6_count_61 rfl hl (by decide) rfl (fun ls hl => ?_)
    refine lv_iload_n hx hb dX6_count_62 rfl (lv_at hl 0 rfl) ?_
    refine lv_aload_n hx hb dX6_count_63 rfl (lv_at hl 2 rfl) ?_
    refine va_get (D := (dC, dI)) (ci := 6) (v := .int 0) (C := RX6) (T := TX6) (N := 51) hx hb hts uB6 hown hK hP 0 rfl rfl 25 (by decide) (hts _ wm_13) (fun _ h9 => h9) hf25 dX6_count_64 ?_
    refine lv_icmp_ge (tgt := 94) hx hb dX6_count_67 (by decide) (fun _ => ?_) (fun h9 => absurd (by decide) h9)
    refine lv_iload_n hx hb dX6_count_94 rfl (lv_at hl 1 rfl) ?_
    exact W.iret (v := 0) hx hb hr (fun t ht hW => ⟨⟨0, (), rfl, (by decide), trivial⟩, hS.F ht⟩) hS.2.2 dX6_count_95
  · skip
    refine lv_tableIn (off := 93) (tgt := 96) hx hb dX6_count_3 (by decide) (by decide) rfl (by decide) ?_
    refine lv_iconst (v := 0) hx hb dX6_count_96 (by decide) ?_
    refine lv_istore_n (lv' := [(3, .int 0), (2, .int 0), (0, .ref h0), (1, .int 5)]) hx hb dX6_count_97 rfl hl (by decide) rfl (fun ls hl => ?_)
    refine lv_iload_n hx hb dX6_count_98 rfl (lv_at hl 0 rfl) ?_
    refine lv_aload_n hx hb dX6_count_99 rfl (lv_at hl 2 rfl) ?_
    refine va_get (D := (dC, dI)) (ci := 6) (v := .int 0) (C := RX6) (T := TX6) (N := 51) hx hb hts uB6 hown hK hP 0 rfl rfl 25 (by decide) (hts _ wm_13) (fun _ h9 => h9) hf25 dX6_count_100 ?_
    refine lv_icmp_ge (tgt := 121) hx hb dX6_count_103 (by decide) (fun _ => ?_) (fun h9 => absurd (by decide) h9)
    refine lv_iload_n hx hb dX6_count_121 rfl (lv_at hl 1 rfl) ?_
    exact W.iret (v := 0) hx hb hr (fun t ht hW => ⟨⟨0, (), rfl, (by decide), trivial⟩, hS.F ht⟩) hS.2.2 dX6_count_122
set_option maxHeartbeats 4000000 in
set_option maxRecDepth 100000 in
theorem v_closeDay (l : Launch) (dC : Nat → ClassId) (dI : Nat → Nat → Nat) (h0 : Nat) (fs : List Value) (hf8 : fs[8]? = some (.int 0)) : mVv l yX5_closeDay cX5_closeDay 2 0 (dC, dI) [(h0, .inr (5, fs))] [] [.ref h0] := by
  refine Met.ofW (cc := cX5_closeDay) (maxL := 2) (ret := none) (by decide) rfl ?_
  intro p e s m args below meth c s₁ B hml hv
  obtain ⟨rfl, hP, hK⟩ := hv
  have hx := B.exec
  have hb := B.bytes
  have hr := B.returns
  have hlocks := B.notSynchronized
  have hts0 := atoms_spec (ws := Cond.code yX5_closeDay cX5_closeDay 2 none :: lw_B) B.pre
  have hts : ∀ w ∈ lw_B, w.before _ s = true := fun w h => hts0 w (List.mem_cons_of_mem _ h)
  have hown : s.vm.findClass RX5 = some m.cls := findClass_of_methodNamed B.named
  have hS : va_S (fun _ => False) s.heap s.heap [] := va_S.rf
  have hl := lv_entry ([.ref h0]) (n := 2) (Nat.le_of_ble_eq_true rfl)
  rw [lg_entry_eq]
  generalize (lg_sl ([.ref h0]) ++ List.replicate (2 - (lg_sl ([.ref h0])).length) Slot.unset).toArray = ls at hl ⊢
  have hl : lv_has ls 2 [(0, .ref h0)] := hl
  refine lv_iconst (v := 0) hx hb dX5_closeDay_0 (by decide) ?_
  refine lv_istore_n (lv' := [(1, .int 0), (0, .ref h0)]) hx hb dX5_closeDay_1 rfl hl (by decide) rfl (fun ls hl => ?_)
  refine lv_iload_n hx hb dX5_closeDay_2 rfl (lv_at hl 0 rfl) ?_
  refine lv_aload_n hx hb dX5_closeDay_3 rfl (lv_at hl 1 rfl) ?_
  refine va_get (D := (dC, dI)) (ci := 5) (v := .int 0) (C := RX5) (T := TX5) (N := 17) hx hb hts uB5 hown hK hP 0 rfl rfl 8 (by decide) (hts _ wm_9) (fun _ h9 => h9) hf8 dX5_closeDay_4 ?_
  refine lv_icmp_ge (tgt := 29) hx hb dX5_closeDay_7 (by decide) (fun _ => ?_) (fun h9 => absurd (by decide) h9)
  exact W.vret hx hb hr (fun t ht hW => ⟨⟨(), rfl, trivial, trivial⟩, hS.F ht⟩) hS.2.2 dX5_closeDay_29
set_option maxHeartbeats 4000000 in
set_option maxRecDepth 100000 in
theorem v_closeTick (l : Launch) (dC : Nat → ClassId) (dI : Nat → Nat → Nat) (h0 : Nat) (fs : List Value) (hf8 : fs[8]? = some (.int 0)) (hf7 : fs[7]? = some (.int 0)) : mVv l yX5_closeTick cX5_closeTick 2 0 (dC, dI) [(h0, .inr (5, fs))] [] [.ref h0] := by
  refine Met.ofW (cc := cX5_closeTick) (maxL := 2) (ret := none) (by decide) rfl ?_
  intro p e s m args below meth c s₁ B hml hv
  obtain ⟨rfl, hP, hK⟩ := hv
  have hx := B.exec
  have hb := B.bytes
  have hr := B.returns
  have hlocks := B.notSynchronized
  have hts0 := atoms_spec (ws := Cond.code yX5_closeTick cX5_closeTick 2 none :: lw_B) B.pre
  have hts : ∀ w ∈ lw_B, w.before _ s = true := fun w h => hts0 w (List.mem_cons_of_mem _ h)
  have hown : s.vm.findClass RX5 = some m.cls := findClass_of_methodNamed B.named
  have hS : va_S (fun _ => False) s.heap s.heap [] := va_S.rf
  have hl := lv_entry ([.ref h0]) (n := 2) (Nat.le_of_ble_eq_true rfl)
  rw [lg_entry_eq]
  generalize (lg_sl ([.ref h0]) ++ List.replicate (2 - (lg_sl ([.ref h0])).length) Slot.unset).toArray = ls at hl ⊢
  have hl : lv_has ls 2 [(0, .ref h0)] := hl
  refine lv_iconst (v := 0) hx hb dX5_closeTick_0 (by decide) ?_
  refine lv_istore_n (lv' := [(1, .int 0), (0, .ref h0)]) hx hb dX5_closeTick_1 rfl hl (by decide) rfl (fun ls hl => ?_)
  refine lv_iload_n hx hb dX5_closeTick_2 rfl (lv_at hl 0 rfl) ?_
  refine lv_aload_n hx hb dX5_closeTick_3 rfl (lv_at hl 1 rfl) ?_
  refine va_get (D := (dC, dI)) (ci := 5) (v := .int 0) (C := RX5) (T := TX5) (N := 17) hx hb hts uB5 hown hK hP 0 rfl rfl 8 (by decide) (hts _ wm_9) (fun _ h9 => h9) hf8 dX5_closeTick_4 ?_
  refine lv_icmp_ge (tgt := 28) hx hb dX5_closeTick_7 (by decide) (fun _ => ?_) (fun h9 => absurd (by decide) h9)
  refine lv_iconst (v := 0) hx hb dX5_closeTick_28 (by decide) ?_
  refine lv_istore_n (lv' := [(1, .int 0), (0, .ref h0)]) hx hb dX5_closeTick_29 rfl hl (by decide) rfl (fun ls hl => ?_)
  refine lv_iload_n hx hb dX5_closeTick_30 rfl (lv_at hl 0 rfl) ?_
  refine lv_aload_n hx hb dX5_closeTick_31 rfl (lv_at hl 1 rfl) ?_
  refine va_get (D := (dC, dI)) (ci := 5) (v := .int 0) (C := RX5) (T := TX5) (N := 17) hx hb hts uB5 hown hK hP 0 rfl rfl 7 (by decide) (hts _ wm_8) (fun _ h9 => h9) hf7 dX5_closeTick_32 ?_
  refine lv_icmp_ge (tgt := 54) hx hb dX5_closeTick_35 (by decide) (fun _ => ?_) (fun h9 => absurd (by decide) h9)
  exact W.vret hx hb hr (fun t ht hW => ⟨⟨(), rfl, trivial, trivial⟩, hS.F ht⟩) hS.2.2 dX5_closeTick_54
set_option maxHeartbeats 4000000 in
set_option maxRecDepth 100000 in
theorem o_goOneTick (l : Launch) (dC : Nat → ClassId) (dI : Nat → Nat → Nat) (sz : Nat) (h0 : Nat) (fs : List Value) (j : Nat) (hf8 : fs[8]? = some (.int 0)) (hf14 : fs[14]? = some (.int 0)) (hf12 : fs[12]? = some (.int (nI j))) (hf16 : fs[16]? = some (.int 10000)) (hlen_h0 : fs.length = 17) (hj : j < 10000) : mOv l yX5_goOneTick cX5_goOneTick 1 1 0 0 (dC, dI) h0 5 fs sz [] (fun _ => True) [.ref h0] (fun fs1 => fs1 = fs.set 12 (.int (nI (j + 1)))) := by
  refine Met.ofW (cc := cX5_goOneTick) (maxL := 1) (ret := none) (by decide) rfl ?_
  intro p e s m args below meth c s₁ B hml hv
  obtain ⟨rfl, hsz, hP, hK, hex⟩ := hv
  subst hsz
  have hx := B.exec
  have hb := B.bytes
  have hr := B.returns
  have hlocks := B.notSynchronized
  have hts0 := atoms_spec (ws := Cond.code yX5_goOneTick cX5_goOneTick 1 none :: lw_B) B.pre
  have hts : ∀ w ∈ lw_B, w.before _ s = true := fun w h => hts0 w (List.mem_cons_of_mem _ h)
  have hown : s.vm.findClass RX5 = some m.cls := findClass_of_methodNamed B.named
  have hD : va_D (aO h0 s.heap.size) [(h0, .inr (5, fs))] := ⟨fun i j p q h1 h2 _ => by have a1 := (List.getElem?_eq_some_iff.mp h1).1; have a2 := (List.getElem?_eq_some_iff.mp h2).1; simp at a1 a2; omega, fun k q h => by have a1 := (List.getElem?_eq_some_iff.mp h).1; simp at a1; subst a1; cases h; exact Or.inl rfl⟩
  generalize hAe : aO h0 s.heap.size = A at hD ⊢
  have hA : ∀ q : Nat, s.heap.size ≤ q → A q := fun q h => by rw [← hAe]; exact Or.inr h
  have hS : va_S A s.heap s.heap [] := va_S.rf
  have hl := lv_entry ([.ref h0]) (n := 1) (Nat.le_of_ble_eq_true rfl)
  rw [lg_entry_eq]
  generalize (lg_sl ([.ref h0]) ++ List.replicate (1 - (lg_sl ([.ref h0])).length) Slot.unset).toArray = ls at hl ⊢
  have hl : lv_has ls 1 [(0, .ref h0)] := hl
  refine lv_aload_n hx hb dX5_goOneTick_0 rfl (lv_at hl 0 rfl) ?_
  refine lv_dup hx hb dX5_goOneTick_1 rfl ?_
  refine va_get (D := (dC, dI)) (ci := 5) (v := .int (nI j)) (C := RX5) (T := TX5) (N := 17) hx hb hts uB5 hown hK hP 0 rfl rfl 12 (by decide) (hts _ wm_54) (fun _ h9 => h9) hf12 dX5_goOneTick_2 ?_
  refine lv_iconst (v := 1) hx hb dX5_goOneTick_5 (by decide) ?_
  refine lv_iadd hx hb dX5_goOneTick_6 ?_
  refine lv_topi (fun x_1 ex_1 => ?_)
  obtain rfl : x_1 = nI (j + 1) := ex_1.trans (nI_1 j)
  refine va_put (D := (dC, dI)) (ci := 5) (v := .int (nI (j + 1))) (ty := .int) (C := RX5) (T := TX5) (N := 17) hx hb hts uB5 tyX5 tyX5_ok nmX5 hown hK hP hD hS 0 rfl rfl 12 (by decide) (hts _ wm_54) (fun _ h9 => h9) rfl (by decide +kernel) rfl rfl (by rw [hlen_h0]; decide) dX5_goOneTick_7 (fun H locs hP hD hS => ?_)
  obtain ⟨fs_2, efs_2⟩ : ∃ z9, z9 = (fs).set 12 (.int (nI (j + 1))) := ⟨_, rfl⟩
  have hP : va_P (dC, dI) vwCl [(h0, .inr (5, fs_2))] H := by rw [efs_2]; exact hP
  have hD : va_D A [(h0, .inr (5, fs_2))] := by rw [efs_2]; exact hD
  have hf8 : fs_2[8]? = some (.int 0) := by rw [efs_2, List.getElem?_set_ne (by decide)]; exact hf8
  have hf14 : fs_2[14]? = some (.int 0) := by rw [efs_2, List.getElem?_set_ne (by decide)]; exact hf14
  have hf16 : fs_2[16]? = some (.int 10000) := by rw [efs_2, List.getElem?_set_ne (by decide)]; exact hf16
  have hf12 : fs_2[12]? = some (.int (nI (j + 1))) := by rw [efs_2]; exact List.getElem?_set_self (by rw [hlen_h0]; decide)
  have hlen_h0 : fs_2.length = 17 := by rw [efs_2, List.length_set]; exact hlen_h0
  refine lv_aload_n hx hb dX5_goOneTick_10 rfl (lv_at hl 0 rfl) ?_
  refine va_get (D := (dC, dI)) (ci := 5) (v := .int (nI (j + 1))) (C := RX5) (T := TX5) (N := 17) hx hb hts uB5 hown hK hP 0 rfl rfl 12 (by decide) (hts _ wm_54) (fun _ h9 => h9) hf12 dX5_goOneTick_11 ?_
  refine lv_bipush (v := 100) hx hb dX5_goOneTick_14 (by decide) ?_
  refine lv_irem hx hb dX5_goOneTick_16 (by decide) ?_
  refine lv_topi (fun x_3 ex_3 => ?_)
  refine lv_if_ne (tgt := 24) hx hb dX5_goOneTick_17 (by decide) (fun c_4 => ?_) (fun c_4 => ?_)
  · skip
    refine lv_aload_n hx hb dX5_goOneTick_24 rfl (lv_at hl 0 rfl) ?_
    refine va_get (D := (dC, dI)) (ci := 5) (v := .int (nI (j + 1))) (C := RX5) (T := TX5) (N := 17) hx hb hts uB5 hown hK hP 0 rfl rfl 12 (by decide) (hts _ wm_54) (fun _ h9 => h9) hf12 dX5_goOneTick_25 ?_
    refine lv_aload_n hx hb dX5_goOneTick_28 rfl (lv_at hl 0 rfl) ?_
    refine va_get (D := (dC, dI)) (ci := 5) (v := .int 10000) (C := RX5) (T := TX5) (N := 17) hx hb hts uB5 hown hK hP 0 rfl rfl 16 (by decide) (hts _ wm_58) (fun _ h9 => h9) hf16 dX5_goOneTick_29 ?_
    refine lv_icmp_le (tgt := 39) hx hb dX5_goOneTick_32 (by decide) (fun c_5 => ?_) (fun c_5 => ?_)
    · skip
      refine lv_aload_n hx hb dX5_goOneTick_39 rfl (lv_at hl 0 rfl) ?_
      refine va_get (D := (dC, dI)) (ci := 5) (v := .int 0) (C := RX5) (T := TX5) (N := 17) hx hb hts uB5 hown hK hP 0 rfl rfl 14 (by decide) (hts _ wm_50) (fun _ h9 => h9) hf14 dX5_goOneTick_40 ?_
      refine lv_if_eq (tgt := 62) hx hb dX5_goOneTick_43 (by decide) (fun _ => ?_) (fun h9 => absurd (by decide) h9)
      exact W.vret hx hb hr (fun t ht hW => ⟨⟨fs_2, rfl, efs_2, by show va_P (dC, dI) vwCl [(h0, .inr (5, fs_2))] t.heap; rw [ht]; exact hP⟩, hS.F ht⟩) hS.2.2 dX5_goOneTick_62
    · skip
      exact absurd (show nI (j + 1) ≤ nI 10000 from nI_le (by omega) (by decide)) c_5
  · skip
    refine lv_aload_n hx hb dX5_goOneTick_20 rfl (lv_at hl 0 rfl) ?_
    have hPc := hP.sub (ws' := [(h0, .inr (5, fs_2))]) [0] rfl
    refine k_Vv (ci := 5) (q0 := 0) (tc := []) ⟨hx, hb, hml, hown, hts⟩ (v_closeDay l dC dI h0 fs_2 hf8) 0 wm_59 wm_60 wm_61 wm_2 wm_62 (by decide +kernel) ⟨Nat.le_of_ble_eq_true rfl, Nat.le_of_ble_eq_true rfl⟩ hPc (hK.sub (tys' := []) [] rfl) rfl rfl rfl hl.1 rfl (Nat.le_of_ble_eq_true rfl) dX5_goOneTick_21 ⟨Nat.le_of_ble_eq_true rfl, Nat.le_of_ble_eq_true rfl⟩ hS hP (fun H locs hP hS => ?_)
    refine lv_aload_n hx hb dX5_goOneTick_24 rfl (lv_at hl 0 rfl) ?_
    refine va_get (D := (dC, dI)) (ci := 5) (v := .int (nI (j + 1))) (C := RX5) (T := TX5) (N := 17) hx hb hts uB5 hown hK hP 0 rfl rfl 12 (by decide) (hts _ wm_54) (fun _ h9 => h9) hf12 dX5_goOneTick_25 ?_
    refine lv_aload_n hx hb dX5_goOneTick_28 rfl (lv_at hl 0 rfl) ?_
    refine va_get (D := (dC, dI)) (ci := 5) (v := .int 10000) (C := RX5) (T := TX5) (N := 17) hx hb hts uB5 hown hK hP 0 rfl rfl 16 (by decide) (hts _ wm_58) (fun _ h9 => h9) hf16 dX5_goOneTick_29 ?_
    refine lv_icmp_le (tgt := 39) hx hb dX5_goOneTick_32 (by decide) (fun c_6 => ?_) (fun c_6 => ?_)
    · skip
      refine lv_aload_n hx hb dX5_goOneTick_39 rfl (lv_at hl 0 rfl) ?_
      refine va_get (D := (dC, dI)) (ci := 5) (v := .int 0) (C := RX5) (T := TX5) (N := 17) hx hb hts uB5 hown hK hP 0 rfl rfl 14 (by decide) (hts _ wm_50) (fun _ h9 => h9) hf14 dX5_goOneTick_40 ?_
      refine lv_if_eq (tgt := 62) hx hb dX5_goOneTick_43 (by decide) (fun _ => ?_) (fun h9 => absurd (by decide) h9)
      exact W.vret hx hb hr (fun t ht hW => ⟨⟨fs_2, rfl, efs_2, by show va_P (dC, dI) vwCl [(h0, .inr (5, fs_2))] t.heap; rw [ht]; exact hP⟩, hS.F ht⟩) hS.2.2 dX5_goOneTick_62
    · skip
      exact absurd (show nI (j + 1) ≤ nI 10000 from nI_le (by omega) (by decide)) c_6
set_option maxHeartbeats 4000000 in
set_option maxRecDepth 100000 in
theorem o_goesBy (l : Launch) (dC : Nat → ClassId) (dI : Nat → Nat → Nat) (sz : Nat) (h0 : Nat) (fs : List Value) (j : Nat) (hf25 : fs[25]? = some (.int 0)) (hf3 : fs[3]? = some (.int 0)) (hf1 : fs[1]? = some (.int (nI j))) (hlen_h0 : fs.length = 51)  : mOv l yX6_goesBy cX6_goesBy 6 0 0 0 (dC, dI) h0 6 fs sz [] (fun _ => True) [.ref h0] (fun fs1 => fs1 = fs.set 1 (.int (nI (j + 1)))) := by
  refine Met.ofW (cc := cX6_goesBy) (maxL := 6) (ret := none) (by decide) rfl ?_
  intro p e s m args below meth c s₁ B hml hv
  obtain ⟨rfl, hsz, hP, hK, hex⟩ := hv
  subst hsz
  have hx := B.exec
  have hb := B.bytes
  have hr := B.returns
  have hlocks := B.notSynchronized
  have hts0 := atoms_spec (ws := Cond.code yX6_goesBy cX6_goesBy 6 none :: lw_B) B.pre
  have hts : ∀ w ∈ lw_B, w.before _ s = true := fun w h => hts0 w (List.mem_cons_of_mem _ h)
  have hown : s.vm.findClass RX6 = some m.cls := findClass_of_methodNamed B.named
  have hD : va_D (aO h0 s.heap.size) [(h0, .inr (6, fs))] := ⟨fun i j p q h1 h2 _ => by have a1 := (List.getElem?_eq_some_iff.mp h1).1; have a2 := (List.getElem?_eq_some_iff.mp h2).1; simp at a1 a2; omega, fun k q h => by have a1 := (List.getElem?_eq_some_iff.mp h).1; simp at a1; subst a1; cases h; exact Or.inl rfl⟩
  generalize hAe : aO h0 s.heap.size = A at hD ⊢
  have hA : ∀ q : Nat, s.heap.size ≤ q → A q := fun q h => by rw [← hAe]; exact Or.inr h
  have hS : va_S A s.heap s.heap [] := va_S.rf
  have hl := lv_entry ([.ref h0]) (n := 6) (Nat.le_of_ble_eq_true rfl)
  rw [lg_entry_eq]
  generalize (lg_sl ([.ref h0]) ++ List.replicate (6 - (lg_sl ([.ref h0])).length) Slot.unset).toArray = ls at hl ⊢
  have hl : lv_has ls 6 [(0, .ref h0)] := hl
  refine lv_aload_n hx hb dX6_goesBy_0 rfl (lv_at hl 0 rfl) ?_
  refine lv_dup hx hb dX6_goesBy_1 rfl ?_
  refine va_get (D := (dC, dI)) (ci := 6) (v := .int (nI j)) (C := RX6) (T := TX6) (N := 51) hx hb hts uB6 hown hK hP 0 rfl rfl 1 (by decide) (hts _ wm_57) (fun _ h9 => h9) hf1 dX6_goesBy_2 ?_
  refine lv_iconst (v := 1) hx hb dX6_goesBy_5 (by decide) ?_
  refine lv_iadd hx hb dX6_goesBy_6 ?_
  refine lv_topi (fun x_1 ex_1 => ?_)
  obtain rfl : x_1 = nI (j + 1) := ex_1.trans (nI_1 j)
  refine va_put (D := (dC, dI)) (ci := 6) (v := .int (nI (j + 1))) (ty := .int) (C := RX6) (T := TX6) (N := 51) hx hb hts uB6 tyX6 tyX6_ok nmX6 hown hK hP hD hS 0 rfl rfl 1 (by decide) (hts _ wm_57) (fun _ h9 => h9) rfl (by decide +kernel) rfl rfl (by rw [hlen_h0]; decide) dX6_goesBy_7 (fun H locs hP hD hS => ?_)
  obtain ⟨fs_2, efs_2⟩ : ∃ z9, z9 = (fs).set 1 (.int (nI (j + 1))) := ⟨_, rfl⟩
  have hP : va_P (dC, dI) vwCl [(h0, .inr (6, fs_2))] H := by rw [efs_2]; exact hP
  have hD : va_D A [(h0, .inr (6, fs_2))] := by rw [efs_2]; exact hD
  have hf25 : fs_2[25]? = some (.int 0) := by rw [efs_2, List.getElem?_set_ne (by decide)]; exact hf25
  have hf3 : fs_2[3]? = some (.int 0) := by rw [efs_2, List.getElem?_set_ne (by decide)]; exact hf3
  have hf1 : fs_2[1]? = some (.int (nI (j + 1))) := by rw [efs_2]; exact List.getElem?_set_self (by rw [hlen_h0]; decide)
  have hlen_h0 : fs_2.length = 51 := by rw [efs_2, List.length_set]; exact hlen_h0
  refine lv_iconst (v := 0) hx hb dX6_goesBy_10 (by decide) ?_
  refine lv_istore_n (lv' := [(1, .int 0), (0, .ref h0)]) hx hb dX6_goesBy_11 rfl hl (by decide) rfl (fun ls hl => ?_)
  refine lv_iload_n hx hb dX6_goesBy_12 rfl (lv_at hl 0 rfl) ?_
  refine lv_aload_n hx hb dX6_goesBy_13 rfl (lv_at hl 1 rfl) ?_
  refine va_get (D := (dC, dI)) (ci := 6) (v := .int 0) (C := RX6) (T := TX6) (N := 51) hx hb hts uB6 hown hK hP 0 rfl rfl 25 (by decide) (hts _ wm_13) (fun _ h9 => h9) hf25 dX6_goesBy_14 ?_
  refine lv_icmp_ge (tgt := 63) hx hb dX6_goesBy_17 (by decide) (fun _ => ?_) (fun h9 => absurd (by decide) h9)
  refine lv_aload_n hx hb dX6_goesBy_63 rfl (lv_at hl 1 rfl) ?_
  refine va_get (D := (dC, dI)) (ci := 6) (v := .int 0) (C := RX6) (T := TX6) (N := 51) hx hb hts uB6 hown hK hP 0 rfl rfl 3 (by decide) (hts _ wm_52) (fun _ h9 => h9) hf3 dX6_goesBy_64 ?_
  refine lv_if_eq (tgt := 92) hx hb dX6_goesBy_67 (by decide) (fun _ => ?_) (fun h9 => absurd (by decide) h9)
  exact W.vret hx hb hr (fun t ht hW => ⟨⟨fs_2, rfl, efs_2, by show va_P (dC, dI) vwCl [(h0, .inr (6, fs_2))] t.heap; rw [ht]; exact hP⟩, hS.F ht⟩) hS.2.2 dX6_goesBy_92
end
section
set_option maxHeartbeats 4000000 in
set_option maxRecDepth 100000 in
theorem f_tick (l : Launch) (dC : Nat → ClassId) (dI : Nat → Nat → Nat) (sz : Nat) (h0 : Nat) (fs : List Value) (x : Int32) (hf7 : fs[7]? = some (.int 0)) (hf8 : fs[8]? = some (.int 0)) (hf14 : fs[14]? = some (.int 0)) (hf12 : fs[12]? = some (.int 0)) (hf16 : fs[16]? = some (.int 10000)) (hlen_h0 : fs.length = 17) : mFi l yX5_tick cX5_tick 3 2 0 0 (dC, dI) [(h0, .inr (5, fs))] sz [] (fun _ => True) [.ref h0, .int x] (fun r => r = if 1 ≤ x ∧ x ≤ 100 then x else (-1)) := by
  refine Met.ofW (cc := cX5_tick) (maxL := 3) (ret := some .int) (by decide) rfl ?_
  intro p e s m args below meth c s₁ B hml hv
  obtain ⟨rfl, hsz, hP, hK, hD0, hex⟩ := hv
  subst hsz
  have hx := B.exec
  have hb := B.bytes
  have hr := B.returns
  have hlocks := B.notSynchronized
  have hts0 := atoms_spec (ws := Cond.code yX5_tick cX5_tick 3 (some .int) :: lw_B) B.pre
  have hts : ∀ w ∈ lw_B, w.before _ s = true := fun w h => hts0 w (List.mem_cons_of_mem _ h)
  have hown : s.vm.findClass RX5 = some m.cls := findClass_of_methodNamed B.named
  have hD := hD0.self (sz := s.heap.size)
  generalize hAe : va_A [(h0, .inr (5, fs))] s.heap.size = A at hD ⊢
  have hA : ∀ q : Nat, s.heap.size ≤ q → A q := fun q h => by rw [← hAe]; exact Or.inr h
  have hS : va_S A s.heap s.heap [] := va_S.rf
  have hl := lv_entry ([.ref h0, .int x]) (n := 3) (Nat.le_of_ble_eq_true rfl)
  rw [lg_entry_eq]
  generalize (lg_sl ([.ref h0, .int x]) ++ List.replicate (3 - (lg_sl ([.ref h0, .int x])).length) Slot.unset).toArray = ls at hl ⊢
  have hl : lv_has ls 3 [(0, .ref h0), (1, .int x)] := hl
  refine lv_iload_n hx hb dX5_tick_0 rfl (lv_at hl 1 rfl) ?_
  refine lv_iconst (v := 1) hx hb dX5_tick_1 (by decide) ?_
  refine lv_bipush (v := 100) hx hb dX5_tick_2 (by decide) ?_
  refine k_S ⟨hx, hb, hml, hown, hts⟩ (c_isWithin l x 1 100) 3 wm_0 wm_1 wm_2 wm_3 (by decide +kernel) ⟨Nat.le_of_ble_eq_true rfl, Nat.le_of_ble_eq_true rfl⟩ rfl hl.1 rfl (Nat.le_of_ble_eq_true rfl) dX5_tick_4 ⟨Nat.le_of_ble_eq_true rfl, Nat.le_of_ble_eq_true rfl⟩ hS hP (fun r_1 H locs hpr_1 hP hS => ?_)
  refine lv_if_eq (tgt := 22) hx hb dX5_tick_7 (by decide) (fun c_2 => ?_) (fun c_2 => ?_)
  · skip
    have g_2 := k_ff hpr_1 c_2
    refine lv_iconst (v := (-1)) hx hb dX5_tick_22 (by decide) ?_
    exact W.iret (v := (-1)) hx hb hr (fun t ht hW => ⟨⟨(-1), (), rfl, (by simp only [Int32.lt_iff_toInt_lt, Int32.le_iff_toInt_le, ← Int32.toInt_inj, Int32.reduceToInt] at g_2; exact (if_neg (by simp only [Int32.lt_iff_toInt_lt, Int32.le_iff_toInt_le, ← Int32.toInt_inj, Int32.reduceToInt]; omega)).symm), trivial⟩, hS.F ht⟩) hS.2.2 dX5_tick_23
  · skip
    have g_2 := k_ft hpr_1 c_2
    obtain ⟨N, hN1, hN, rfl⟩ := k_r100 g_2
    refine lv_aload_n hx hb dX5_tick_10 rfl (lv_at hl 0 rfl) ?_
    refine va_get (D := (dC, dI)) (ci := 5) (v := .int 0) (C := RX5) (T := TX5) (N := 17) hx hb hts uB5 hown hK hP 0 rfl rfl 12 (by decide) (hts _ wm_54) (fun _ h9 => h9) hf12 dX5_tick_11 ?_
    refine lv_sipush (v := 10000) hx hb dX5_tick_14 (by decide) ?_
    refine lv_iload_n hx hb dX5_tick_17 rfl (lv_at hl 1 rfl) ?_
    refine lv_isub hx hb dX5_tick_18 ?_
    refine lv_topi (fun x_3 ex_3 => ?_)
    refine lv_icmp_le (tgt := 24) hx hb dX5_tick_19 (by decide) (fun c_4 => ?_) (fun c_4 => ?_)
    · skip
      refine lv_aload_n hx hb dX5_tick_24 rfl (lv_at hl 0 rfl) ?_
      have hPc := hP.sub (ws' := [(h0, .inr (5, fs))]) [0] rfl
      refine k_Vv (ci := 5) (q0 := 0) (tc := []) ⟨hx, hb, hml, hown, hts⟩ (v_closeTick l dC dI h0 fs hf8 hf7) 0 wm_63 wm_64 wm_65 wm_2 wm_66 (by decide +kernel) ⟨Nat.le_of_ble_eq_true rfl, Nat.le_of_ble_eq_true rfl⟩ hPc (hK.sub (tys' := []) [] rfl) rfl rfl rfl hl.1 rfl (Nat.le_of_ble_eq_true rfl) dX5_tick_25 ⟨Nat.le_of_ble_eq_true rfl, Nat.le_of_ble_eq_true rfl⟩ hS hP (fun H locs hP hS => ?_)
      refine lv_iconst (v := 0) hx hb dX5_tick_28 (by decide) ?_
      refine lv_istore_n (lv' := [(2, .int 0), (0, .ref h0), (1, .int (nI N))]) hx hb dX5_tick_29 rfl hl (by decide) rfl (fun ls hl => ?_)
      refine k_loop (fun n H locs ls => ∃ (j : Nat) (fs : List Value), j + n = N ∧ fs.length = 17 ∧ fs[7]? = some (.int 0) ∧ fs[8]? = some (.int 0) ∧ fs[14]? = some (.int 0) ∧ fs[12]? = some (.int (nI j)) ∧ fs[16]? = some (.int 10000) ∧ va_P (dC, dI) vwCl [(h0, .inr (5, fs))] H ∧ va_D A [(h0, .inr (5, fs))] ∧ va_S A s.heap H locs ∧ lv_has ls 3 [(0, .ref h0), (1, .int (nI N)), (2, .int (nI j))]) (fun H locs ls hI => ?_) (fun n H locs ls hI ih => ?_) N _ _ _ ⟨0, fs, by omega, hlen_h0, hf7, hf8, hf14, hf12, hf16, hP, hD, hS, lv_sub hl [1, 2, 0] rfl⟩
      · skip
        obtain ⟨j, fs, hjn, hlen_h0, hf7, hf8, hf14, hf12, hf16, hP, hD, hS, hl⟩ := hI
        refine lv_iload_n hx hb dX5_tick_30 rfl (lv_at hl 2 rfl) ?_
        refine lv_iload_n hx hb dX5_tick_31 rfl (lv_at hl 1 rfl) ?_
        refine lv_icmp_ge (tgt := 45) hx hb dX5_tick_32 (by decide) (fun c_5 => ?_) (fun c_5 => ?_)
        · skip
          refine lv_aload_n hx hb dX5_tick_45 rfl (lv_at hl 0 rfl) ?_
          refine va_get (D := (dC, dI)) (ci := 5) (v := .int (nI j)) (C := RX5) (T := TX5) (N := 17) hx hb hts uB5 hown hK hP 0 rfl rfl 12 (by decide) (hts _ wm_54) (fun _ h9 => h9) hf12 dX5_tick_46 ?_
          exact W.iret (v := nI j) hx hb hr (fun t ht hW => ⟨⟨nI j, (), rfl, ((congrArg nI (show j = N by omega)).trans (if_pos g_2).symm), trivial⟩, hS.F ht⟩) hS.2.2 dX5_tick_49
        · skip
          exact absurd (nI_le (by omega) (by omega)) c_5
      · skip
        obtain ⟨j, fs, hjn, hlen_h0, hf7, hf8, hf14, hf12, hf16, hP, hD, hS, hl⟩ := hI
        refine lv_iload_n hx hb dX5_tick_30 rfl (lv_at hl 2 rfl) ?_
        refine lv_iload_n hx hb dX5_tick_31 rfl (lv_at hl 1 rfl) ?_
        refine lv_icmp_ge (tgt := 45) hx hb dX5_tick_32 (by decide) (fun c_6 => ?_) (fun c_6 => ?_)
        · skip
          exact absurd c_6 (nI_ge (by omega) (by omega))
        · skip
          refine lv_aload_n hx hb dX5_tick_35 rfl (lv_at hl 0 rfl) ?_
          refine k_Ov (ci := 5) (q0 := 0) (tc := []) (ex := fun _ => True) ⟨hx, hb, hml, hown, hts⟩ (o_goOneTick l dC dI H.size h0 fs j hf8 hf14 hf12 hf16 hlen_h0 (by omega)) 0 wm_67 wm_68 wm_69 wm_2 wm_70 (by decide +kernel) ⟨Nat.le_of_ble_eq_true rfl, Nat.le_of_ble_eq_true rfl⟩ (hK.sub (tys' := []) [] rfl) exT rfl rfl rfl hl.1 rfl (Nat.le_of_ble_eq_true rfl) dX5_tick_36 ⟨Nat.le_of_ble_eq_true rfl, Nat.le_of_ble_eq_true rfl⟩ hP hD hS hA (fun fs_7 H locs efs_7 hP hD hS => ?_)
          have hP : va_P (dC, dI) vwCl [(h0, .inr (5, fs_7))] H := hP
          have hD : va_D A [(h0, .inr (5, fs_7))] := hD
          have hf7 : fs_7[7]? = some (.int 0) := by rw [efs_7, List.getElem?_set_ne (by decide)]; exact hf7
          have hf8 : fs_7[8]? = some (.int 0) := by rw [efs_7, List.getElem?_set_ne (by decide)]; exact hf8
          have hf14 : fs_7[14]? = some (.int 0) := by rw [efs_7, List.getElem?_set_ne (by decide)]; exact hf14
          have hf16 : fs_7[16]? = some (.int 10000) := by rw [efs_7, List.getElem?_set_ne (by decide)]; exact hf16
          have hf12 : fs_7[12]? = some (.int (nI (j + 1))) := by rw [efs_7]; exact List.getElem?_set_self (by rw [hlen_h0]; decide)
          have hlen_h0 : fs_7.length = 17 := by rw [efs_7, List.length_set]; exact hlen_h0
          obtain ⟨x_8, ex_8⟩ : ∃ y : Int32, y = (nI j) + 1 := ⟨_, rfl⟩
          refine lv_iinc (v := x_8) (lv' := [(2, .int x_8), (0, .ref h0), (1, .int (nI N))]) hx hb dX5_tick_39 hl (k := 2) rfl (by rw [ex_8]; rfl) (by decide) rfl (fun ls hl => ?_)
          refine lv_goto (tgt := 30) hx hb dX5_tick_42 (by decide) ?_
          obtain rfl : x_8 = nI (j + 1) := ex_8.trans (nI_1 j)
          exact ih _ _ _ ⟨j + 1, fs_7, by omega, hlen_h0, hf7, hf8, hf14, hf12, hf16, hP, hD, hS, lv_sub hl [1, 2, 0] rfl⟩
    · skip
      exact absurd (by rw [ex_3, show (10000 : Int32) = nI 10000 from rfl, pk_sub (by omega)]; exact nI_pos' (by omega)) c_4
set_option maxHeartbeats 4000000 in
set_option maxRecDepth 100000 in
theorem f_mtick (l : Launch) (dC : Nat → ClassId) (dI : Nat → Nat → Nat) (sz : Nat) (h0 : Nat) (fs : List Value) (x : Int32) (hf25 : fs[25]? = some (.int 0)) (hf3 : fs[3]? = some (.int 0)) (hf1 : fs[1]? = some (.int 0)) (hlen_h0 : fs.length = 51) : mFi l yX6_tick cX6_tick 3 2 0 0 (dC, dI) [(h0, .inr (6, fs))] sz [] (fun _ => True) [.ref h0, .int x] (fun r => r = if 1 ≤ x ∧ x ≤ 100 then x else (-1)) := by
  refine Met.ofW (cc := cX6_tick) (maxL := 3) (ret := some .int) (by decide) rfl ?_
  intro p e s m args below meth c s₁ B hml hv
  obtain ⟨rfl, hsz, hP, hK, hD0, hex⟩ := hv
  subst hsz
  have hx := B.exec
  have hb := B.bytes
  have hr := B.returns
  have hlocks := B.notSynchronized
  have hts0 := atoms_spec (ws := Cond.code yX6_tick cX6_tick 3 (some .int) :: lw_B) B.pre
  have hts : ∀ w ∈ lw_B, w.before _ s = true := fun w h => hts0 w (List.mem_cons_of_mem _ h)
  have hown : s.vm.findClass RX6 = some m.cls := findClass_of_methodNamed B.named
  have hD := hD0.self (sz := s.heap.size)
  generalize hAe : va_A [(h0, .inr (6, fs))] s.heap.size = A at hD ⊢
  have hA : ∀ q : Nat, s.heap.size ≤ q → A q := fun q h => by rw [← hAe]; exact Or.inr h
  have hS : va_S A s.heap s.heap [] := va_S.rf
  have hl := lv_entry ([.ref h0, .int x]) (n := 3) (Nat.le_of_ble_eq_true rfl)
  rw [lg_entry_eq]
  generalize (lg_sl ([.ref h0, .int x]) ++ List.replicate (3 - (lg_sl ([.ref h0, .int x])).length) Slot.unset).toArray = ls at hl ⊢
  have hl : lv_has ls 3 [(0, .ref h0), (1, .int x)] := hl
  refine lv_iload_n hx hb dX6_tick_0 rfl (lv_at hl 1 rfl) ?_
  refine lv_iconst (v := 1) hx hb dX6_tick_1 (by decide) ?_
  refine lv_bipush (v := 100) hx hb dX6_tick_2 (by decide) ?_
  refine k_S ⟨hx, hb, hml, hown, hts⟩ (c_in l x 1 100) 3 wm_4 wm_5 wm_6 wm_7 (by decide +kernel) ⟨Nat.le_of_ble_eq_true rfl, Nat.le_of_ble_eq_true rfl⟩ rfl hl.1 rfl (Nat.le_of_ble_eq_true rfl) dX6_tick_4 ⟨Nat.le_of_ble_eq_true rfl, Nat.le_of_ble_eq_true rfl⟩ hS hP (fun r_1 H locs hpr_1 hP hS => ?_)
  refine lv_if_eq (tgt := 22) hx hb dX6_tick_7 (by decide) (fun c_2 => ?_) (fun c_2 => ?_)
  · skip
    have g_2 := k_ff hpr_1 c_2
    refine lv_iconst (v := (-1)) hx hb dX6_tick_22 (by decide) ?_
    exact W.iret (v := (-1)) hx hb hr (fun t ht hW => ⟨⟨(-1), (), rfl, (by simp only [Int32.lt_iff_toInt_lt, Int32.le_iff_toInt_le, ← Int32.toInt_inj, Int32.reduceToInt] at g_2; exact (if_neg (by simp only [Int32.lt_iff_toInt_lt, Int32.le_iff_toInt_le, ← Int32.toInt_inj, Int32.reduceToInt]; omega)).symm), trivial⟩, hS.F ht⟩) hS.2.2 dX6_tick_23
  · skip
    have g_2 := k_ft hpr_1 c_2
    obtain ⟨N, hN1, hN, rfl⟩ := k_r100 g_2
    refine lv_aload_n hx hb dX6_tick_10 rfl (lv_at hl 0 rfl) ?_
    refine va_get (D := (dC, dI)) (ci := 6) (v := .int 0) (C := RX6) (T := TX6) (N := 51) hx hb hts uB6 hown hK hP 0 rfl rfl 1 (by decide) (hts _ wm_57) (fun _ h9 => h9) hf1 dX6_tick_11 ?_
    refine lv_iload_n hx hb dX6_tick_14 rfl (lv_at hl 1 rfl) ?_
    refine lv_iadd hx hb dX6_tick_15 ?_
    refine lv_topi (fun x_3 ex_3 => ?_)
    refine lv_sipush (v := 10000) hx hb dX6_tick_16 (by decide) ?_
    refine lv_icmp_le (tgt := 24) hx hb dX6_tick_19 (by decide) (fun c_4 => ?_) (fun c_4 => ?_)
    · skip
      refine lv_iconst (v := 0) hx hb dX6_tick_24 (by decide) ?_
      refine lv_istore_n (lv' := [(2, .int 0), (0, .ref h0), (1, .int (nI N))]) hx hb dX6_tick_25 rfl hl (by decide) rfl (fun ls hl => ?_)
      refine k_loop (fun n H locs ls => ∃ (j : Nat) (fs : List Value), j + n = N ∧ fs.length = 51 ∧ fs[25]? = some (.int 0) ∧ fs[3]? = some (.int 0) ∧ fs[1]? = some (.int (nI j)) ∧ va_P (dC, dI) vwCl [(h0, .inr (6, fs))] H ∧ va_D A [(h0, .inr (6, fs))] ∧ va_S A s.heap H locs ∧ lv_has ls 3 [(0, .ref h0), (1, .int (nI N)), (2, .int (nI j))]) (fun H locs ls hI => ?_) (fun n H locs ls hI ih => ?_) N _ _ _ ⟨0, fs, by omega, hlen_h0, hf25, hf3, hf1, hP, hD, hS, lv_sub hl [1, 2, 0] rfl⟩
      · skip
        obtain ⟨j, fs, hjn, hlen_h0, hf25, hf3, hf1, hP, hD, hS, hl⟩ := hI
        refine lv_iload_n hx hb dX6_tick_26 rfl (lv_at hl 2 rfl) ?_
        refine lv_iload_n hx hb dX6_tick_27 rfl (lv_at hl 1 rfl) ?_
        refine lv_icmp_ge (tgt := 41) hx hb dX6_tick_28 (by decide) (fun c_5 => ?_) (fun c_5 => ?_)
        · skip
          refine lv_aload_n hx hb dX6_tick_41 rfl (lv_at hl 0 rfl) ?_
          refine va_get (D := (dC, dI)) (ci := 6) (v := .int (nI j)) (C := RX6) (T := TX6) (N := 51) hx hb hts uB6 hown hK hP 0 rfl rfl 1 (by decide) (hts _ wm_57) (fun _ h9 => h9) hf1 dX6_tick_42 ?_
          exact W.iret (v := nI j) hx hb hr (fun t ht hW => ⟨⟨nI j, (), rfl, ((congrArg nI (show j = N by omega)).trans (if_pos g_2).symm), trivial⟩, hS.F ht⟩) hS.2.2 dX6_tick_45
        · skip
          exact absurd (nI_le (by omega) (by omega)) c_5
      · skip
        obtain ⟨j, fs, hjn, hlen_h0, hf25, hf3, hf1, hP, hD, hS, hl⟩ := hI
        refine lv_iload_n hx hb dX6_tick_26 rfl (lv_at hl 2 rfl) ?_
        refine lv_iload_n hx hb dX6_tick_27 rfl (lv_at hl 1 rfl) ?_
        refine lv_icmp_ge (tgt := 41) hx hb dX6_tick_28 (by decide) (fun c_6 => ?_) (fun c_6 => ?_)
        · skip
          exact absurd c_6 (nI_ge (by omega) (by omega))
        · skip
          refine lv_aload_n hx hb dX6_tick_31 rfl (lv_at hl 0 rfl) ?_
          refine k_Ov (ci := 6) (q0 := 0) (tc := []) (ex := fun _ => True) ⟨hx, hb, hml, hown, hts⟩ (o_goesBy l dC dI H.size h0 fs j hf25 hf3 hf1 hlen_h0) 0 wm_71 wm_72 wm_73 wm_6 wm_74 (by decide +kernel) ⟨Nat.le_of_ble_eq_true rfl, Nat.le_of_ble_eq_true rfl⟩ (hK.sub (tys' := []) [] rfl) exT rfl rfl rfl hl.1 rfl (Nat.le_of_ble_eq_true rfl) dX6_tick_32 ⟨Nat.le_of_ble_eq_true rfl, Nat.le_of_ble_eq_true rfl⟩ hP hD hS hA (fun fs_7 H locs efs_7 hP hD hS => ?_)
          have hP : va_P (dC, dI) vwCl [(h0, .inr (6, fs_7))] H := hP
          have hD : va_D A [(h0, .inr (6, fs_7))] := hD
          have hf25 : fs_7[25]? = some (.int 0) := by rw [efs_7, List.getElem?_set_ne (by decide)]; exact hf25
          have hf3 : fs_7[3]? = some (.int 0) := by rw [efs_7, List.getElem?_set_ne (by decide)]; exact hf3
          have hf1 : fs_7[1]? = some (.int (nI (j + 1))) := by rw [efs_7]; exact List.getElem?_set_self (by rw [hlen_h0]; decide)
          have hlen_h0 : fs_7.length = 51 := by rw [efs_7, List.length_set]; exact hlen_h0
          obtain ⟨x_8, ex_8⟩ : ∃ y : Int32, y = (nI j) + 1 := ⟨_, rfl⟩
          refine lv_iinc (v := x_8) (lv' := [(2, .int x_8), (0, .ref h0), (1, .int (nI N))]) hx hb dX6_tick_35 hl (k := 2) rfl (by rw [ex_8]; rfl) (by decide) rfl (fun ls hl => ?_)
          refine lv_goto (tgt := 26) hx hb dX6_tick_38 (by decide) ?_
          obtain rfl : x_8 = nI (j + 1) := ex_8.trans (nI_1 j)
          exact ih _ _ _ ⟨j + 1, fs_7, by omega, hlen_h0, hf25, hf3, hf1, hP, hD, hS, lv_sub hl [1, 2, 0] rfl⟩
    · skip
      exact absurd (by rw [ex_3, show (0 : Int32) = nI 0 from rfl, nI_add, show (10000 : Int32) = nI 10000 from rfl]; exact nI_le (by omega) (by decide)) c_4
end
section
set_option maxHeartbeats 4000000 in
set_option maxRecDepth 100000 in
theorem f_marks (l : Launch) (dC : Nat → ClassId) (dI : Nat → Nat → Nat) (sz : Nat) (h0 : Nat) (fs : List Value) (qm : Nat) (cI : ClassId) (x y : Int32) (hf3 : fs[3]? = some (.ref qm)) (hlen_h0 : fs.length = 17)  : mFi l yX5_marks cX5_marks 4 1 0 0 (dC, dI) [(h0, .inr (5, fs)), (qm, .inl (cI, 100, .inl (fun _ => 0)))] sz [(cI, .int)] (fun _ => True) [.ref h0, .int x, .int y] (fun r => r = if (0 ≤ x ∧ x ≤ 99) ∧ (0 ≤ y ∧ y ≤ 4095) then 0 else (-1)) := by
  refine Met.ofW (cc := cX5_marks) (maxL := 4) (ret := some .int) (by decide) rfl ?_
  intro p e s m args below meth c s₁ B hml hv
  obtain ⟨rfl, hsz, hP, hK, hD0, hex⟩ := hv
  subst hsz
  have hx := B.exec
  have hb := B.bytes
  have hr := B.returns
  have hlocks := B.notSynchronized
  have hts0 := atoms_spec (ws := Cond.code yX5_marks cX5_marks 4 (some .int) :: lw_B) B.pre
  have hts : ∀ w ∈ lw_B, w.before _ s = true := fun w h => hts0 w (List.mem_cons_of_mem _ h)
  have hown : s.vm.findClass RX5 = some m.cls := findClass_of_methodNamed B.named
  have hD := hD0.self (sz := s.heap.size)
  generalize hAe : va_A [(h0, .inr (5, fs)), (qm, .inl (cI, 100, .inl (fun _ => 0)))] s.heap.size = A at hD ⊢
  have hA : ∀ q : Nat, s.heap.size ≤ q → A q := fun q h => by rw [← hAe]; exact Or.inr h
  have hS : va_S A s.heap s.heap [] := va_S.rf
  have hl := lv_entry ([.ref h0, .int x, .int y]) (n := 4) (Nat.le_of_ble_eq_true rfl)
  rw [lg_entry_eq]
  generalize (lg_sl ([.ref h0, .int x, .int y]) ++ List.replicate (4 - (lg_sl ([.ref h0, .int x, .int y])).length) Slot.unset).toArray = ls at hl ⊢
  have hl : lv_has ls 4 [(0, .ref h0), (1, .int x), (2, .int y)] := hl
  refine lv_iload_n hx hb dX5_marks_0 rfl (lv_at hl 1 rfl) ?_
  refine k_S ⟨hx, hb, hml, hown, hts⟩ (c_isReader l x) 1 wm_22 wm_23 wm_2 wm_24 (by decide +kernel) ⟨Nat.le_of_ble_eq_true rfl, Nat.le_of_ble_eq_true rfl⟩ rfl hl.1 rfl (Nat.le_of_ble_eq_true rfl) dX5_marks_1 ⟨Nat.le_of_ble_eq_true rfl, Nat.le_of_ble_eq_true rfl⟩ hS hP (fun r_1 H locs hpr_1 hP hS => ?_)
  refine lv_if_eq (tgt := 18) hx hb dX5_marks_4 (by decide) (fun c_2 => ?_) (fun c_2 => ?_)
  · skip
    have g_2 := k_ff hpr_1 c_2
    refine lv_iconst (v := (-1)) hx hb dX5_marks_18 (by decide) ?_
    exact W.iret (v := (-1)) hx hb hr (fun t ht hW => ⟨⟨(-1), (), rfl, (by simp only [Int32.lt_iff_toInt_lt, Int32.le_iff_toInt_le, ← Int32.toInt_inj, Int32.reduceToInt] at g_2; exact (if_neg (by simp only [Int32.lt_iff_toInt_lt, Int32.le_iff_toInt_le, ← Int32.toInt_inj, Int32.reduceToInt]; omega)).symm), trivial⟩, hS.F ht⟩) hS.2.2 dX5_marks_19
  · skip
    have g_2 := k_ft hpr_1 c_2
    refine lv_iload_n hx hb dX5_marks_7 rfl (lv_at hl 2 rfl) ?_
    refine lv_iconst (v := 0) hx hb dX5_marks_8 (by decide) ?_
    refine lv_sipush (v := 4095) hx hb dX5_marks_9 (by decide) ?_
    refine k_S ⟨hx, hb, hml, hown, hts⟩ (c_isWithin l y 0 4095) 3 wm_0 wm_1 wm_2 wm_3 (by decide +kernel) ⟨Nat.le_of_ble_eq_true rfl, Nat.le_of_ble_eq_true rfl⟩ rfl hl.1 rfl (Nat.le_of_ble_eq_true rfl) dX5_marks_12 ⟨Nat.le_of_ble_eq_true rfl, Nat.le_of_ble_eq_true rfl⟩ hS hP (fun r_3 H locs hpr_3 hP hS => ?_)
    refine lv_if_ne (tgt := 20) hx hb dX5_marks_15 (by decide) (fun c_4 => ?_) (fun c_4 => ?_)
    · skip
      have g_4 := k_ft hpr_3 c_4
      refine lv_aload_n hx hb dX5_marks_20 rfl (lv_at hl 0 rfl) ?_
      refine va_get (D := (dC, dI)) (ci := 5) (v := .ref qm) (C := RX5) (T := TX5) (N := 17) hx hb hts uB5 hown hK hP 0 rfl rfl 3 (by decide) (hts _ wm_75) (fun _ h9 => h9) hf3 dX5_marks_21 ?_
      refine lv_iload_n hx hb dX5_marks_24 rfl (lv_at hl 1 rfl) ?_
      refine va_iald hx hb hK hP 1 0 rfl rfl (vp_in_iff.mpr (by simp only [Int32.lt_iff_toInt_lt, Int32.le_iff_toInt_le, ← Int32.toInt_inj, Int32.reduceToInt] at g_2 g_4; omega)) dX5_marks_25 ?_
      refine lv_topi (fun x_5 ex_5 => ?_)
      obtain rfl : x_5 = 0 := ex_5
      refine lv_istore_n (lv' := [(3, .int 0), (0, .ref h0), (1, .int x), (2, .int y)]) hx hb dX5_marks_26 rfl hl (by decide) rfl (fun ls hl => ?_)
      refine lv_aload_n hx hb dX5_marks_27 rfl (lv_at hl 1 rfl) ?_
      refine va_get (D := (dC, dI)) (ci := 5) (v := .ref qm) (C := RX5) (T := TX5) (N := 17) hx hb hts uB5 hown hK hP 0 rfl rfl 3 (by decide) (hts _ wm_75) (fun _ h9 => h9) hf3 dX5_marks_28 ?_
      refine lv_iload_n hx hb dX5_marks_31 rfl (lv_at hl 2 rfl) ?_
      refine lv_iload_n hx hb dX5_marks_32 rfl (lv_at hl 3 rfl) ?_
      refine va_iast hx hb hK hP hD hS 1 0 rfl rfl (vp_in_iff.mpr (by simp only [Int32.lt_iff_toInt_lt, Int32.le_iff_toInt_le, ← Int32.toInt_inj, Int32.reduceToInt] at g_2 g_4; omega)) dX5_marks_33 (fun H locs hP hD hS => ?_)
      obtain ⟨f_6, ef_6⟩ : ∃ z9, z9 = upd (fun _ => 0) (Int32.toNatClampNeg x) y := ⟨_, rfl⟩
      have hP : va_P (dC, dI) vwCl [(h0, .inr (5, fs)), (qm, .inl (cI, 100, .inl f_6))] H := by rw [ef_6]; exact hP
      have hD : va_D A [(h0, .inr (5, fs)), (qm, .inl (cI, 100, .inl f_6))] := by rw [ef_6]; exact hD
      refine lv_iload_n hx hb dX5_marks_34 rfl (lv_at hl 0 rfl) ?_
      exact W.iret (v := 0) hx hb hr (fun t ht hW => ⟨⟨0, (), rfl, (by simp only [Int32.lt_iff_toInt_lt, Int32.le_iff_toInt_le, ← Int32.toInt_inj, Int32.reduceToInt] at g_2 g_4; exact (if_pos (by simp only [Int32.lt_iff_toInt_lt, Int32.le_iff_toInt_le, ← Int32.toInt_inj, Int32.reduceToInt]; omega)).symm), trivial⟩, hS.F ht⟩) hS.2.2 dX5_marks_35
    · skip
      have g_4 := k_ff hpr_3 c_4
      refine lv_iconst (v := (-1)) hx hb dX5_marks_18 (by decide) ?_
      exact W.iret (v := (-1)) hx hb hr (fun t ht hW => ⟨⟨(-1), (), rfl, (by simp only [Int32.lt_iff_toInt_lt, Int32.le_iff_toInt_le, ← Int32.toInt_inj, Int32.reduceToInt] at g_2 g_4; exact (if_neg (by simp only [Int32.lt_iff_toInt_lt, Int32.le_iff_toInt_le, ← Int32.toInt_inj, Int32.reduceToInt]; omega)).symm), trivial⟩, hS.F ht⟩) hS.2.2 dX5_marks_19
set_option maxHeartbeats 4000000 in
set_option maxRecDepth 100000 in
theorem f_mmarks (l : Launch) (dC : Nat → ClassId) (dI : Nat → Nat → Nat) (sz : Nat) (h0 : Nat) (fs : List Value) (qm : Nat) (cI : ClassId) (x y : Int32) (hf8 : fs[8]? = some (.ref qm)) (hlen_h0 : fs.length = 51)  : mFi l yX6_marks cX6_marks 4 2 0 0 (dC, dI) [(h0, .inr (6, fs)), (qm, .inl (cI, 100, .inl (fun _ => 0)))] sz [(cI, .int)] (fun _ => True) [.ref h0, .int x, .int y] (fun r => r = if (0 ≤ x ∧ x ≤ 99) ∧ (0 ≤ y ∧ y ≤ 4095) then 0 else (-1)) := by
  refine Met.ofW (cc := cX6_marks) (maxL := 4) (ret := some .int) (by decide) rfl ?_
  intro p e s m args below meth c s₁ B hml hv
  obtain ⟨rfl, hsz, hP, hK, hD0, hex⟩ := hv
  subst hsz
  have hx := B.exec
  have hb := B.bytes
  have hr := B.returns
  have hlocks := B.notSynchronized
  have hts0 := atoms_spec (ws := Cond.code yX6_marks cX6_marks 4 (some .int) :: lw_B) B.pre
  have hts : ∀ w ∈ lw_B, w.before _ s = true := fun w h => hts0 w (List.mem_cons_of_mem _ h)
  have hown : s.vm.findClass RX6 = some m.cls := findClass_of_methodNamed B.named
  have hD := hD0.self (sz := s.heap.size)
  generalize hAe : va_A [(h0, .inr (6, fs)), (qm, .inl (cI, 100, .inl (fun _ => 0)))] s.heap.size = A at hD ⊢
  have hA : ∀ q : Nat, s.heap.size ≤ q → A q := fun q h => by rw [← hAe]; exact Or.inr h
  have hS : va_S A s.heap s.heap [] := va_S.rf
  have hl := lv_entry ([.ref h0, .int x, .int y]) (n := 4) (Nat.le_of_ble_eq_true rfl)
  rw [lg_entry_eq]
  generalize (lg_sl ([.ref h0, .int x, .int y]) ++ List.replicate (4 - (lg_sl ([.ref h0, .int x, .int y])).length) Slot.unset).toArray = ls at hl ⊢
  have hl : lv_has ls 4 [(0, .ref h0), (1, .int x), (2, .int y)] := hl
  refine lv_iload_n hx hb dX6_marks_0 rfl (lv_at hl 1 rfl) ?_
  refine k_S ⟨hx, hb, hml, hown, hts⟩ (c_mReader l x) 1 wm_29 wm_30 wm_6 wm_31 (by decide +kernel) ⟨Nat.le_of_ble_eq_true rfl, Nat.le_of_ble_eq_true rfl⟩ rfl hl.1 rfl (Nat.le_of_ble_eq_true rfl) dX6_marks_1 ⟨Nat.le_of_ble_eq_true rfl, Nat.le_of_ble_eq_true rfl⟩ hS hP (fun r_1 H locs hpr_1 hP hS => ?_)
  refine lv_if_eq (tgt := 18) hx hb dX6_marks_4 (by decide) (fun c_2 => ?_) (fun c_2 => ?_)
  · skip
    have g_2 := k_ff hpr_1 c_2
    refine lv_iconst (v := (-1)) hx hb dX6_marks_18 (by decide) ?_
    exact W.iret (v := (-1)) hx hb hr (fun t ht hW => ⟨⟨(-1), (), rfl, (by simp only [Int32.lt_iff_toInt_lt, Int32.le_iff_toInt_le, ← Int32.toInt_inj, Int32.reduceToInt] at g_2; exact (if_neg (by simp only [Int32.lt_iff_toInt_lt, Int32.le_iff_toInt_le, ← Int32.toInt_inj, Int32.reduceToInt]; omega)).symm), trivial⟩, hS.F ht⟩) hS.2.2 dX6_marks_19
  · skip
    have g_2 := k_ft hpr_1 c_2
    refine lv_iload_n hx hb dX6_marks_7 rfl (lv_at hl 2 rfl) ?_
    refine lv_iconst (v := 0) hx hb dX6_marks_8 (by decide) ?_
    refine lv_sipush (v := 4095) hx hb dX6_marks_9 (by decide) ?_
    refine k_S ⟨hx, hb, hml, hown, hts⟩ (c_in l y 0 4095) 3 wm_4 wm_5 wm_6 wm_7 (by decide +kernel) ⟨Nat.le_of_ble_eq_true rfl, Nat.le_of_ble_eq_true rfl⟩ rfl hl.1 rfl (Nat.le_of_ble_eq_true rfl) dX6_marks_12 ⟨Nat.le_of_ble_eq_true rfl, Nat.le_of_ble_eq_true rfl⟩ hS hP (fun r_3 H locs hpr_3 hP hS => ?_)
    refine lv_if_ne (tgt := 20) hx hb dX6_marks_15 (by decide) (fun c_4 => ?_) (fun c_4 => ?_)
    · skip
      have g_4 := k_ft hpr_3 c_4
      refine lv_aload_n hx hb dX6_marks_20 rfl (lv_at hl 0 rfl) ?_
      refine va_get (D := (dC, dI)) (ci := 6) (v := .ref qm) (C := RX6) (T := TX6) (N := 51) hx hb hts uB6 hown hK hP 0 rfl rfl 8 (by decide) (hts _ wm_76) (fun _ h9 => h9) hf8 dX6_marks_21 ?_
      refine lv_iload_n hx hb dX6_marks_24 rfl (lv_at hl 1 rfl) ?_
      refine va_iald hx hb hK hP 1 0 rfl rfl (vp_in_iff.mpr (by simp only [Int32.lt_iff_toInt_lt, Int32.le_iff_toInt_le, ← Int32.toInt_inj, Int32.reduceToInt] at g_2 g_4; omega)) dX6_marks_25 ?_
      refine lv_topi (fun x_5 ex_5 => ?_)
      obtain rfl : x_5 = 0 := ex_5
      refine lv_istore_n (lv' := [(3, .int 0), (0, .ref h0), (1, .int x), (2, .int y)]) hx hb dX6_marks_26 rfl hl (by decide) rfl (fun ls hl => ?_)
      refine lv_aload_n hx hb dX6_marks_27 rfl (lv_at hl 1 rfl) ?_
      refine va_get (D := (dC, dI)) (ci := 6) (v := .ref qm) (C := RX6) (T := TX6) (N := 51) hx hb hts uB6 hown hK hP 0 rfl rfl 8 (by decide) (hts _ wm_76) (fun _ h9 => h9) hf8 dX6_marks_28 ?_
      refine lv_iload_n hx hb dX6_marks_31 rfl (lv_at hl 2 rfl) ?_
      refine lv_iload_n hx hb dX6_marks_32 rfl (lv_at hl 3 rfl) ?_
      refine va_iast hx hb hK hP hD hS 1 0 rfl rfl (vp_in_iff.mpr (by simp only [Int32.lt_iff_toInt_lt, Int32.le_iff_toInt_le, ← Int32.toInt_inj, Int32.reduceToInt] at g_2 g_4; omega)) dX6_marks_33 (fun H locs hP hD hS => ?_)
      obtain ⟨f_6, ef_6⟩ : ∃ z9, z9 = upd (fun _ => 0) (Int32.toNatClampNeg x) y := ⟨_, rfl⟩
      have hP : va_P (dC, dI) vwCl [(h0, .inr (6, fs)), (qm, .inl (cI, 100, .inl f_6))] H := by rw [ef_6]; exact hP
      have hD : va_D A [(h0, .inr (6, fs)), (qm, .inl (cI, 100, .inl f_6))] := by rw [ef_6]; exact hD
      refine lv_iload_n hx hb dX6_marks_34 rfl (lv_at hl 0 rfl) ?_
      exact W.iret (v := 0) hx hb hr (fun t ht hW => ⟨⟨0, (), rfl, (by simp only [Int32.lt_iff_toInt_lt, Int32.le_iff_toInt_le, ← Int32.toInt_inj, Int32.reduceToInt] at g_2 g_4; exact (if_pos (by simp only [Int32.lt_iff_toInt_lt, Int32.le_iff_toInt_le, ← Int32.toInt_inj, Int32.reduceToInt]; omega)).symm), trivial⟩, hS.F ht⟩) hS.2.2 dX6_marks_35
    · skip
      have g_4 := k_ff hpr_3 c_4
      refine lv_iconst (v := (-1)) hx hb dX6_marks_18 (by decide) ?_
      exact W.iret (v := (-1)) hx hb hr (fun t ht hW => ⟨⟨(-1), (), rfl, (by simp only [Int32.lt_iff_toInt_lt, Int32.le_iff_toInt_le, ← Int32.toInt_inj, Int32.reduceToInt] at g_2 g_4; exact (if_neg (by simp only [Int32.lt_iff_toInt_lt, Int32.le_iff_toInt_le, ← Int32.toInt_inj, Int32.reduceToInt]; omega)).symm), trivial⟩, hS.F ht⟩) hS.2.2 dX6_marks_19
end
section
set_option maxHeartbeats 4000000 in
set_option maxRecDepth 100000 in
theorem c_placesIn (l : Launch) (x : Int32) : mS l yX5_placesIn cX5_placesIn 3 .int 1 [.int x] (fun r => (x ≤ 0 → r = 0) ∧ (∀ X : Nat, X < 2 ^ 31 → x = nI X → r = nI (plc 4 0 X))) := by
  refine Met.ofW (cc := cX5_placesIn) (maxL := 3) (ret := some .int) (by decide) rfl ?_
  intro p e s m args below meth c s₁ B hml hv
  obtain ⟨rfl, -⟩ := hv
  have hx := B.exec
  have hb := B.bytes
  have hr := B.returns
  have hlocks := B.notSynchronized
  have hts0 := atoms_spec (ws := Cond.code yX5_placesIn cX5_placesIn 3 (some .int) :: lw_B) B.pre
  have hts : ∀ w ∈ lw_B, w.before _ s = true := fun w h => hts0 w (List.mem_cons_of_mem _ h)
  have hown : s.vm.findClass RX5 = some m.cls := findClass_of_methodNamed B.named
  have hS : va_S (fun _ => False) s.heap s.heap [] := va_S.rf
  have hP : va_P (fun _ => 0, fun _ _ => 0) vwCl [] s.heap := fun k q h => by simp at h
  have hl := lv_entry ([.int x]) (n := 3) (Nat.le_of_ble_eq_true rfl)
  rw [lg_entry_eq]
  generalize (lg_sl ([.int x]) ++ List.replicate (3 - (lg_sl ([.int x])).length) Slot.unset).toArray = ls at hl ⊢
  have hl : lv_has ls 3 [(0, .int x)] := hl
  refine lv_iconst (v := 0) hx hb dX5_placesIn_0 (by decide) ?_
  refine lv_istore_n (lv' := [(1, .int 0), (0, .int x)]) hx hb dX5_placesIn_1 rfl hl (by decide) rfl (fun ls hl => ?_)
  refine lv_iload_n hx hb dX5_placesIn_2 rfl (lv_at hl 1 rfl) ?_
  refine lv_istore_n (lv' := [(2, .int x), (1, .int 0), (0, .int x)]) hx hb dX5_placesIn_3 rfl hl (by decide) rfl (fun ls hl => ?_)
  by_cases hneg : x ≤ 0
  · skip
    refine lv_iload_n hx hb dX5_placesIn_4 rfl (lv_at hl 0 rfl) ?_
    refine lv_if_le (tgt := 41) hx hb dX5_placesIn_5 (by decide) (fun c_1 => ?_) (fun c_1 => ?_)
    · skip
      refine lv_iload_n hx hb dX5_placesIn_41 rfl (lv_at hl 0 rfl) ?_
      refine lv_if_ne (tgt := 49) hx hb dX5_placesIn_42 (by decide) (fun c_2 => ?_) (fun c_2 => ?_)
      · skip
        refine lv_iconst (v := 0) hx hb dX5_placesIn_49 (by decide) ?_
        exact W.iret (v := 0) hx hb hr (fun t ht hW => ⟨⟨0, (), rfl, ⟨fun _ => rfl, fun X hX e9 => by subst e9; rw [show X = 0 from (by rcases Nat.eq_zero_or_pos X with q | q; exact q; exact absurd hneg (nI_nle q hX))]; rfl⟩, trivial⟩, hS.F ht⟩) hS.2.2 dX5_placesIn_50
      · skip
        refine lv_iload_n hx hb dX5_placesIn_45 rfl (lv_at hl 1 rfl) ?_
        refine lv_goto (tgt := 50) hx hb dX5_placesIn_46 (by decide) ?_
        exact W.iret (v := 0) hx hb hr (fun t ht hW => ⟨⟨0, (), rfl, ⟨fun _ => rfl, fun X hX e9 => by subst e9; rw [show X = 0 from (by rcases Nat.eq_zero_or_pos X with q | q; exact q; exact absurd hneg (nI_nle q hX))]; rfl⟩, trivial⟩, hS.F ht⟩) hS.2.2 dX5_placesIn_50
    · skip
      exact absurd hneg c_1
  · skip
    obtain ⟨X, hX, hX0, rfl⟩ := k_pos hneg
    refine k_lx (pcx := 41) (fun r H locs ls => ∃ k : Nat, k ≤ 4 ∧ r < 2 ^ 31 ∧ plc (4 - k) k r = plc 4 0 X ∧ va_P (fun _ => 0, fun _ _ => 0) vwCl [] H ∧ va_S (fun _ => False) s.heap H locs ∧ lv_has ls 3 [(0, .int (nI X)), (1, .int (nI k)), (2, .int (nI r))]) (fun H locs ls => ∃ r k : Nat, k ≤ 4 ∧ r < 2 ^ 31 ∧ (if r = 0 then k else 0) = plc 4 0 X ∧ va_P (fun _ => 0, fun _ _ => 0) vwCl [] H ∧ va_S (fun _ => False) s.heap H locs ∧ lv_has ls 3 [(0, .int (nI X)), (1, .int (nI k)), (2, .int (nI r))]) (fun H locs ls hI => ?_) (fun r H locs ls hI hE ih => ?_) X _ _ _ ⟨0, by omega, hX, rfl, hP, hS, lv_sub hl [2, 1, 0] rfl⟩
    · skip
      obtain ⟨r, k, hk, hr31, hv9, hP, hS, hl⟩ := hI
      refine lv_iload_n hx hb dX5_placesIn_41 rfl (lv_at hl 2 rfl) ?_
      refine lv_if_ne (tgt := 49) hx hb dX5_placesIn_42 (by decide) (fun c_3 => ?_) (fun c_3 => ?_)
      · skip
        refine lv_iconst (v := 0) hx hb dX5_placesIn_49 (by decide) ?_
        exact W.iret (v := 0) hx hb hr (fun t ht hW => ⟨⟨0, (), rfl, ⟨fun q => absurd q hneg, fun Y hY e9 => by rw [← (nI_eq hX hY).mp e9]; exact (show _ = nI (plc 4 0 X) from by rw [← hv9, if_neg (fun q => c_3 (by rw [q]; rfl))]; rfl)⟩, trivial⟩, hS.F ht⟩) hS.2.2 dX5_placesIn_50
      · skip
        refine lv_iload_n hx hb dX5_placesIn_45 rfl (lv_at hl 1 rfl) ?_
        refine lv_goto (tgt := 50) hx hb dX5_placesIn_46 (by decide) ?_
        exact W.iret (v := nI k) hx hb hr (fun t ht hW => ⟨⟨nI k, (), rfl, ⟨fun q => absurd q hneg, fun Y hY e9 => by rw [← (nI_eq hX hY).mp e9]; exact (show _ = nI (plc 4 0 X) from by rw [← hv9, if_pos ((nI_eq hr31 (by decide)).mp c_3)])⟩, trivial⟩, hS.F ht⟩) hS.2.2 dX5_placesIn_50
    · skip
      obtain ⟨k, hk, hr31, hv9, hP, hS, hl⟩ := hI
      refine lv_iload_n hx hb dX5_placesIn_4 rfl (lv_at hl 2 rfl) ?_
      refine lv_if_le (tgt := 41) hx hb dX5_placesIn_5 (by decide) (fun c_4 => ?_) (fun c_4 => ?_)
      · skip
        exact hE _ _ _ ⟨r, k, hk, hr31, by rw [← hv9]; have q : r = 0 := by { rcases Nat.eq_zero_or_pos r with q | q; exact q; exact absurd c_4 (nI_nle q hr31) }; subst q; rw [if_pos rfl]; cases (4 - k) <;> simp [plc], hP, hS, lv_sub hl [0, 1, 2] rfl⟩
      · skip
        have hr0 : ¬ r = 0 := fun q => c_4 (by rw [q]; decide)
        refine lv_iload_n hx hb dX5_placesIn_8 rfl (lv_at hl 1 rfl) ?_
        refine lv_iconst (v := 4) hx hb dX5_placesIn_9 (by decide) ?_
        refine lv_icmp_ge (tgt := 41) hx hb dX5_placesIn_10 (by decide) (fun c_5 => ?_) (fun c_5 => ?_)
        · skip
          have hk4 : k = 4 := by have := (nI_leI (a := 4) (b := k) (by decide) (by omega)).mp c_5; omega
          exact hE _ _ _ ⟨r, k, hk, hr31, by rw [← hv9, hk4, if_neg hr0]; show 0 = plc 0 4 r; rw [plc, if_neg hr0], hP, hS, lv_sub hl [0, 1, 2] rfl⟩
        · skip
          have hk4 : k < 4 := by rcases Nat.lt_or_ge k 4 with q | q; exact q; exact absurd (nI_le q (by omega)) c_5
          refine lv_iload_n hx hb dX5_placesIn_13 rfl (lv_at hl 2 rfl) ?_
          refine lv_sipush (v := 128) hx hb dX5_placesIn_14 (by decide) ?_
          refine lv_irem hx hb dX5_placesIn_17 (by decide) ?_
          refine lv_topi (fun x_6 ex_6 => ?_)
          obtain rfl : x_6 = nI (r % 128) := ex_6.trans (k_128r hr31)
          refine lv_iconst (v := 1) hx hb dX5_placesIn_18 (by decide) ?_
          refine lv_bipush (v := 100) hx hb dX5_placesIn_19 (by decide) ?_
          refine k_S ⟨hx, hb, hml, hown, hts⟩ (c_isWithin l (nI (r % 128)) 1 100) 3 wm_0 wm_1 wm_2 wm_3 (by decide +kernel) ⟨Nat.le_of_ble_eq_true rfl, Nat.le_of_ble_eq_true rfl⟩ rfl hl.1 rfl (Nat.le_of_ble_eq_true rfl) dX5_placesIn_21 ⟨Nat.le_of_ble_eq_true rfl, Nat.le_of_ble_eq_true rfl⟩ hS hP (fun r_7 H locs hpr_7 hP hS => ?_)
          refine lv_if_ne (tgt := 29) hx hb dX5_placesIn_24 (by decide) (fun c_8 => ?_) (fun c_8 => ?_)
          · skip
            have g_8 := k_ft hpr_7 c_8
            refine lv_iload_n hx hb dX5_placesIn_29 rfl (lv_at hl 2 rfl) ?_
            refine lv_sipush (v := 128) hx hb dX5_placesIn_30 (by decide) ?_
            refine lv_idiv hx hb dX5_placesIn_33 (by decide) ?_
            refine lv_topi (fun x_9 ex_9 => ?_)
            obtain rfl : x_9 = nI (r / 128) := ex_9.trans (k_128d hr31)
            refine lv_istore_n (lv' := [(2, .int (nI (r / 128))), (0, .int (nI X)), (1, .int (nI k))]) hx hb dX5_placesIn_34 rfl hl (by decide) rfl (fun ls hl => ?_)
            obtain ⟨x_10, ex_10⟩ : ∃ y : Int32, y = (nI k) + 1 := ⟨_, rfl⟩
            refine lv_iinc (v := x_10) (lv' := [(1, .int x_10), (2, .int (nI (r / 128))), (0, .int (nI X))]) hx hb dX5_placesIn_35 hl (k := 2) rfl (by rw [ex_10]; rfl) (by decide) rfl (fun ls hl => ?_)
            refine lv_goto (tgt := 4) hx hb dX5_placesIn_38 (by decide) ?_
            obtain rfl : x_10 = nI (k + 1) := ex_10.trans (nI_1 k)
            have hgY : 1 ≤ r % 128 ∧ r % 128 ≤ 100 := (k_rg (by omega) (by decide) (by decide)).mp g_8
            exact ih (r / 128) (by omega) _ _ _ ⟨k + 1, by omega, by omega, by rw [← hv9, show 4 - k = (4 - (k + 1)) + 1 by omega, plc, if_neg hr0, if_pos hgY], hP, hS, lv_sub hl [2, 0, 1] rfl⟩
          · skip
            have g_8 := k_ff hpr_7 c_8
            refine lv_iconst (v := 0) hx hb dX5_placesIn_27 (by decide) ?_
            have hgN : ¬ (1 ≤ r % 128 ∧ r % 128 ≤ 100) := fun q => g_8 ((k_rg (by omega) (by decide) (by decide)).mpr q)
            have hv0 : plc 4 0 X = 0 := by rw [← hv9, show 4 - k = (3 - k) + 1 by omega, plc, if_neg hr0, if_neg hgN]
            exact W.iret (v := 0) hx hb hr (fun t ht hW => ⟨⟨0, (), rfl, ⟨fun q => absurd q hneg, fun Y hY e9 => by rw [← (nI_eq hX hY).mp e9, hv0]; rfl⟩, trivial⟩, hS.F ht⟩) hS.2.2 dX5_placesIn_28
end
section
set_option maxHeartbeats 4000000 in
set_option maxRecDepth 100000 in
theorem o_Page (l : Launch) (dC : Nat → ClassId) (dI : Nat → Nat → Nat) (sz : Nat) (h0 : Nat) (fs : List Value) (x : Int32) (k : Nat) (hlen_h0 : fs.length = 4) (hk1 : 1 ≤ k) (hk4 : k ≤ 4) : mOv l yX2_init cX2_init 5 2 1 4 (dC, dI) h0 2 fs sz [] (fun _ => True) [.ref h0, .int x, .int (nI k)] (fun _ => True) := by
  refine Met.ofW (cc := cX2_init) (maxL := 5) (ret := none) (by decide) rfl ?_
  intro p e s m args below meth c s₁ B hml hv
  obtain ⟨rfl, hsz, hP, hK, hex⟩ := hv
  subst hsz
  have hx := B.exec
  have hb := B.bytes
  have hr := B.returns
  have hlocks := B.notSynchronized
  have hts0 := atoms_spec (ws := Cond.code yX2_init cX2_init 5 none :: lw_B) B.pre
  have hts : ∀ w ∈ lw_B, w.before _ s = true := fun w h => hts0 w (List.mem_cons_of_mem _ h)
  have hown : s.vm.findClass RX2 = some m.cls := findClass_of_methodNamed B.named
  have hin : meth.name = "<init>" := (name_of_methodNamed B.named B.method).1
  have hD : va_D (aO h0 s.heap.size) [(h0, .inr (2, fs))] := ⟨fun i j p q h1 h2 _ => by have a1 := (List.getElem?_eq_some_iff.mp h1).1; have a2 := (List.getElem?_eq_some_iff.mp h2).1; simp at a1 a2; omega, fun k q h => by have a1 := (List.getElem?_eq_some_iff.mp h).1; simp at a1; subst a1; cases h; exact Or.inl rfl⟩
  generalize hAe : aO h0 s.heap.size = A at hD ⊢
  have hA : ∀ q : Nat, s.heap.size ≤ q → A q := fun q h => by rw [← hAe]; exact Or.inr h
  have hS : va_S A s.heap s.heap [] := va_S.rf
  have hl := lv_entry ([.ref h0, .int x, .int (nI k)]) (n := 5) (Nat.le_of_ble_eq_true rfl)
  rw [lg_entry_eq]
  generalize (lg_sl ([.ref h0, .int x, .int (nI k)]) ++ List.replicate (5 - (lg_sl ([.ref h0, .int x, .int (nI k)])).length) Slot.unset).toArray = ls at hl ⊢
  have hl : lv_has ls 5 [(0, .ref h0), (1, .int x), (2, .int (nI k))] := hl
  refine lv_aload_n hx hb dX2_init_0 rfl (lv_at hl 0 rfl) ?_
  refine W.objInit hx hb hown (hts _ wm_77) (hts _ wm_78) (hts _ wm_79) rfl (by rw [hml]; exact hl.1) rfl dX2_init_1 (Nat.le_of_ble_eq_true rfl) (Nat.le_of_ble_eq_true rfl) ?_
  refine W.eq (g2 := F0 m 4 ls []) rfl ?_
  refine lv_aload_n hx hb dX2_init_4 rfl (lv_at hl 0 rfl) ?_
  refine lv_iconst (v := 4) hx hb dX2_init_5 (by decide) ?_
  refine va_newa (atype := .int) (N' := 4) (a0 := (4, .inl (fun _ => 0))) hx hb (hts _ wm_80) rfl hK hP hD hS hA (fun _ => rfl) (by decide) rfl (Nat.le_of_ble_eq_true rfl) (Nat.le_of_ble_eq_true rfl) (Nat.le_of_ble_eq_true rfl) dX2_init_6 (fun q_1 cA_2 H hK hP hD hS => ?_)
  have hK : va_K (dC, dI) vwCl [(cA_2, .int)] s := hK
  have hP : va_P (dC, dI) vwCl [(h0, .inr (2, fs)), (q_1, .inl (cA_2, 4, .inl (fun _ => 0)))] H := hP
  have hD : va_D A [(h0, .inr (2, fs)), (q_1, .inl (cA_2, 4, .inl (fun _ => 0)))] := hD
  refine va_putF (D := (dC, dI)) (ci := 2) (v := .ref q_1) (ty := .array (.int)) (C := RX2) (T := TX2) (N := 4) hx hb hts uB2 tyX2 tyX2_ok nmX2 hown hK hP hD hS 0 rfl rfl 0 (by decide) (hts _ wm_81) (fun _ h9 => h9) rfl hin rfl (by decide +kernel) rfl rfl (by rw [hlen_h0]; decide) dX2_init_8 (fun H locs hP hD hS => ?_)
  obtain ⟨fs_3, efs_3⟩ : ∃ z9, z9 = (fs).set 0 (.ref q_1) := ⟨_, rfl⟩
  have hP : va_P (dC, dI) vwCl [(h0, .inr (2, fs_3)), (q_1, .inl (cA_2, 4, .inl (fun _ => 0)))] H := by rw [efs_3]; exact hP
  have hD : va_D A [(h0, .inr (2, fs_3)), (q_1, .inl (cA_2, 4, .inl (fun _ => 0)))] := by rw [efs_3]; exact hD
  have hf0_h0 : fs_3[0]? = some (.ref q_1) := by rw [efs_3]; exact List.getElem?_set_self (by rw [hlen_h0]; decide)
  have hlen_h0 : fs_3.length = 4 := by rw [efs_3, List.length_set]; exact hlen_h0
  refine lv_aload_n hx hb dX2_init_11 rfl (lv_at hl 0 rfl) ?_
  refine lv_iload_n hx hb dX2_init_12 rfl (lv_at hl 2 rfl) ?_
  refine va_putF (D := (dC, dI)) (ci := 2) (v := .int (nI k)) (ty := .int) (C := RX2) (T := TX2) (N := 4) hx hb hts uB2 tyX2 tyX2_ok nmX2 hown hK hP hD hS 0 rfl rfl 1 (by decide) (hts _ wm_82) (fun _ h9 => h9) rfl hin rfl (by decide +kernel) rfl rfl (by rw [hlen_h0]; decide) dX2_init_13 (fun H locs hP hD hS => ?_)
  obtain ⟨fs_4, efs_4⟩ : ∃ z9, z9 = (fs_3).set 1 (.int (nI k)) := ⟨_, rfl⟩
  have hP : va_P (dC, dI) vwCl [(h0, .inr (2, fs_4)), (q_1, .inl (cA_2, 4, .inl (fun _ => 0)))] H := by rw [efs_4]; exact hP
  have hD : va_D A [(h0, .inr (2, fs_4)), (q_1, .inl (cA_2, 4, .inl (fun _ => 0)))] := by rw [efs_4]; exact hD
  have hf0_h0 : fs_4[0]? = some (.ref q_1) := by rw [efs_4, List.getElem?_set_ne (by decide)]; exact hf0_h0
  have hf1_h0 : fs_4[1]? = some (.int (nI k)) := by rw [efs_4]; exact List.getElem?_set_self (by rw [hlen_h0]; decide)
  have hlen_h0 : fs_4.length = 4 := by rw [efs_4, List.length_set]; exact hlen_h0
  refine lv_iload_n hx hb dX2_init_16 rfl (lv_at hl 1 rfl) ?_
  refine lv_istore_n (lv' := [(3, .int x), (0, .ref h0), (1, .int x), (2, .int (nI k))]) hx hb dX2_init_17 rfl hl (by decide) rfl (fun ls hl => ?_)
  refine lv_iload_n hx hb dX2_init_18 rfl (lv_at hl 3 rfl) ?_
  refine lv_iconst (v := 4) hx hb dX2_init_19 (by decide) ?_
  refine va_mmin hx hb (by rw [hml]; exact hl.1.symm) hown (hts _ wm_83) (hts _ wm_84) (hts _ wm_85) (hts _ wm_86) (Nat.le_of_ble_eq_true rfl) (Nat.le_of_ble_eq_true rfl) (Nat.le_of_ble_eq_true rfl) (Nat.le_of_ble_eq_true rfl) dX2_init_20 ?_
  refine lv_topi (fun x_5 ex_5 => ?_)
  obtain rfl : x_5 = nI k := ex_5.trans (if_neg (show ¬ nI 4 < nI k from fun q => absurd ((nI_ltI (by decide) (by omega)).mp q) (by omega)))
  refine lv_iconst (v := 1) hx hb dX2_init_23 (by decide) ?_
  refine lv_isub hx hb dX2_init_24 ?_
  refine lv_topi (fun x_6 ex_6 => ?_)
  refine lv_istore (lv' := [(4, .int x_6), (3, .int x), (0, .ref h0), (1, .int x), (2, .int (nI k))]) hx hb dX2_init_25 hl (by decide) rfl (fun ls hl => ?_)
  subst ex_6
  refine k_loop (fun n H locs ls => ∃ (r : Int32) (f : Nat → Int32), n ≤ 4 ∧ va_P (dC, dI) vwCl [(h0, .inr (2, fs_4)), (q_1, .inl (cA_2, 4, .inl f))] H ∧ va_D A [(h0, .inr (2, fs_4)), (q_1, .inl (cA_2, 4, .inl f))] ∧ va_S A s.heap H locs ∧ lv_has ls 5 [(0, .ref h0), (3, .int r), (4, .int (nI n - 1))]) (fun H locs ls hI => ?_) (fun n H locs ls hI ih => ?_) k _ _ _ ⟨x, _, hk4, hP, hD, hS, lv_sub hl [2, 1, 0] rfl⟩
  · skip
    obtain ⟨r, f, hn4, hP, hD, hS, hl⟩ := hI
    rw [show nI 0 - 1 = (-1 : Int32) from by decide] at hl
    refine lv_iload hx hb dX2_init_27 (lv_at hl 2 rfl) ?_
    refine lv_if_lt (tgt := 56) hx hb dX2_init_29 (by decide) (fun _ => ?_) (fun h9 => absurd (by decide) h9)
    exact W.vret hx hb hr (fun t ht hW => ⟨⟨fs_4, rfl, trivial, by show va_P (dC, dI) vwCl [(h0, .inr (2, fs_4))] t.heap; rw [ht]; exact hP.sub [0] rfl⟩, hS.F ht⟩) hS.2.2 dX2_init_56
  · skip
    obtain ⟨r, f, hn4, hP, hD, hS, hl⟩ := hI
    rw [nI_pred] at hl
    refine lv_iload hx hb dX2_init_27 (lv_at hl 2 rfl) ?_
    refine lv_if_lt (tgt := 56) hx hb dX2_init_29 (by decide) (fun c_7 => ?_) (fun c_7 => ?_)
    · skip
      exact absurd c_7 (nI_pos (by omega))
    · skip
      refine lv_aload_n hx hb dX2_init_32 rfl (lv_at hl 0 rfl) ?_
      refine va_get (D := (dC, dI)) (ci := 2) (v := .ref q_1) (C := RX2) (T := TX2) (N := 4) hx hb hts uB2 hown hK hP 0 rfl rfl 0 (by decide) (hts _ wm_81) (fun _ h9 => h9) hf0_h0 dX2_init_33 ?_
      refine lv_iload hx hb dX2_init_36 (lv_at hl 2 rfl) ?_
      refine lv_iload_n hx hb dX2_init_38 rfl (lv_at hl 1 rfl) ?_
      refine lv_sipush (v := 128) hx hb dX2_init_39 (by decide) ?_
      refine lv_irem hx hb dX2_init_42 (by decide) ?_
      refine lv_topi (fun x_8 ex_8 => ?_)
      refine va_iast hx hb hK hP hD hS 1 0 rfl rfl (vp_in_nI (by omega) (by decide)) dX2_init_43 (fun H locs hP hD hS => ?_)
      obtain ⟨f_9, ef_9⟩ : ∃ z9, z9 = upd f (Int32.toNatClampNeg (nI n)) x_8 := ⟨_, rfl⟩
      have hP : va_P (dC, dI) vwCl [(h0, .inr (2, fs_4)), (q_1, .inl (cA_2, 4, .inl f_9))] H := by rw [ef_9]; exact hP
      have hD : va_D A [(h0, .inr (2, fs_4)), (q_1, .inl (cA_2, 4, .inl f_9))] := by rw [ef_9]; exact hD
      refine lv_iload_n hx hb dX2_init_44 rfl (lv_at hl 1 rfl) ?_
      refine lv_sipush (v := 128) hx hb dX2_init_45 (by decide) ?_
      refine lv_idiv hx hb dX2_init_48 (by decide) ?_
      refine lv_topi (fun x_10 ex_10 => ?_)
      refine lv_istore_n (lv' := [(3, .int x_10), (0, .ref h0), (4, .int (nI n))]) hx hb dX2_init_49 rfl hl (by decide) rfl (fun ls hl => ?_)
      obtain ⟨x_11, ex_11⟩ : ∃ y : Int32, y = (nI n) + (-1) := ⟨_, rfl⟩
      refine lv_iinc (v := x_11) (lv' := [(4, .int x_11), (3, .int x_10), (0, .ref h0)]) hx hb dX2_init_50 hl (k := 2) rfl (by rw [ex_11]; rfl) (by decide) rfl (fun ls hl => ?_)
      refine lv_goto (tgt := 27) hx hb dX2_init_53 (by decide) ?_
      obtain rfl : x_11 = nI n - 1 := ex_11.trans (by rw [Int32.sub_eq_add_neg])
      exact ih _ _ _ ⟨_, _, by omega, hP, hD, hS, lv_sub hl [2, 1, 0] rfl⟩
set_option maxHeartbeats 4000000 in
set_option maxRecDepth 100000 in
theorem f_page (l : Launch) (dC : Nat → ClassId) (dI : Nat → Nat → Nat) (sz : Nat) (h0 : Nat) (fs : List Value) (qp : Nat) (cP : ClassId) (x : Int32) (hf0 : fs[0]? = some (.ref qp)) (hf7 : fs[7]? = some (.int 0)) (hlen_h0 : fs.length = 17)  : mFi l yX5_page cX5_page 3 3 2 8 (dC, dI) [(h0, .inr (5, fs)), (qp, .inl (cP, 8, .inr (.inr (.inr (.inr (fun _ => none))))))] sz [(cP, .object RX2)] (fun _ => True) [.ref h0, .int x] (fun r => r = if pgOk x then 0 else (-1)) := by
  refine Met.ofW (cc := cX5_page) (maxL := 3) (ret := some .int) (by decide) rfl ?_
  intro p e s m args below meth c s₁ B hml hv
  obtain ⟨rfl, hsz, hP, hK, hD0, hex⟩ := hv
  subst hsz
  have hx := B.exec
  have hb := B.bytes
  have hr := B.returns
  have hlocks := B.notSynchronized
  have hts0 := atoms_spec (ws := Cond.code yX5_page cX5_page 3 (some .int) :: lw_B) B.pre
  have hts : ∀ w ∈ lw_B, w.before _ s = true := fun w h => hts0 w (List.mem_cons_of_mem _ h)
  have hown : s.vm.findClass RX5 = some m.cls := findClass_of_methodNamed B.named
  have hD := hD0.self (sz := s.heap.size)
  generalize hAe : va_A [(h0, .inr (5, fs)), (qp, .inl (cP, 8, .inr (.inr (.inr (.inr (fun _ => none))))))] s.heap.size = A at hD ⊢
  have hA : ∀ q : Nat, s.heap.size ≤ q → A q := fun q h => by rw [← hAe]; exact Or.inr h
  have hS : va_S A s.heap s.heap [] := va_S.rf
  have hl := lv_entry ([.ref h0, .int x]) (n := 3) (Nat.le_of_ble_eq_true rfl)
  rw [lg_entry_eq]
  generalize (lg_sl ([.ref h0, .int x]) ++ List.replicate (3 - (lg_sl ([.ref h0, .int x])).length) Slot.unset).toArray = ls at hl ⊢
  have hl : lv_has ls 3 [(0, .ref h0), (1, .int x)] := hl
  refine lv_iload_n hx hb dX5_page_0 rfl (lv_at hl 1 rfl) ?_
  refine k_S ⟨hx, hb, hml, hown, hts⟩ (c_placesIn l x) 1 wm_87 wm_88 wm_2 wm_89 (by decide +kernel) ⟨Nat.le_of_ble_eq_true rfl, Nat.le_of_ble_eq_true rfl⟩ rfl hl.1 rfl (Nat.le_of_ble_eq_true rfl) dX5_page_1 ⟨Nat.le_of_ble_eq_true rfl, Nat.le_of_ble_eq_true rfl⟩ hS hP (fun r_1 H locs hpr_1 hP hS => ?_)
  refine lv_istore_n (lv' := [(2, .int r_1), (0, .ref h0), (1, .int x)]) hx hb dX5_page_4 rfl hl (by decide) rfl (fun ls hl => ?_)
  rcases k_pl hpr_1 with ⟨rfl, hno⟩ | ⟨hok, k, hk1, hk4, rfl⟩
  · skip
    refine lv_iload_n hx hb dX5_page_5 rfl (lv_at hl 0 rfl) ?_
    refine lv_if_ne (tgt := 11) hx hb dX5_page_6 (by decide) (fun h9 => absurd (by decide) h9) (fun _ => ?_)
    refine lv_iconst (v := (-1)) hx hb dX5_page_9 (by decide) ?_
    refine W.widen (k := 2) (n := 8) (Nat.le_of_ble_eq_true rfl) (Nat.le_of_ble_eq_true rfl) ?_
    exact W.iret (v := (-1)) hx hb hr (fun t ht hW => ⟨⟨(-1), (), rfl, (if_neg hno).symm, trivial⟩, hS.F ht⟩) hS.2.2 dX5_page_10
  · skip
    refine lv_iload_n hx hb dX5_page_5 rfl (lv_at hl 0 rfl) ?_
    refine lv_if_ne (tgt := 11) hx hb dX5_page_6 (by decide) (fun c_2 => ?_) (fun c_2 => ?_)
    · skip
      refine lv_aload_n hx hb dX5_page_11 rfl (lv_at hl 1 rfl) ?_
      refine va_get (D := (dC, dI)) (ci := 5) (v := .int 0) (C := RX5) (T := TX5) (N := 17) hx hb hts uB5 hown hK hP 0 rfl rfl 7 (by decide) (hts _ wm_8) (fun _ h9 => h9) hf7 dX5_page_12 ?_
      refine lv_bipush (v := 8) hx hb dX5_page_15 (by decide) ?_
      refine lv_icmp_lt (tgt := 23) hx hb dX5_page_17 (by decide) (fun _ => ?_) (fun h9 => absurd (by decide) h9)
      refine lv_aload_n hx hb dX5_page_23 rfl (lv_at hl 1 rfl) ?_
      refine va_get (D := (dC, dI)) (ci := 5) (v := .ref qp) (C := RX5) (T := TX5) (N := 17) hx hb hts uB5 hown hK hP 0 rfl rfl 0 (by decide) (hts _ wm_90) (fun _ h9 => h9) hf0 dX5_page_24 ?_
      refine lv_aload_n hx hb dX5_page_27 rfl (lv_at hl 1 rfl) ?_
      refine va_get (D := (dC, dI)) (ci := 5) (v := .int 0) (C := RX5) (T := TX5) (N := 17) hx hb hts uB5 hown hK hP 0 rfl rfl 7 (by decide) (hts _ wm_8) (fun _ h9 => h9) hf7 dX5_page_28 ?_
      refine va_new (ci := 2) (fs := [.null, .int 0, .int 0, .long 0]) (C := RX2) (T := TX2) (N := 4) hx hb hts uB2 tyX2 tyX2_ok hown (hts _ wm_91) (hts _ wm_92) (hts _ wm_93) hK hP hD hS hA rfl (by decide +kernel) (Nat.le_of_ble_eq_true rfl) (Nat.le_of_ble_eq_true rfl) dX5_page_31 (fun q_3 H hP hD hS => ?_)
      have hP : va_P (dC, dI) vwCl [(h0, .inr (5, fs)), (qp, .inl (cP, 8, .inr (.inr (.inr (.inr (fun _ => none)))))), (q_3, .inr (2, [.null, .int 0, .int 0, .long 0]))] H := hP
      have hD : va_D A [(h0, .inr (5, fs)), (qp, .inl (cP, 8, .inr (.inr (.inr (.inr (fun _ => none)))))), (q_3, .inr (2, [.null, .int 0, .int 0, .long 0]))] := hD
      refine lv_dup hx hb dX5_page_34 rfl ?_
      refine lv_iload_n hx hb dX5_page_35 rfl (lv_at hl 2 rfl) ?_
      refine lv_iload_n hx hb dX5_page_36 rfl (lv_at hl 0 rfl) ?_
      refine k_OI (ci := 2) (q0 := 2) (tc := []) (ex := (fun _ => True)) ⟨hx, hb, hml, hown, hts⟩ (o_Page l dC dI H.size q_3 [.null, .int 0, .int 0, .long 0] x k rfl hk1 hk4) 2 wm_94 wm_95 wm_93 wm_96 rfl (by decide +kernel) ⟨Nat.le_of_ble_eq_true rfl, Nat.le_of_ble_eq_true rfl⟩ (hK.sub (tys' := []) [] rfl) exT rfl rfl hl.1 rfl (Nat.le_of_ble_eq_true rfl) dX5_page_37 ⟨Nat.le_of_ble_eq_true rfl, Nat.le_of_ble_eq_true rfl⟩ hP hD hS hA (fun fs_4 H locs efs_4 hP hD hS => ?_)
      have hP : va_P (dC, dI) vwCl [(h0, .inr (5, fs)), (qp, .inl (cP, 8, .inr (.inr (.inr (.inr (fun _ => none)))))), (q_3, .inr (2, fs_4))] H := hP
      have hD : va_D A [(h0, .inr (5, fs)), (qp, .inl (cP, 8, .inr (.inr (.inr (.inr (fun _ => none)))))), (q_3, .inr (2, fs_4))] := hD
      refine va_astq hx hb hK hP hD hS 1 0 2 2 rfl rfl rfl rfl (vp_in_iff.mpr (by decide)) dX5_page_40 (fun H locs hP hD hS => ?_)
      obtain ⟨f_5, ef_5⟩ : ∃ z9, z9 = va_up (fun _ => none) (Int32.toNatClampNeg 0) (some q_3) := ⟨_, rfl⟩
      have hP : va_P (dC, dI) vwCl [(h0, .inr (5, fs)), (qp, .inl (cP, 8, .inr (.inr (.inr (.inr f_5))))), (q_3, .inr (2, fs_4))] H := by rw [ef_5]; exact hP
      have hD : va_D A [(h0, .inr (5, fs)), (qp, .inl (cP, 8, .inr (.inr (.inr (.inr f_5))))), (q_3, .inr (2, fs_4))] := by rw [ef_5]; exact hD
      refine lv_aload_n hx hb dX5_page_41 rfl (lv_at hl 1 rfl) ?_
      refine lv_dup hx hb dX5_page_42 rfl ?_
      refine va_get (D := (dC, dI)) (ci := 5) (v := .int 0) (C := RX5) (T := TX5) (N := 17) hx hb hts uB5 hown hK hP 0 rfl rfl 7 (by decide) (hts _ wm_8) (fun _ h9 => h9) hf7 dX5_page_43 ?_
      refine lv_iconst (v := 1) hx hb dX5_page_46 (by decide) ?_
      refine lv_iadd hx hb dX5_page_47 ?_
      refine lv_topi (fun x_6 ex_6 => ?_)
      obtain rfl : x_6 = 1 := ex_6.trans (by decide)
      refine va_put (D := (dC, dI)) (ci := 5) (v := .int 1) (ty := .int) (C := RX5) (T := TX5) (N := 17) hx hb hts uB5 tyX5 tyX5_ok nmX5 hown hK hP hD hS 0 rfl rfl 7 (by decide) (hts _ wm_8) (fun _ h9 => h9) rfl (by decide +kernel) rfl rfl (by rw [hlen_h0]; decide) dX5_page_48 (fun H locs hP hD hS => ?_)
      obtain ⟨fs_7, efs_7⟩ : ∃ z9, z9 = (fs).set 7 (.int 1) := ⟨_, rfl⟩
      have hP : va_P (dC, dI) vwCl [(h0, .inr (5, fs_7)), (qp, .inl (cP, 8, .inr (.inr (.inr (.inr f_5))))), (q_3, .inr (2, fs_4))] H := by rw [efs_7]; exact hP
      have hD : va_D A [(h0, .inr (5, fs_7)), (qp, .inl (cP, 8, .inr (.inr (.inr (.inr f_5))))), (q_3, .inr (2, fs_4))] := by rw [efs_7]; exact hD
      have hf0 : fs_7[0]? = some (.ref qp) := by rw [efs_7, List.getElem?_set_ne (by decide)]; exact hf0
      have hf7 : fs_7[7]? = some (.int 1) := by rw [efs_7]; exact List.getElem?_set_self (by rw [hlen_h0]; decide)
      have hlen_h0 : fs_7.length = 17 := by rw [efs_7, List.length_set]; exact hlen_h0
      refine lv_aload_n hx hb dX5_page_51 rfl (lv_at hl 1 rfl) ?_
      refine va_get (D := (dC, dI)) (ci := 5) (v := .int 1) (C := RX5) (T := TX5) (N := 17) hx hb hts uB5 hown hK hP 0 rfl rfl 7 (by decide) (hts _ wm_8) (fun _ h9 => h9) hf7 dX5_page_52 ?_
      refine lv_iconst (v := 1) hx hb dX5_page_55 (by decide) ?_
      refine lv_isub hx hb dX5_page_56 ?_
      refine lv_topi (fun x_8 ex_8 => ?_)
      obtain rfl : x_8 = 0 := ex_8.trans (by decide)
      refine W.widen (k := 2) (n := 8) (Nat.le_of_ble_eq_true rfl) (Nat.le_of_ble_eq_true rfl) ?_
      exact W.iret (v := 0) hx hb hr (fun t ht hW => ⟨⟨0, (), rfl, (if_pos hok).symm, trivial⟩, hS.F ht⟩) hS.2.2 dX5_page_57
    · skip
      exact absurd c_2 (nI_ne0 (by omega) (by omega))
end
section
set_option maxHeartbeats 4000000 in
set_option maxRecDepth 100000 in
theorem o_Tally (l : Launch) (dC : Nat → ClassId) (dI : Nat → Nat → Nat) (sz : Nat) (h0 : Nat) (fs : List Value)  (hlen_h0 : fs.length = 8) : mOv l yX4_init cX4_init 1 1 0 0 (dC, dI) h0 4 fs sz [] (fun _ => True) [.ref h0] (fun _ => True) := by
  refine Met.ofW (cc := cX4_init) (maxL := 1) (ret := none) (by decide) rfl ?_
  intro p e s m args below meth c s₁ B hml hv
  obtain ⟨rfl, hsz, hP, hK, hex⟩ := hv
  subst hsz
  have hx := B.exec
  have hb := B.bytes
  have hr := B.returns
  have hlocks := B.notSynchronized
  have hts0 := atoms_spec (ws := Cond.code yX4_init cX4_init 1 none :: lw_B) B.pre
  have hts : ∀ w ∈ lw_B, w.before _ s = true := fun w h => hts0 w (List.mem_cons_of_mem _ h)
  have hown : s.vm.findClass RX4 = some m.cls := findClass_of_methodNamed B.named
  have hin : meth.name = "<init>" := (name_of_methodNamed B.named B.method).1
  have hD : va_D (aO h0 s.heap.size) [(h0, .inr (4, fs))] := ⟨fun i j p q h1 h2 _ => by have a1 := (List.getElem?_eq_some_iff.mp h1).1; have a2 := (List.getElem?_eq_some_iff.mp h2).1; simp at a1 a2; omega, fun k q h => by have a1 := (List.getElem?_eq_some_iff.mp h).1; simp at a1; subst a1; cases h; exact Or.inl rfl⟩
  generalize hAe : aO h0 s.heap.size = A at hD ⊢
  have hA : ∀ q : Nat, s.heap.size ≤ q → A q := fun q h => by rw [← hAe]; exact Or.inr h
  have hS : va_S A s.heap s.heap [] := va_S.rf
  have hl := lv_entry ([.ref h0]) (n := 1) (Nat.le_of_ble_eq_true rfl)
  rw [lg_entry_eq]
  generalize (lg_sl ([.ref h0]) ++ List.replicate (1 - (lg_sl ([.ref h0])).length) Slot.unset).toArray = ls at hl ⊢
  have hl : lv_has ls 1 [(0, .ref h0)] := hl
  refine lv_aload_n hx hb dX4_init_0 rfl (lv_at hl 0 rfl) ?_
  refine W.objInit hx hb hown (hts _ wm_97) (hts _ wm_78) (hts _ wm_79) rfl (by rw [hml]; exact hl.1) rfl dX4_init_1 (Nat.le_of_ble_eq_true rfl) (Nat.le_of_ble_eq_true rfl) ?_
  refine W.eq (g2 := F0 m 4 ls []) rfl ?_
  exact W.vret hx hb hr (fun t ht hW => ⟨⟨fs, rfl, trivial, by show va_P (dC, dI) vwCl [(h0, .inr (4, fs))] t.heap; rw [ht]; exact hP.sub [0] rfl⟩, hS.F ht⟩) hS.2.2 dX4_init_4
set_option maxHeartbeats 4000000 in
set_option maxRecDepth 100000 in
theorem o_Campaign (l : Launch) (dC : Nat → ClassId) (dI : Nat → Nat → Nat) (sz : Nat) (h0 : Nat) (fs : List Value) (x y z : Int32) (hlen_h0 : fs.length = 16) : mOv l yX0_init cX0_init 4 2 1 8 (dC, dI) h0 0 fs sz [] (va_Nw (.methodLinkNest RX0 11 yX4_init "NoticeMarket")) [.ref h0, .int x, .int y, .int z] (fun _ => True) := by
  refine Met.ofW (cc := cX0_init) (maxL := 4) (ret := none) (by decide) rfl ?_
  intro p e s m args below meth c s₁ B hml hv
  obtain ⟨rfl, hsz, hP, hK, hex⟩ := hv
  subst hsz
  have hx := B.exec
  have hb := B.bytes
  have hr := B.returns
  have hlocks := B.notSynchronized
  have hts0 := atoms_spec (ws := Cond.code yX0_init cX0_init 4 none :: lw_B) B.pre
  have hts : ∀ w ∈ lw_B, w.before _ s = true := fun w h => hts0 w (List.mem_cons_of_mem _ h)
  have hown : s.vm.findClass RX0 = some m.cls := findClass_of_methodNamed B.named
  have hin : meth.name = "<init>" := (name_of_methodNamed B.named B.method).1
  have hD : va_D (aO h0 s.heap.size) [(h0, .inr (0, fs))] := ⟨fun i j p q h1 h2 _ => by have a1 := (List.getElem?_eq_some_iff.mp h1).1; have a2 := (List.getElem?_eq_some_iff.mp h2).1; simp at a1 a2; omega, fun k q h => by have a1 := (List.getElem?_eq_some_iff.mp h).1; simp at a1; subst a1; cases h; exact Or.inl rfl⟩
  generalize hAe : aO h0 s.heap.size = A at hD ⊢
  have hA : ∀ q : Nat, s.heap.size ≤ q → A q := fun q h => by rw [← hAe]; exact Or.inr h
  have hS : va_S A s.heap s.heap [] := va_S.rf
  have hl := lv_entry ([.ref h0, .int x, .int y, .int z]) (n := 4) (Nat.le_of_ble_eq_true rfl)
  rw [lg_entry_eq]
  generalize (lg_sl ([.ref h0, .int x, .int y, .int z]) ++ List.replicate (4 - (lg_sl ([.ref h0, .int x, .int y, .int z])).length) Slot.unset).toArray = ls at hl ⊢
  have hl : lv_has ls 4 [(0, .ref h0), (1, .int x), (2, .int y), (3, .int z)] := hl
  refine lv_aload_n hx hb dX0_init_0 rfl (lv_at hl 0 rfl) ?_
  refine W.objInit hx hb hown (hts _ wm_98) (hts _ wm_78) (hts _ wm_79) rfl (by rw [hml]; exact hl.1) rfl dX0_init_1 (Nat.le_of_ble_eq_true rfl) (Nat.le_of_ble_eq_true rfl) ?_
  refine W.eq (g2 := F0 m 4 ls []) rfl ?_
  refine lv_aload_n hx hb dX0_init_4 rfl (lv_at hl 0 rfl) ?_
  refine va_new (ci := 4) (fs := [.int 0, .int 0, .int 0, .int 0, .int 0, .int 0, .int 0, .null]) (C := RX4) (T := TX4) (N := 8) hx hb hts uB4 tyX4 tyX4_ok hown (hts _ wm_99) (hts _ wm_100) (hts _ wm_101) hK hP hD hS hA rfl (by decide +kernel) (Nat.le_of_ble_eq_true rfl) (Nat.le_of_ble_eq_true rfl) dX0_init_5 (fun q_1 H hP hD hS => ?_)
  have hP : va_P (dC, dI) vwCl [(h0, .inr (0, fs)), (q_1, .inr (4, [.int 0, .int 0, .int 0, .int 0, .int 0, .int 0, .int 0, .null]))] H := hP
  have hD : va_D A [(h0, .inr (0, fs)), (q_1, .inr (4, [.int 0, .int 0, .int 0, .int 0, .int 0, .int 0, .int 0, .null]))] := hD
  refine lv_dup hx hb dX0_init_8 rfl ?_
  refine k_OIN (ci := 4) (q0 := 1) (tc := []) (ex := (fun _ => True)) ⟨hx, hb, hml, hown, hts⟩ (o_Tally l dC dI H.size q_1 [.int 0, .int 0, .int 0, .int 0, .int 0, .int 0, .int 0, .null] rfl) 0 hex wm_102 wm_101 wm_103 rfl (by decide +kernel) ⟨Nat.le_of_ble_eq_true rfl, Nat.le_of_ble_eq_true rfl⟩ (hK.sub (tys' := []) [] rfl) exT rfl rfl hl.1 rfl (Nat.le_of_ble_eq_true rfl) dX0_init_9 ⟨Nat.le_of_ble_eq_true rfl, Nat.le_of_ble_eq_true rfl⟩ hP hD hS hA (fun fs_2 H locs efs_2 hP hD hS => ?_)
  have hP : va_P (dC, dI) vwCl [(h0, .inr (0, fs)), (q_1, .inr (4, fs_2))] H := hP
  have hD : va_D A [(h0, .inr (0, fs)), (q_1, .inr (4, fs_2))] := hD
  refine va_putF (D := (dC, dI)) (ci := 0) (v := .ref q_1) (ty := .object "NoticeMarket$Tally") (C := RX0) (T := TX0) (N := 16) hx hb hts uB0 tyX0 tyX0_ok nmX0 hown hK hP hD hS 0 rfl rfl 5 (by decide) (hts _ wm_104) (fun _ h9 => h9) rfl hin rfl (by decide +kernel) rfl rfl (by rw [hlen_h0]; decide) dX0_init_12 (fun H locs hP hD hS => ?_)
  obtain ⟨fs_3, efs_3⟩ : ∃ z9, z9 = (fs).set 5 (.ref q_1) := ⟨_, rfl⟩
  have hP : va_P (dC, dI) vwCl [(h0, .inr (0, fs_3)), (q_1, .inr (4, fs_2))] H := by rw [efs_3]; exact hP
  have hD : va_D A [(h0, .inr (0, fs_3)), (q_1, .inr (4, fs_2))] := by rw [efs_3]; exact hD
  have hf5_h0 : fs_3[5]? = some (.ref q_1) := by rw [efs_3]; exact List.getElem?_set_self (by rw [hlen_h0]; decide)
  have hlen_h0 : fs_3.length = 16 := by rw [efs_3, List.length_set]; exact hlen_h0
  refine lv_aload_n hx hb dX0_init_15 rfl (lv_at hl 0 rfl) ?_
  refine lv_bipush (v := 9) hx hb dX0_init_16 (by decide) ?_
  refine va_put (D := (dC, dI)) (ci := 0) (v := .int 9) (ty := .int) (C := RX0) (T := TX0) (N := 16) hx hb hts uB0 tyX0 tyX0_ok nmX0 hown hK hP hD hS 0 rfl rfl 8 (by decide) (hts _ wm_105) (fun _ h9 => h9) rfl (by decide +kernel) rfl rfl (by rw [hlen_h0]; decide) dX0_init_18 (fun H locs hP hD hS => ?_)
  obtain ⟨fs_4, efs_4⟩ : ∃ z9, z9 = (fs_3).set 8 (.int 9) := ⟨_, rfl⟩
  have hP : va_P (dC, dI) vwCl [(h0, .inr (0, fs_4)), (q_1, .inr (4, fs_2))] H := by rw [efs_4]; exact hP
  have hD : va_D A [(h0, .inr (0, fs_4)), (q_1, .inr (4, fs_2))] := by rw [efs_4]; exact hD
  have hf5_h0 : fs_4[5]? = some (.ref q_1) := by rw [efs_4, List.getElem?_set_ne (by decide)]; exact hf5_h0
  have hf8_h0 : fs_4[8]? = some (.int 9) := by rw [efs_4]; exact List.getElem?_set_self (by rw [hlen_h0]; decide)
  have hlen_h0 : fs_4.length = 16 := by rw [efs_4, List.length_set]; exact hlen_h0
  refine lv_aload_n hx hb dX0_init_21 rfl (lv_at hl 0 rfl) ?_
  refine lv_iconst (v := 1) hx hb dX0_init_22 (by decide) ?_
  refine va_put (D := (dC, dI)) (ci := 0) (v := .int 1) (ty := .int) (C := RX0) (T := TX0) (N := 16) hx hb hts uB0 tyX0 tyX0_ok nmX0 hown hK hP hD hS 0 rfl rfl 9 (by decide) (hts _ wm_106) (fun _ h9 => h9) rfl (by decide +kernel) rfl rfl (by rw [hlen_h0]; decide) dX0_init_23 (fun H locs hP hD hS => ?_)
  obtain ⟨fs_5, efs_5⟩ : ∃ z9, z9 = (fs_4).set 9 (.int 1) := ⟨_, rfl⟩
  have hP : va_P (dC, dI) vwCl [(h0, .inr (0, fs_5)), (q_1, .inr (4, fs_2))] H := by rw [efs_5]; exact hP
  have hD : va_D A [(h0, .inr (0, fs_5)), (q_1, .inr (4, fs_2))] := by rw [efs_5]; exact hD
  have hf5_h0 : fs_5[5]? = some (.ref q_1) := by rw [efs_5, List.getElem?_set_ne (by decide)]; exact hf5_h0
  have hf8_h0 : fs_5[8]? = some (.int 9) := by rw [efs_5, List.getElem?_set_ne (by decide)]; exact hf8_h0
  have hf9_h0 : fs_5[9]? = some (.int 1) := by rw [efs_5]; exact List.getElem?_set_self (by rw [hlen_h0]; decide)
  have hlen_h0 : fs_5.length = 16 := by rw [efs_5, List.length_set]; exact hlen_h0
  refine lv_aload_n hx hb dX0_init_26 rfl (lv_at hl 0 rfl) ?_
  refine lv_sipush (v := 1000) hx hb dX0_init_27 (by decide) ?_
  refine va_put (D := (dC, dI)) (ci := 0) (v := .int 1000) (ty := .int) (C := RX0) (T := TX0) (N := 16) hx hb hts uB0 tyX0 tyX0_ok nmX0 hown hK hP hD hS 0 rfl rfl 10 (by decide) (hts _ wm_107) (fun _ h9 => h9) rfl (by decide +kernel) rfl rfl (by rw [hlen_h0]; decide) dX0_init_30 (fun H locs hP hD hS => ?_)
  obtain ⟨fs_6, efs_6⟩ : ∃ z9, z9 = (fs_5).set 10 (.int 1000) := ⟨_, rfl⟩
  have hP : va_P (dC, dI) vwCl [(h0, .inr (0, fs_6)), (q_1, .inr (4, fs_2))] H := by rw [efs_6]; exact hP
  have hD : va_D A [(h0, .inr (0, fs_6)), (q_1, .inr (4, fs_2))] := by rw [efs_6]; exact hD
  have hf5_h0 : fs_6[5]? = some (.ref q_1) := by rw [efs_6, List.getElem?_set_ne (by decide)]; exact hf5_h0
  have hf8_h0 : fs_6[8]? = some (.int 9) := by rw [efs_6, List.getElem?_set_ne (by decide)]; exact hf8_h0
  have hf9_h0 : fs_6[9]? = some (.int 1) := by rw [efs_6, List.getElem?_set_ne (by decide)]; exact hf9_h0
  have hf10_h0 : fs_6[10]? = some (.int 1000) := by rw [efs_6]; exact List.getElem?_set_self (by rw [hlen_h0]; decide)
  have hlen_h0 : fs_6.length = 16 := by rw [efs_6, List.length_set]; exact hlen_h0
  refine lv_aload_n hx hb dX0_init_33 rfl (lv_at hl 0 rfl) ?_
  refine lv_iload_n hx hb dX0_init_34 rfl (lv_at hl 1 rfl) ?_
  refine lv_bipush (v := 10) hx hb dX0_init_35 (by decide) ?_
  refine lv_idiv hx hb dX0_init_37 (by decide) ?_
  refine lv_topi (fun x_7 ex_7 => ?_)
  refine va_putF (D := (dC, dI)) (ci := 0) (v := .int x_7) (ty := .int) (C := RX0) (T := TX0) (N := 16) hx hb hts uB0 tyX0 tyX0_ok nmX0 hown hK hP hD hS 0 rfl rfl 0 (by decide) (hts _ wm_108) (fun _ h9 => h9) rfl hin rfl (by decide +kernel) rfl rfl (by rw [hlen_h0]; decide) dX0_init_38 (fun H locs hP hD hS => ?_)
  obtain ⟨fs_8, efs_8⟩ : ∃ z9, z9 = (fs_6).set 0 (.int x_7) := ⟨_, rfl⟩
  have hP : va_P (dC, dI) vwCl [(h0, .inr (0, fs_8)), (q_1, .inr (4, fs_2))] H := by rw [efs_8]; exact hP
  have hD : va_D A [(h0, .inr (0, fs_8)), (q_1, .inr (4, fs_2))] := by rw [efs_8]; exact hD
  have hf5_h0 : fs_8[5]? = some (.ref q_1) := by rw [efs_8, List.getElem?_set_ne (by decide)]; exact hf5_h0
  have hf8_h0 : fs_8[8]? = some (.int 9) := by rw [efs_8, List.getElem?_set_ne (by decide)]; exact hf8_h0
  have hf9_h0 : fs_8[9]? = some (.int 1) := by rw [efs_8, List.getElem?_set_ne (by decide)]; exact hf9_h0
  have hf10_h0 : fs_8[10]? = some (.int 1000) := by rw [efs_8, List.getElem?_set_ne (by decide)]; exact hf10_h0
  have hf0_h0 : fs_8[0]? = some (.int x_7) := by rw [efs_8]; exact List.getElem?_set_self (by rw [hlen_h0]; decide)
  have hlen_h0 : fs_8.length = 16 := by rw [efs_8, List.length_set]; exact hlen_h0
  refine lv_aload_n hx hb dX0_init_41 rfl (lv_at hl 0 rfl) ?_
  refine lv_iload_n hx hb dX0_init_42 rfl (lv_at hl 1 rfl) ?_
  refine lv_bipush (v := 10) hx hb dX0_init_43 (by decide) ?_
  refine lv_irem hx hb dX0_init_45 (by decide) ?_
  refine lv_topi (fun x_9 ex_9 => ?_)
  refine lv_iconst (v := 1) hx hb dX0_init_46 (by decide) ?_
  refine lv_icmp_ne (tgt := 54) hx hb dX0_init_47 (by decide) (fun c_10 => ?_) (fun c_10 => ?_)
  · skip
    refine lv_iconst (v := 0) hx hb dX0_init_54 (by decide) ?_
    refine va_putF (D := (dC, dI)) (ci := 0) (v := .int 0) (ty := .boolean) (C := RX0) (T := TX0) (N := 16) hx hb hts uB0 tyX0 tyX0_ok nmX0 hown hK hP hD hS 0 rfl rfl 1 (by decide) (hts _ wm_109) (fun _ h9 => h9) rfl hin rfl (by decide +kernel) rfl rfl (by rw [hlen_h0]; decide) dX0_init_55 (fun H locs hP hD hS => ?_)
    obtain ⟨fs_11, efs_11⟩ : ∃ z9, z9 = (fs_8).set 1 (.int 0) := ⟨_, rfl⟩
    have hP : va_P (dC, dI) vwCl [(h0, .inr (0, fs_11)), (q_1, .inr (4, fs_2))] H := by rw [efs_11]; exact hP
    have hD : va_D A [(h0, .inr (0, fs_11)), (q_1, .inr (4, fs_2))] := by rw [efs_11]; exact hD
    have hf5_h0 : fs_11[5]? = some (.ref q_1) := by rw [efs_11, List.getElem?_set_ne (by decide)]; exact hf5_h0
    have hf8_h0 : fs_11[8]? = some (.int 9) := by rw [efs_11, List.getElem?_set_ne (by decide)]; exact hf8_h0
    have hf9_h0 : fs_11[9]? = some (.int 1) := by rw [efs_11, List.getElem?_set_ne (by decide)]; exact hf9_h0
    have hf10_h0 : fs_11[10]? = some (.int 1000) := by rw [efs_11, List.getElem?_set_ne (by decide)]; exact hf10_h0
    have hf0_h0 : fs_11[0]? = some (.int x_7) := by rw [efs_11, List.getElem?_set_ne (by decide)]; exact hf0_h0
    have hf1_h0 : fs_11[1]? = some (.int 0) := by rw [efs_11]; exact List.getElem?_set_self (by rw [hlen_h0]; decide)
    have hlen_h0 : fs_11.length = 16 := by rw [efs_11, List.length_set]; exact hlen_h0
    refine lv_aload_n hx hb dX0_init_58 rfl (lv_at hl 0 rfl) ?_
    refine lv_iload_n hx hb dX0_init_59 rfl (lv_at hl 2 rfl) ?_
    refine lv_sipush (v := 4096) hx hb dX0_init_60 (by decide) ?_
    refine lv_idiv hx hb dX0_init_63 (by decide) ?_
    refine lv_topi (fun x_12 ex_12 => ?_)
    refine va_putF (D := (dC, dI)) (ci := 0) (v := .int x_12) (ty := .int) (C := RX0) (T := TX0) (N := 16) hx hb hts uB0 tyX0 tyX0_ok nmX0 hown hK hP hD hS 0 rfl rfl 2 (by decide) (hts _ wm_110) (fun _ h9 => h9) rfl hin rfl (by decide +kernel) rfl rfl (by rw [hlen_h0]; decide) dX0_init_64 (fun H locs hP hD hS => ?_)
    obtain ⟨fs_13, efs_13⟩ : ∃ z9, z9 = (fs_11).set 2 (.int x_12) := ⟨_, rfl⟩
    have hP : va_P (dC, dI) vwCl [(h0, .inr (0, fs_13)), (q_1, .inr (4, fs_2))] H := by rw [efs_13]; exact hP
    have hD : va_D A [(h0, .inr (0, fs_13)), (q_1, .inr (4, fs_2))] := by rw [efs_13]; exact hD
    have hf5_h0 : fs_13[5]? = some (.ref q_1) := by rw [efs_13, List.getElem?_set_ne (by decide)]; exact hf5_h0
    have hf8_h0 : fs_13[8]? = some (.int 9) := by rw [efs_13, List.getElem?_set_ne (by decide)]; exact hf8_h0
    have hf9_h0 : fs_13[9]? = some (.int 1) := by rw [efs_13, List.getElem?_set_ne (by decide)]; exact hf9_h0
    have hf10_h0 : fs_13[10]? = some (.int 1000) := by rw [efs_13, List.getElem?_set_ne (by decide)]; exact hf10_h0
    have hf0_h0 : fs_13[0]? = some (.int x_7) := by rw [efs_13, List.getElem?_set_ne (by decide)]; exact hf0_h0
    have hf1_h0 : fs_13[1]? = some (.int 0) := by rw [efs_13, List.getElem?_set_ne (by decide)]; exact hf1_h0
    have hf2_h0 : fs_13[2]? = some (.int x_12) := by rw [efs_13]; exact List.getElem?_set_self (by rw [hlen_h0]; decide)
    have hlen_h0 : fs_13.length = 16 := by rw [efs_13, List.length_set]; exact hlen_h0
    refine lv_aload_n hx hb dX0_init_67 rfl (lv_at hl 0 rfl) ?_
    refine lv_iload_n hx hb dX0_init_68 rfl (lv_at hl 2 rfl) ?_
    refine lv_sipush (v := 4096) hx hb dX0_init_69 (by decide) ?_
    refine lv_irem hx hb dX0_init_72 (by decide) ?_
    refine lv_topi (fun x_14 ex_14 => ?_)
    refine va_putF (D := (dC, dI)) (ci := 0) (v := .int x_14) (ty := .int) (C := RX0) (T := TX0) (N := 16) hx hb hts uB0 tyX0 tyX0_ok nmX0 hown hK hP hD hS 0 rfl rfl 3 (by decide) (hts _ wm_111) (fun _ h9 => h9) rfl hin rfl (by decide +kernel) rfl rfl (by rw [hlen_h0]; decide) dX0_init_73 (fun H locs hP hD hS => ?_)
    obtain ⟨fs_15, efs_15⟩ : ∃ z9, z9 = (fs_13).set 3 (.int x_14) := ⟨_, rfl⟩
    have hP : va_P (dC, dI) vwCl [(h0, .inr (0, fs_15)), (q_1, .inr (4, fs_2))] H := by rw [efs_15]; exact hP
    have hD : va_D A [(h0, .inr (0, fs_15)), (q_1, .inr (4, fs_2))] := by rw [efs_15]; exact hD
    have hf5_h0 : fs_15[5]? = some (.ref q_1) := by rw [efs_15, List.getElem?_set_ne (by decide)]; exact hf5_h0
    have hf8_h0 : fs_15[8]? = some (.int 9) := by rw [efs_15, List.getElem?_set_ne (by decide)]; exact hf8_h0
    have hf9_h0 : fs_15[9]? = some (.int 1) := by rw [efs_15, List.getElem?_set_ne (by decide)]; exact hf9_h0
    have hf10_h0 : fs_15[10]? = some (.int 1000) := by rw [efs_15, List.getElem?_set_ne (by decide)]; exact hf10_h0
    have hf0_h0 : fs_15[0]? = some (.int x_7) := by rw [efs_15, List.getElem?_set_ne (by decide)]; exact hf0_h0
    have hf1_h0 : fs_15[1]? = some (.int 0) := by rw [efs_15, List.getElem?_set_ne (by decide)]; exact hf1_h0
    have hf2_h0 : fs_15[2]? = some (.int x_12) := by rw [efs_15, List.getElem?_set_ne (by decide)]; exact hf2_h0
    have hf3_h0 : fs_15[3]? = some (.int x_14) := by rw [efs_15]; exact List.getElem?_set_self (by rw [hlen_h0]; decide)
    have hlen_h0 : fs_15.length = 16 := by rw [efs_15, List.length_set]; exact hlen_h0
    refine lv_aload_n hx hb dX0_init_76 rfl (lv_at hl 0 rfl) ?_
    refine lv_iload_n hx hb dX0_init_77 rfl (lv_at hl 3 rfl) ?_
    refine va_putF (D := (dC, dI)) (ci := 0) (v := .int z) (ty := .int) (C := RX0) (T := TX0) (N := 16) hx hb hts uB0 tyX0 tyX0_ok nmX0 hown hK hP hD hS 0 rfl rfl 4 (by decide) (hts _ wm_112) (fun _ h9 => h9) rfl hin rfl (by decide +kernel) rfl rfl (by rw [hlen_h0]; decide) dX0_init_78 (fun H locs hP hD hS => ?_)
    obtain ⟨fs_16, efs_16⟩ : ∃ z9, z9 = (fs_15).set 4 (.int z) := ⟨_, rfl⟩
    have hP : va_P (dC, dI) vwCl [(h0, .inr (0, fs_16)), (q_1, .inr (4, fs_2))] H := by rw [efs_16]; exact hP
    have hD : va_D A [(h0, .inr (0, fs_16)), (q_1, .inr (4, fs_2))] := by rw [efs_16]; exact hD
    have hf5_h0 : fs_16[5]? = some (.ref q_1) := by rw [efs_16, List.getElem?_set_ne (by decide)]; exact hf5_h0
    have hf8_h0 : fs_16[8]? = some (.int 9) := by rw [efs_16, List.getElem?_set_ne (by decide)]; exact hf8_h0
    have hf9_h0 : fs_16[9]? = some (.int 1) := by rw [efs_16, List.getElem?_set_ne (by decide)]; exact hf9_h0
    have hf10_h0 : fs_16[10]? = some (.int 1000) := by rw [efs_16, List.getElem?_set_ne (by decide)]; exact hf10_h0
    have hf0_h0 : fs_16[0]? = some (.int x_7) := by rw [efs_16, List.getElem?_set_ne (by decide)]; exact hf0_h0
    have hf1_h0 : fs_16[1]? = some (.int 0) := by rw [efs_16, List.getElem?_set_ne (by decide)]; exact hf1_h0
    have hf2_h0 : fs_16[2]? = some (.int x_12) := by rw [efs_16, List.getElem?_set_ne (by decide)]; exact hf2_h0
    have hf3_h0 : fs_16[3]? = some (.int x_14) := by rw [efs_16, List.getElem?_set_ne (by decide)]; exact hf3_h0
    have hf4_h0 : fs_16[4]? = some (.int z) := by rw [efs_16]; exact List.getElem?_set_self (by rw [hlen_h0]; decide)
    have hlen_h0 : fs_16.length = 16 := by rw [efs_16, List.length_set]; exact hlen_h0
    exact W.vret hx hb hr (fun t ht hW => ⟨⟨fs_16, rfl, trivial, by show va_P (dC, dI) vwCl [(h0, .inr (0, fs_16))] t.heap; rw [ht]; exact hP.sub [0] rfl⟩, hS.F ht⟩) hS.2.2 dX0_init_81
  · skip
    refine lv_iconst (v := 1) hx hb dX0_init_50 (by decide) ?_
    refine lv_goto (tgt := 55) hx hb dX0_init_51 (by decide) ?_
    refine va_putF (D := (dC, dI)) (ci := 0) (v := .int 1) (ty := .boolean) (C := RX0) (T := TX0) (N := 16) hx hb hts uB0 tyX0 tyX0_ok nmX0 hown hK hP hD hS 0 rfl rfl 1 (by decide) (hts _ wm_109) (fun _ h9 => h9) rfl hin rfl (by decide +kernel) rfl rfl (by rw [hlen_h0]; decide) dX0_init_55 (fun H locs hP hD hS => ?_)
    obtain ⟨fs_17, efs_17⟩ : ∃ z9, z9 = (fs_8).set 1 (.int 1) := ⟨_, rfl⟩
    have hP : va_P (dC, dI) vwCl [(h0, .inr (0, fs_17)), (q_1, .inr (4, fs_2))] H := by rw [efs_17]; exact hP
    have hD : va_D A [(h0, .inr (0, fs_17)), (q_1, .inr (4, fs_2))] := by rw [efs_17]; exact hD
    have hf5_h0 : fs_17[5]? = some (.ref q_1) := by rw [efs_17, List.getElem?_set_ne (by decide)]; exact hf5_h0
    have hf8_h0 : fs_17[8]? = some (.int 9) := by rw [efs_17, List.getElem?_set_ne (by decide)]; exact hf8_h0
    have hf9_h0 : fs_17[9]? = some (.int 1) := by rw [efs_17, List.getElem?_set_ne (by decide)]; exact hf9_h0
    have hf10_h0 : fs_17[10]? = some (.int 1000) := by rw [efs_17, List.getElem?_set_ne (by decide)]; exact hf10_h0
    have hf0_h0 : fs_17[0]? = some (.int x_7) := by rw [efs_17, List.getElem?_set_ne (by decide)]; exact hf0_h0
    have hf1_h0 : fs_17[1]? = some (.int 1) := by rw [efs_17]; exact List.getElem?_set_self (by rw [hlen_h0]; decide)
    have hlen_h0 : fs_17.length = 16 := by rw [efs_17, List.length_set]; exact hlen_h0
    refine lv_aload_n hx hb dX0_init_58 rfl (lv_at hl 0 rfl) ?_
    refine lv_iload_n hx hb dX0_init_59 rfl (lv_at hl 2 rfl) ?_
    refine lv_sipush (v := 4096) hx hb dX0_init_60 (by decide) ?_
    refine lv_idiv hx hb dX0_init_63 (by decide) ?_
    refine lv_topi (fun x_18 ex_18 => ?_)
    refine va_putF (D := (dC, dI)) (ci := 0) (v := .int x_18) (ty := .int) (C := RX0) (T := TX0) (N := 16) hx hb hts uB0 tyX0 tyX0_ok nmX0 hown hK hP hD hS 0 rfl rfl 2 (by decide) (hts _ wm_110) (fun _ h9 => h9) rfl hin rfl (by decide +kernel) rfl rfl (by rw [hlen_h0]; decide) dX0_init_64 (fun H locs hP hD hS => ?_)
    obtain ⟨fs_19, efs_19⟩ : ∃ z9, z9 = (fs_17).set 2 (.int x_18) := ⟨_, rfl⟩
    have hP : va_P (dC, dI) vwCl [(h0, .inr (0, fs_19)), (q_1, .inr (4, fs_2))] H := by rw [efs_19]; exact hP
    have hD : va_D A [(h0, .inr (0, fs_19)), (q_1, .inr (4, fs_2))] := by rw [efs_19]; exact hD
    have hf5_h0 : fs_19[5]? = some (.ref q_1) := by rw [efs_19, List.getElem?_set_ne (by decide)]; exact hf5_h0
    have hf8_h0 : fs_19[8]? = some (.int 9) := by rw [efs_19, List.getElem?_set_ne (by decide)]; exact hf8_h0
    have hf9_h0 : fs_19[9]? = some (.int 1) := by rw [efs_19, List.getElem?_set_ne (by decide)]; exact hf9_h0
    have hf10_h0 : fs_19[10]? = some (.int 1000) := by rw [efs_19, List.getElem?_set_ne (by decide)]; exact hf10_h0
    have hf0_h0 : fs_19[0]? = some (.int x_7) := by rw [efs_19, List.getElem?_set_ne (by decide)]; exact hf0_h0
    have hf1_h0 : fs_19[1]? = some (.int 1) := by rw [efs_19, List.getElem?_set_ne (by decide)]; exact hf1_h0
    have hf2_h0 : fs_19[2]? = some (.int x_18) := by rw [efs_19]; exact List.getElem?_set_self (by rw [hlen_h0]; decide)
    have hlen_h0 : fs_19.length = 16 := by rw [efs_19, List.length_set]; exact hlen_h0
    refine lv_aload_n hx hb dX0_init_67 rfl (lv_at hl 0 rfl) ?_
    refine lv_iload_n hx hb dX0_init_68 rfl (lv_at hl 2 rfl) ?_
    refine lv_sipush (v := 4096) hx hb dX0_init_69 (by decide) ?_
    refine lv_irem hx hb dX0_init_72 (by decide) ?_
    refine lv_topi (fun x_20 ex_20 => ?_)
    refine va_putF (D := (dC, dI)) (ci := 0) (v := .int x_20) (ty := .int) (C := RX0) (T := TX0) (N := 16) hx hb hts uB0 tyX0 tyX0_ok nmX0 hown hK hP hD hS 0 rfl rfl 3 (by decide) (hts _ wm_111) (fun _ h9 => h9) rfl hin rfl (by decide +kernel) rfl rfl (by rw [hlen_h0]; decide) dX0_init_73 (fun H locs hP hD hS => ?_)
    obtain ⟨fs_21, efs_21⟩ : ∃ z9, z9 = (fs_19).set 3 (.int x_20) := ⟨_, rfl⟩
    have hP : va_P (dC, dI) vwCl [(h0, .inr (0, fs_21)), (q_1, .inr (4, fs_2))] H := by rw [efs_21]; exact hP
    have hD : va_D A [(h0, .inr (0, fs_21)), (q_1, .inr (4, fs_2))] := by rw [efs_21]; exact hD
    have hf5_h0 : fs_21[5]? = some (.ref q_1) := by rw [efs_21, List.getElem?_set_ne (by decide)]; exact hf5_h0
    have hf8_h0 : fs_21[8]? = some (.int 9) := by rw [efs_21, List.getElem?_set_ne (by decide)]; exact hf8_h0
    have hf9_h0 : fs_21[9]? = some (.int 1) := by rw [efs_21, List.getElem?_set_ne (by decide)]; exact hf9_h0
    have hf10_h0 : fs_21[10]? = some (.int 1000) := by rw [efs_21, List.getElem?_set_ne (by decide)]; exact hf10_h0
    have hf0_h0 : fs_21[0]? = some (.int x_7) := by rw [efs_21, List.getElem?_set_ne (by decide)]; exact hf0_h0
    have hf1_h0 : fs_21[1]? = some (.int 1) := by rw [efs_21, List.getElem?_set_ne (by decide)]; exact hf1_h0
    have hf2_h0 : fs_21[2]? = some (.int x_18) := by rw [efs_21, List.getElem?_set_ne (by decide)]; exact hf2_h0
    have hf3_h0 : fs_21[3]? = some (.int x_20) := by rw [efs_21]; exact List.getElem?_set_self (by rw [hlen_h0]; decide)
    have hlen_h0 : fs_21.length = 16 := by rw [efs_21, List.length_set]; exact hlen_h0
    refine lv_aload_n hx hb dX0_init_76 rfl (lv_at hl 0 rfl) ?_
    refine lv_iload_n hx hb dX0_init_77 rfl (lv_at hl 3 rfl) ?_
    refine va_putF (D := (dC, dI)) (ci := 0) (v := .int z) (ty := .int) (C := RX0) (T := TX0) (N := 16) hx hb hts uB0 tyX0 tyX0_ok nmX0 hown hK hP hD hS 0 rfl rfl 4 (by decide) (hts _ wm_112) (fun _ h9 => h9) rfl hin rfl (by decide +kernel) rfl rfl (by rw [hlen_h0]; decide) dX0_init_78 (fun H locs hP hD hS => ?_)
    obtain ⟨fs_22, efs_22⟩ : ∃ z9, z9 = (fs_21).set 4 (.int z) := ⟨_, rfl⟩
    have hP : va_P (dC, dI) vwCl [(h0, .inr (0, fs_22)), (q_1, .inr (4, fs_2))] H := by rw [efs_22]; exact hP
    have hD : va_D A [(h0, .inr (0, fs_22)), (q_1, .inr (4, fs_2))] := by rw [efs_22]; exact hD
    have hf5_h0 : fs_22[5]? = some (.ref q_1) := by rw [efs_22, List.getElem?_set_ne (by decide)]; exact hf5_h0
    have hf8_h0 : fs_22[8]? = some (.int 9) := by rw [efs_22, List.getElem?_set_ne (by decide)]; exact hf8_h0
    have hf9_h0 : fs_22[9]? = some (.int 1) := by rw [efs_22, List.getElem?_set_ne (by decide)]; exact hf9_h0
    have hf10_h0 : fs_22[10]? = some (.int 1000) := by rw [efs_22, List.getElem?_set_ne (by decide)]; exact hf10_h0
    have hf0_h0 : fs_22[0]? = some (.int x_7) := by rw [efs_22, List.getElem?_set_ne (by decide)]; exact hf0_h0
    have hf1_h0 : fs_22[1]? = some (.int 1) := by rw [efs_22, List.getElem?_set_ne (by decide)]; exact hf1_h0
    have hf2_h0 : fs_22[2]? = some (.int x_18) := by rw [efs_22, List.getElem?_set_ne (by decide)]; exact hf2_h0
    have hf3_h0 : fs_22[3]? = some (.int x_20) := by rw [efs_22, List.getElem?_set_ne (by decide)]; exact hf3_h0
    have hf4_h0 : fs_22[4]? = some (.int z) := by rw [efs_22]; exact List.getElem?_set_self (by rw [hlen_h0]; decide)
    have hlen_h0 : fs_22.length = 16 := by rw [efs_22, List.length_set]; exact hlen_h0
    exact W.vret hx hb hr (fun t ht hW => ⟨⟨fs_22, rfl, trivial, by show va_P (dC, dI) vwCl [(h0, .inr (0, fs_22))] t.heap; rw [ht]; exact hP.sub [0] rfl⟩, hS.F ht⟩) hS.2.2 dX0_init_81
set_option maxHeartbeats 4000000 in
set_option maxRecDepth 100000 in
theorem f_campaign (l : Launch) (dC : Nat → ClassId) (dI : Nat → Nat → Nat) (sz : Nat) (h0 : Nat) (fs : List Value) (qc : Nat) (cC : ClassId) (x y z : Int32) (hf1 : fs[1]? = some (.ref qc)) (hf8 : fs[8]? = some (.int 0)) (hlen_h0 : fs.length = 17)  : mFi l yX5_campaign cX5_campaign 4 3 2 24 (dC, dI) [(h0, .inr (5, fs)), (qc, .inl (cC, 40, .inr (.inr (.inr (.inr (fun _ => none))))))] sz [(cC, .object RX0)] (va_Nw (.methodLinkNest RX0 11 yX4_init "NoticeMarket")) [.ref h0, .int x, .int y, .int z] (fun r => r = if cpOk x y z then 0 else (-1)) := by
  refine Met.ofW (cc := cX5_campaign) (maxL := 4) (ret := some .int) (by decide) rfl ?_
  intro p e s m args below meth c s₁ B hml hv
  obtain ⟨rfl, hsz, hP, hK, hD0, hex⟩ := hv
  subst hsz
  have hx := B.exec
  have hb := B.bytes
  have hr := B.returns
  have hlocks := B.notSynchronized
  have hts0 := atoms_spec (ws := Cond.code yX5_campaign cX5_campaign 4 (some .int) :: lw_B) B.pre
  have hts : ∀ w ∈ lw_B, w.before _ s = true := fun w h => hts0 w (List.mem_cons_of_mem _ h)
  have hown : s.vm.findClass RX5 = some m.cls := findClass_of_methodNamed B.named
  have hD := hD0.self (sz := s.heap.size)
  generalize hAe : va_A [(h0, .inr (5, fs)), (qc, .inl (cC, 40, .inr (.inr (.inr (.inr (fun _ => none))))))] s.heap.size = A at hD ⊢
  have hA : ∀ q : Nat, s.heap.size ≤ q → A q := fun q h => by rw [← hAe]; exact Or.inr h
  have hS : va_S A s.heap s.heap [] := va_S.rf
  have hl := lv_entry ([.ref h0, .int x, .int y, .int z]) (n := 4) (Nat.le_of_ble_eq_true rfl)
  rw [lg_entry_eq]
  generalize (lg_sl ([.ref h0, .int x, .int y, .int z]) ++ List.replicate (4 - (lg_sl ([.ref h0, .int x, .int y, .int z])).length) Slot.unset).toArray = ls at hl ⊢
  have hl : lv_has ls 4 [(0, .ref h0), (1, .int x), (2, .int y), (3, .int z)] := hl
  refine lv_iload_n hx hb dX5_campaign_0 rfl (lv_at hl 1 rfl) ?_
  refine k_S ⟨hx, hb, hml, hown, hts⟩ (c_isSort l x) 1 wm_113 wm_114 wm_2 wm_115 (by decide +kernel) ⟨Nat.le_of_ble_eq_true rfl, Nat.le_of_ble_eq_true rfl⟩ rfl hl.1 rfl (Nat.le_of_ble_eq_true rfl) dX5_campaign_1 ⟨Nat.le_of_ble_eq_true rfl, Nat.le_of_ble_eq_true rfl⟩ hS hP (fun r_1 H locs hpr_1 hP hS => ?_)
  refine lv_if_eq (tgt := 25) hx hb dX5_campaign_4 (by decide) (fun c_2 => ?_) (fun c_2 => ?_)
  · skip
    have g_2 := k_ff hpr_1 c_2
    refine lv_iconst (v := (-1)) hx hb dX5_campaign_25 (by decide) ?_
    refine W.widen (k := 2) (n := 24) (Nat.le_of_ble_eq_true rfl) (Nat.le_of_ble_eq_true rfl) ?_
    exact W.iret (v := (-1)) hx hb hr (fun t ht hW => ⟨⟨(-1), (), rfl, (by exact (if_neg (fun q => g_2 q.1)).symm), trivial⟩, hS.F ht⟩) hS.2.2 dX5_campaign_26
  · skip
    have g_2 := k_ft hpr_1 c_2
    refine lv_iload_n hx hb dX5_campaign_7 rfl (lv_at hl 2 rfl) ?_
    refine k_S ⟨hx, hb, hml, hown, hts⟩ (c_isWish l y) 1 wm_116 wm_117 wm_2 wm_118 (by decide +kernel) ⟨Nat.le_of_ble_eq_true rfl, Nat.le_of_ble_eq_true rfl⟩ rfl hl.1 rfl (Nat.le_of_ble_eq_true rfl) dX5_campaign_8 ⟨Nat.le_of_ble_eq_true rfl, Nat.le_of_ble_eq_true rfl⟩ hS hP (fun r_3 H locs hpr_3 hP hS => ?_)
    refine lv_if_eq (tgt := 25) hx hb dX5_campaign_11 (by decide) (fun c_4 => ?_) (fun c_4 => ?_)
    · skip
      have g_4 := k_ff hpr_3 c_4
      refine lv_iconst (v := (-1)) hx hb dX5_campaign_25 (by decide) ?_
      refine W.widen (k := 2) (n := 24) (Nat.le_of_ble_eq_true rfl) (Nat.le_of_ble_eq_true rfl) ?_
      exact W.iret (v := (-1)) hx hb hr (fun t ht hW => ⟨⟨(-1), (), rfl, (by exact (if_neg (fun q => g_4 q.2.1)).symm), trivial⟩, hS.F ht⟩) hS.2.2 dX5_campaign_26
    · skip
      have g_4 := k_ft hpr_3 c_4
      refine lv_iload_n hx hb dX5_campaign_14 rfl (lv_at hl 1 rfl) ?_
      refine lv_bipush (v := 10) hx hb dX5_campaign_15 (by decide) ?_
      refine lv_idiv hx hb dX5_campaign_17 (by decide) ?_
      refine lv_topi (fun x_5 ex_5 => ?_)
      refine lv_iload_n hx hb dX5_campaign_18 rfl (lv_at hl 3 rfl) ?_
      refine k_S ⟨hx, hb, hml, hown, hts⟩ (c_isBid l x_5 z) 2 wm_119 wm_120 wm_2 wm_121 (by decide +kernel) ⟨Nat.le_of_ble_eq_true rfl, Nat.le_of_ble_eq_true rfl⟩ rfl hl.1 rfl (Nat.le_of_ble_eq_true rfl) dX5_campaign_19 ⟨Nat.le_of_ble_eq_true rfl, Nat.le_of_ble_eq_true rfl⟩ hS hP (fun r_6 H locs hpr_6 hP hS => ?_)
      refine lv_if_ne (tgt := 27) hx hb dX5_campaign_22 (by decide) (fun c_7 => ?_) (fun c_7 => ?_)
      · skip
        have g_7 := k_ft hpr_6 c_7
        refine lv_aload_n hx hb dX5_campaign_27 rfl (lv_at hl 0 rfl) ?_
        refine va_get (D := (dC, dI)) (ci := 5) (v := .int 0) (C := RX5) (T := TX5) (N := 17) hx hb hts uB5 hown hK hP 0 rfl rfl 8 (by decide) (hts _ wm_9) (fun _ h9 => h9) hf8 dX5_campaign_28 ?_
        refine lv_bipush (v := 40) hx hb dX5_campaign_31 (by decide) ?_
        refine lv_icmp_lt (tgt := 39) hx hb dX5_campaign_33 (by decide) (fun _ => ?_) (fun h9 => absurd (by decide) h9)
        refine lv_aload_n hx hb dX5_campaign_39 rfl (lv_at hl 0 rfl) ?_
        refine va_get (D := (dC, dI)) (ci := 5) (v := .ref qc) (C := RX5) (T := TX5) (N := 17) hx hb hts uB5 hown hK hP 0 rfl rfl 1 (by decide) (hts _ wm_122) (fun _ h9 => h9) hf1 dX5_campaign_40 ?_
        refine lv_aload_n hx hb dX5_campaign_43 rfl (lv_at hl 0 rfl) ?_
        refine va_get (D := (dC, dI)) (ci := 5) (v := .int 0) (C := RX5) (T := TX5) (N := 17) hx hb hts uB5 hown hK hP 0 rfl rfl 8 (by decide) (hts _ wm_9) (fun _ h9 => h9) hf8 dX5_campaign_44 ?_
        refine va_new (ci := 0) (fs := [.int 0, .int 0, .int 0, .int 0, .int 0, .null, .int 0, .int 0, .int 0, .int 0, .int 0, .int 0, .long 0, .int 0, .int 0, .long 0]) (C := RX0) (T := TX0) (N := 16) hx hb hts uB0 tyX0 tyX0_ok hown (hts _ wm_123) (hts _ wm_124) (hts _ wm_125) hK hP hD hS hA rfl (by decide +kernel) (Nat.le_of_ble_eq_true rfl) (Nat.le_of_ble_eq_true rfl) dX5_campaign_47 (fun q_8 H hP hD hS => ?_)
        have hP : va_P (dC, dI) vwCl [(h0, .inr (5, fs)), (qc, .inl (cC, 40, .inr (.inr (.inr (.inr (fun _ => none)))))), (q_8, .inr (0, [.int 0, .int 0, .int 0, .int 0, .int 0, .null, .int 0, .int 0, .int 0, .int 0, .int 0, .int 0, .long 0, .int 0, .int 0, .long 0]))] H := hP
        have hD : va_D A [(h0, .inr (5, fs)), (qc, .inl (cC, 40, .inr (.inr (.inr (.inr (fun _ => none)))))), (q_8, .inr (0, [.int 0, .int 0, .int 0, .int 0, .int 0, .null, .int 0, .int 0, .int 0, .int 0, .int 0, .int 0, .long 0, .int 0, .int 0, .long 0]))] := hD
        refine lv_dup hx hb dX5_campaign_50 rfl ?_
        refine lv_iload_n hx hb dX5_campaign_51 rfl (lv_at hl 1 rfl) ?_
        refine lv_iload_n hx hb dX5_campaign_52 rfl (lv_at hl 2 rfl) ?_
        refine lv_iload_n hx hb dX5_campaign_53 rfl (lv_at hl 3 rfl) ?_
        refine k_OI (ci := 0) (q0 := 2) (tc := []) (ex := (va_Nw (.methodLinkNest RX0 11 yX4_init "NoticeMarket"))) ⟨hx, hb, hml, hown, hts⟩ (o_Campaign l dC dI H.size q_8 [.int 0, .int 0, .int 0, .int 0, .int 0, .null, .int 0, .int 0, .int 0, .int 0, .int 0, .int 0, .long 0, .int 0, .int 0, .long 0] x y z rfl) 3 wm_126 wm_127 wm_125 wm_128 rfl (by decide +kernel) ⟨Nat.le_of_ble_eq_true rfl, Nat.le_of_ble_eq_true rfl⟩ (hK.sub (tys' := []) [] rfl) (exNw hex) rfl rfl hl.1 rfl (Nat.le_of_ble_eq_true rfl) dX5_campaign_54 ⟨Nat.le_of_ble_eq_true rfl, Nat.le_of_ble_eq_true rfl⟩ hP hD hS hA (fun fs_9 H locs efs_9 hP hD hS => ?_)
        have hP : va_P (dC, dI) vwCl [(h0, .inr (5, fs)), (qc, .inl (cC, 40, .inr (.inr (.inr (.inr (fun _ => none)))))), (q_8, .inr (0, fs_9))] H := hP
        have hD : va_D A [(h0, .inr (5, fs)), (qc, .inl (cC, 40, .inr (.inr (.inr (.inr (fun _ => none)))))), (q_8, .inr (0, fs_9))] := hD
        refine va_astq hx hb hK hP hD hS 1 0 2 0 rfl rfl rfl rfl (vp_in_iff.mpr (by decide)) dX5_campaign_57 (fun H locs hP hD hS => ?_)
        obtain ⟨f_10, ef_10⟩ : ∃ z9, z9 = va_up (fun _ => none) (Int32.toNatClampNeg 0) (some q_8) := ⟨_, rfl⟩
        have hP : va_P (dC, dI) vwCl [(h0, .inr (5, fs)), (qc, .inl (cC, 40, .inr (.inr (.inr (.inr f_10))))), (q_8, .inr (0, fs_9))] H := by rw [ef_10]; exact hP
        have hD : va_D A [(h0, .inr (5, fs)), (qc, .inl (cC, 40, .inr (.inr (.inr (.inr f_10))))), (q_8, .inr (0, fs_9))] := by rw [ef_10]; exact hD
        refine lv_aload_n hx hb dX5_campaign_58 rfl (lv_at hl 0 rfl) ?_
        refine lv_dup hx hb dX5_campaign_59 rfl ?_
        refine va_get (D := (dC, dI)) (ci := 5) (v := .int 0) (C := RX5) (T := TX5) (N := 17) hx hb hts uB5 hown hK hP 0 rfl rfl 8 (by decide) (hts _ wm_9) (fun _ h9 => h9) hf8 dX5_campaign_60 ?_
        refine lv_iconst (v := 1) hx hb dX5_campaign_63 (by decide) ?_
        refine lv_iadd hx hb dX5_campaign_64 ?_
        refine lv_topi (fun x_11 ex_11 => ?_)
        obtain rfl : x_11 = 1 := ex_11.trans (by decide)
        refine va_put (D := (dC, dI)) (ci := 5) (v := .int 1) (ty := .int) (C := RX5) (T := TX5) (N := 17) hx hb hts uB5 tyX5 tyX5_ok nmX5 hown hK hP hD hS 0 rfl rfl 8 (by decide) (hts _ wm_9) (fun _ h9 => h9) rfl (by decide +kernel) rfl rfl (by rw [hlen_h0]; decide) dX5_campaign_65 (fun H locs hP hD hS => ?_)
        obtain ⟨fs_12, efs_12⟩ : ∃ z9, z9 = (fs).set 8 (.int 1) := ⟨_, rfl⟩
        have hP : va_P (dC, dI) vwCl [(h0, .inr (5, fs_12)), (qc, .inl (cC, 40, .inr (.inr (.inr (.inr f_10))))), (q_8, .inr (0, fs_9))] H := by rw [efs_12]; exact hP
        have hD : va_D A [(h0, .inr (5, fs_12)), (qc, .inl (cC, 40, .inr (.inr (.inr (.inr f_10))))), (q_8, .inr (0, fs_9))] := by rw [efs_12]; exact hD
        have hf1 : fs_12[1]? = some (.ref qc) := by rw [efs_12, List.getElem?_set_ne (by decide)]; exact hf1
        have hf8 : fs_12[8]? = some (.int 1) := by rw [efs_12]; exact List.getElem?_set_self (by rw [hlen_h0]; decide)
        have hlen_h0 : fs_12.length = 17 := by rw [efs_12, List.length_set]; exact hlen_h0
        refine lv_aload_n hx hb dX5_campaign_68 rfl (lv_at hl 0 rfl) ?_
        refine va_get (D := (dC, dI)) (ci := 5) (v := .int 1) (C := RX5) (T := TX5) (N := 17) hx hb hts uB5 hown hK hP 0 rfl rfl 8 (by decide) (hts _ wm_9) (fun _ h9 => h9) hf8 dX5_campaign_69 ?_
        refine lv_iconst (v := 1) hx hb dX5_campaign_72 (by decide) ?_
        refine lv_isub hx hb dX5_campaign_73 ?_
        refine lv_topi (fun x_13 ex_13 => ?_)
        obtain rfl : x_13 = 0 := ex_13.trans (by decide)
        refine W.widen (k := 2) (n := 24) (Nat.le_of_ble_eq_true rfl) (Nat.le_of_ble_eq_true rfl) ?_
        exact W.iret (v := 0) hx hb hr (fun t ht hW => ⟨⟨0, (), rfl, (by subst ex_5; exact (if_pos ⟨g_2, g_4, g_7⟩).symm), trivial⟩, hS.F ht⟩) hS.2.2 dX5_campaign_74
      · skip
        have g_7 := k_ff hpr_6 c_7
        refine lv_iconst (v := (-1)) hx hb dX5_campaign_25 (by decide) ?_
        refine W.widen (k := 2) (n := 24) (Nat.le_of_ble_eq_true rfl) (Nat.le_of_ble_eq_true rfl) ?_
        exact W.iret (v := (-1)) hx hb hr (fun t ht hW => ⟨⟨(-1), (), rfl, (by subst ex_5; exact (if_neg (fun q => g_7 q.2.2)).symm), trivial⟩, hS.F ht⟩) hS.2.2 dX5_campaign_26
set_option maxHeartbeats 4000000 in
set_option maxRecDepth 100000 in
theorem f_mcampaign (l : Launch) (dC : Nat → ClassId) (dI : Nat → Nat → Nat) (sz : Nat) (h0 : Nat) (fs : List Value) (q_sort q_pays q_must q_never q_bid q_cap q_span q_throttle q_promised : Nat) (cI : ClassId) (x y z : Int32) (hfc : fs[9]? = some (.int 0)) (hf_sort : fs[10]? = some (.ref q_sort)) (hf_pays : fs[11]? = some (.ref q_pays)) (hf_must : fs[12]? = some (.ref q_must)) (hf_never : fs[13]? = some (.ref q_never)) (hf_bid : fs[14]? = some (.ref q_bid)) (hf_cap : fs[17]? = some (.ref q_cap)) (hf_span : fs[18]? = some (.ref q_span)) (hf_throttle : fs[19]? = some (.ref q_throttle)) (hf_promised : fs[22]? = some (.ref q_promised)) (hlen_h0 : fs.length = 51)  : mFi l yX6_campaign cX6_campaign 7 1 0 0 (dC, dI) [(h0, .inr (6, fs)), (q_sort, .inl (cI, 40, .inl (fun _ => 0))), (q_pays, .inl (cI, 40, .inl (fun _ => 0))), (q_must, .inl (cI, 40, .inl (fun _ => 0))), (q_never, .inl (cI, 40, .inl (fun _ => 0))), (q_bid, .inl (cI, 40, .inl (fun _ => 0))), (q_cap, .inl (cI, 40, .inl (fun _ => 0))), (q_span, .inl (cI, 40, .inl (fun _ => 0))), (q_throttle, .inl (cI, 40, .inl (fun _ => 0))), (q_promised, .inl (cI, 40, .inl (fun _ => 0)))] sz [(cI, .int)] (fun _ => True) [.ref h0, .int x, .int y, .int z] (fun r => r = if cpOk x y z then 0 else (-1)) := by
  refine Met.ofW (cc := cX6_campaign) (maxL := 7) (ret := some .int) (by decide) rfl ?_
  intro p e s m args below meth c s₁ B hml hv
  obtain ⟨rfl, hsz, hP, hK, hD0, hex⟩ := hv
  subst hsz
  have hx := B.exec
  have hb := B.bytes
  have hr := B.returns
  have hlocks := B.notSynchronized
  have hts0 := atoms_spec (ws := Cond.code yX6_campaign cX6_campaign 7 (some .int) :: lw_B) B.pre
  have hts : ∀ w ∈ lw_B, w.before _ s = true := fun w h => hts0 w (List.mem_cons_of_mem _ h)
  have hown : s.vm.findClass RX6 = some m.cls := findClass_of_methodNamed B.named
  have hD := hD0.self (sz := s.heap.size)
  generalize hAe : va_A [(h0, .inr (6, fs)), (q_sort, .inl (cI, 40, .inl (fun _ => 0))), (q_pays, .inl (cI, 40, .inl (fun _ => 0))), (q_must, .inl (cI, 40, .inl (fun _ => 0))), (q_never, .inl (cI, 40, .inl (fun _ => 0))), (q_bid, .inl (cI, 40, .inl (fun _ => 0))), (q_cap, .inl (cI, 40, .inl (fun _ => 0))), (q_span, .inl (cI, 40, .inl (fun _ => 0))), (q_throttle, .inl (cI, 40, .inl (fun _ => 0))), (q_promised, .inl (cI, 40, .inl (fun _ => 0)))] s.heap.size = A at hD ⊢
  have hA : ∀ q : Nat, s.heap.size ≤ q → A q := fun q h => by rw [← hAe]; exact Or.inr h
  have hS : va_S A s.heap s.heap [] := va_S.rf
  have hl := lv_entry ([.ref h0, .int x, .int y, .int z]) (n := 7) (Nat.le_of_ble_eq_true rfl)
  rw [lg_entry_eq]
  generalize (lg_sl ([.ref h0, .int x, .int y, .int z]) ++ List.replicate (7 - (lg_sl ([.ref h0, .int x, .int y, .int z])).length) Slot.unset).toArray = ls at hl ⊢
  have hl : lv_has ls 7 [(0, .ref h0), (1, .int x), (2, .int y), (3, .int z)] := hl
  refine lv_iload_n hx hb dX6_campaign_0 rfl (lv_at hl 1 rfl) ?_
  refine lv_bipush (v := 10) hx hb dX6_campaign_1 (by decide) ?_
  refine lv_idiv hx hb dX6_campaign_3 (by decide) ?_
  refine lv_topi (fun x_1 ex_1 => ?_)
  refine lv_istore (lv' := [(4, .int x_1), (0, .ref h0), (1, .int x), (2, .int y), (3, .int z)]) hx hb dX6_campaign_4 hl (by decide) rfl (fun ls hl => ?_)
  refine lv_iload_n hx hb dX6_campaign_6 rfl (lv_at hl 2 rfl) ?_
  refine lv_if_lt (tgt := 79) hx hb dX6_campaign_7 (by decide) (fun c_2 => ?_) (fun c_2 => ?_)
  · skip
    refine lv_iconst (v := 0) hx hb dX6_campaign_79 (by decide) ?_
    refine lv_istore (lv' := [(5, .int 0), (4, .int x_1), (0, .ref h0), (1, .int x), (2, .int y), (3, .int z)]) hx hb dX6_campaign_80 hl (by decide) rfl (fun ls hl => ?_)
    refine lv_iload hx hb dX6_campaign_82 (lv_at hl 0 rfl) ?_
    refine lv_if_eq (tgt := 101) hx hb dX6_campaign_84 (by decide) (fun _ => ?_) (fun h9 => absurd (by decide) h9)
    refine lv_iconst (v := (-1)) hx hb dX6_campaign_101 (by decide) ?_
    exact W.iret (v := (-1)) hx hb hr (fun t ht hW => ⟨⟨(-1), (), rfl, (by subst ex_1; have h1 := k_cp1 x; have h2 := k_cp2 y; simp only [Int32.lt_iff_toInt_lt, Int32.le_iff_toInt_le, ← Int32.toInt_inj, Int32.reduceToInt] at h1 h2 c_2; exact (if_neg (by unfold cpOk; simp only [Int32.lt_iff_toInt_lt, Int32.le_iff_toInt_le, ← Int32.toInt_inj, Int32.reduceToInt]; omega)).symm), trivial⟩, hS.F ht⟩) hS.2.2 dX6_campaign_102
  · skip
    refine lv_iload hx hb dX6_campaign_10 (lv_at hl 0 rfl) ?_
    refine lv_iconst (v := 0) hx hb dX6_campaign_12 (by decide) ?_
    refine lv_iconst (v := 2) hx hb dX6_campaign_13 (by decide) ?_
    refine k_S ⟨hx, hb, hml, hown, hts⟩ (c_in l x_1 0 2) 3 wm_4 wm_5 wm_6 wm_7 (by decide +kernel) ⟨Nat.le_of_ble_eq_true rfl, Nat.le_of_ble_eq_true rfl⟩ rfl hl.1 rfl (Nat.le_of_ble_eq_true rfl) dX6_campaign_14 ⟨Nat.le_of_ble_eq_true rfl, Nat.le_of_ble_eq_true rfl⟩ hS hP (fun r_3 H locs hpr_3 hP hS => ?_)
    refine lv_if_eq (tgt := 79) hx hb dX6_campaign_17 (by decide) (fun c_4 => ?_) (fun c_4 => ?_)
    · skip
      have g_4 := k_ff hpr_3 c_4
      refine lv_iconst (v := 0) hx hb dX6_campaign_79 (by decide) ?_
      refine lv_istore (lv' := [(5, .int 0), (4, .int x_1), (0, .ref h0), (1, .int x), (2, .int y), (3, .int z)]) hx hb dX6_campaign_80 hl (by decide) rfl (fun ls hl => ?_)
      refine lv_iload hx hb dX6_campaign_82 (lv_at hl 0 rfl) ?_
      refine lv_if_eq (tgt := 101) hx hb dX6_campaign_84 (by decide) (fun _ => ?_) (fun h9 => absurd (by decide) h9)
      refine lv_iconst (v := (-1)) hx hb dX6_campaign_101 (by decide) ?_
      exact W.iret (v := (-1)) hx hb hr (fun t ht hW => ⟨⟨(-1), (), rfl, (by subst ex_1; have h1 := k_cp1 x; have h2 := k_cp2 y; simp only [Int32.lt_iff_toInt_lt, Int32.le_iff_toInt_le, ← Int32.toInt_inj, Int32.reduceToInt] at h1 h2 c_2 g_4; exact (if_neg (by unfold cpOk; simp only [Int32.lt_iff_toInt_lt, Int32.le_iff_toInt_le, ← Int32.toInt_inj, Int32.reduceToInt]; omega)).symm), trivial⟩, hS.F ht⟩) hS.2.2 dX6_campaign_102
    · skip
      have g_4 := k_ft hpr_3 c_4
      refine lv_iload_n hx hb dX6_campaign_20 rfl (lv_at hl 2 rfl) ?_
      refine lv_bipush (v := 10) hx hb dX6_campaign_21 (by decide) ?_
      refine lv_irem hx hb dX6_campaign_23 (by decide) ?_
      refine lv_topi (fun x_5 ex_5 => ?_)
      refine lv_iconst (v := 0) hx hb dX6_campaign_24 (by decide) ?_
      refine lv_iload hx hb dX6_campaign_25 (lv_at hl 0 rfl) ?_
      refine lv_if_ne (tgt := 34) hx hb dX6_campaign_27 (by decide) (fun c_6 => ?_) (fun c_6 => ?_)
      · skip
        refine lv_iconst (v := 0) hx hb dX6_campaign_34 (by decide) ?_
        refine k_S ⟨hx, hb, hml, hown, hts⟩ (c_in l x_5 0 0) 3 wm_4 wm_5 wm_6 wm_7 (by decide +kernel) ⟨Nat.le_of_ble_eq_true rfl, Nat.le_of_ble_eq_true rfl⟩ rfl hl.1 rfl (Nat.le_of_ble_eq_true rfl) dX6_campaign_35 ⟨Nat.le_of_ble_eq_true rfl, Nat.le_of_ble_eq_true rfl⟩ hS hP (fun r_7 H locs hpr_7 hP hS => ?_)
        refine lv_if_eq (tgt := 79) hx hb dX6_campaign_38 (by decide) (fun c_8 => ?_) (fun c_8 => ?_)
        · skip
          have g_8 := k_ff hpr_7 c_8
          refine lv_iconst (v := 0) hx hb dX6_campaign_79 (by decide) ?_
          refine lv_istore (lv' := [(5, .int 0), (4, .int x_1), (0, .ref h0), (1, .int x), (2, .int y), (3, .int z)]) hx hb dX6_campaign_80 hl (by decide) rfl (fun ls hl => ?_)
          refine lv_iload hx hb dX6_campaign_82 (lv_at hl 0 rfl) ?_
          refine lv_if_eq (tgt := 101) hx hb dX6_campaign_84 (by decide) (fun _ => ?_) (fun h9 => absurd (by decide) h9)
          refine lv_iconst (v := (-1)) hx hb dX6_campaign_101 (by decide) ?_
          exact W.iret (v := (-1)) hx hb hr (fun t ht hW => ⟨⟨(-1), (), rfl, (by subst ex_1 ex_5; have h1 := k_cp1 x; have h2 := k_cp2 y; simp only [Int32.lt_iff_toInt_lt, Int32.le_iff_toInt_le, ← Int32.toInt_inj, Int32.reduceToInt] at h1 h2 c_2 g_4 c_6 g_8; exact (if_neg (by unfold cpOk; simp only [Int32.lt_iff_toInt_lt, Int32.le_iff_toInt_le, ← Int32.toInt_inj, Int32.reduceToInt]; omega)).symm), trivial⟩, hS.F ht⟩) hS.2.2 dX6_campaign_102
        · skip
          have g_8 := k_ft hpr_7 c_8
          refine lv_iload_n hx hb dX6_campaign_41 rfl (lv_at hl 3 rfl) ?_
          refine lv_iconst (v := 0) hx hb dX6_campaign_42 (by decide) ?_
          refine lv_ldc (v := 16777215) hx hb hown (hts _ wm_129) dX6_campaign_43 ?_
          refine k_S ⟨hx, hb, hml, hown, hts⟩ (c_in l y 0 16777215) 3 wm_4 wm_5 wm_6 wm_7 (by decide +kernel) ⟨Nat.le_of_ble_eq_true rfl, Nat.le_of_ble_eq_true rfl⟩ rfl hl.1 rfl (Nat.le_of_ble_eq_true rfl) dX6_campaign_45 ⟨Nat.le_of_ble_eq_true rfl, Nat.le_of_ble_eq_true rfl⟩ hS hP (fun r_9 H locs hpr_9 hP hS => ?_)
          refine lv_if_eq (tgt := 79) hx hb dX6_campaign_48 (by decide) (fun c_10 => ?_) (fun c_10 => ?_)
          · skip
            have g_10 := k_ff hpr_9 c_10
            refine lv_iconst (v := 0) hx hb dX6_campaign_79 (by decide) ?_
            refine lv_istore (lv' := [(5, .int 0), (4, .int x_1), (0, .ref h0), (1, .int x), (2, .int y), (3, .int z)]) hx hb dX6_campaign_80 hl (by decide) rfl (fun ls hl => ?_)
            refine lv_iload hx hb dX6_campaign_82 (lv_at hl 0 rfl) ?_
            refine lv_if_eq (tgt := 101) hx hb dX6_campaign_84 (by decide) (fun _ => ?_) (fun h9 => absurd (by decide) h9)
            refine lv_iconst (v := (-1)) hx hb dX6_campaign_101 (by decide) ?_
            exact W.iret (v := (-1)) hx hb hr (fun t ht hW => ⟨⟨(-1), (), rfl, (by subst ex_1 ex_5; have h1 := k_cp1 x; have h2 := k_cp2 y; simp only [Int32.lt_iff_toInt_lt, Int32.le_iff_toInt_le, ← Int32.toInt_inj, Int32.reduceToInt] at h1 h2 c_2 g_4 c_6 g_8 g_10; exact (if_neg (by unfold cpOk; simp only [Int32.lt_iff_toInt_lt, Int32.le_iff_toInt_le, ← Int32.toInt_inj, Int32.reduceToInt]; omega)).symm), trivial⟩, hS.F ht⟩) hS.2.2 dX6_campaign_102
          · skip
            have g_10 := k_ft hpr_9 c_10
            refine lv_iload hx hb dX6_campaign_51 (lv_at hl 0 rfl) ?_
            refine lv_iconst (v := 2) hx hb dX6_campaign_53 (by decide) ?_
            refine lv_icmp_ne (tgt := 64) hx hb dX6_campaign_54 (by decide) (fun c_11 => ?_) (fun c_11 => ?_)
            · skip
              refine lv_iload_n hx hb dX6_campaign_64 rfl (lv_at hl 4 rfl) ?_
              refine lv_iconst (v := 1) hx hb dX6_campaign_65 (by decide) ?_
              refine lv_sipush (v := 1000) hx hb dX6_campaign_66 (by decide) ?_
              refine k_S ⟨hx, hb, hml, hown, hts⟩ (c_in l z 1 1000) 3 wm_4 wm_5 wm_6 wm_7 (by decide +kernel) ⟨Nat.le_of_ble_eq_true rfl, Nat.le_of_ble_eq_true rfl⟩ rfl hl.1 rfl (Nat.le_of_ble_eq_true rfl) dX6_campaign_69 ⟨Nat.le_of_ble_eq_true rfl, Nat.le_of_ble_eq_true rfl⟩ hS hP (fun r_12 H locs hpr_12 hP hS => ?_)
              refine lv_if_eq (tgt := 79) hx hb dX6_campaign_72 (by decide) (fun c_13 => ?_) (fun c_13 => ?_)
              · skip
                have g_13 := k_ff hpr_12 c_13
                refine lv_iconst (v := 0) hx hb dX6_campaign_79 (by decide) ?_
                refine lv_istore (lv' := [(5, .int 0), (4, .int x_1), (0, .ref h0), (1, .int x), (2, .int y), (3, .int z)]) hx hb dX6_campaign_80 hl (by decide) rfl (fun ls hl => ?_)
                refine lv_iload hx hb dX6_campaign_82 (lv_at hl 0 rfl) ?_
                refine lv_if_eq (tgt := 101) hx hb dX6_campaign_84 (by decide) (fun _ => ?_) (fun h9 => absurd (by decide) h9)
                refine lv_iconst (v := (-1)) hx hb dX6_campaign_101 (by decide) ?_
                exact W.iret (v := (-1)) hx hb hr (fun t ht hW => ⟨⟨(-1), (), rfl, (by subst ex_1 ex_5; have h1 := k_cp1 x; have h2 := k_cp2 y; simp only [Int32.lt_iff_toInt_lt, Int32.le_iff_toInt_le, ← Int32.toInt_inj, Int32.reduceToInt] at h1 h2 c_2 g_4 c_6 g_8 g_10 c_11 g_13; exact (if_neg (by unfold cpOk; simp only [Int32.lt_iff_toInt_lt, Int32.le_iff_toInt_le, ← Int32.toInt_inj, Int32.reduceToInt]; omega)).symm), trivial⟩, hS.F ht⟩) hS.2.2 dX6_campaign_102
              · skip
                have g_13 := k_ft hpr_12 c_13
                refine lv_iconst (v := 1) hx hb dX6_campaign_75 (by decide) ?_
                refine lv_goto (tgt := 80) hx hb dX6_campaign_76 (by decide) ?_
                refine lv_istore (lv' := [(5, .int 1), (4, .int x_1), (0, .ref h0), (1, .int x), (2, .int y), (3, .int z)]) hx hb dX6_campaign_80 hl (by decide) rfl (fun ls hl => ?_)
                refine lv_iload hx hb dX6_campaign_82 (lv_at hl 0 rfl) ?_
                refine lv_if_eq (tgt := 101) hx hb dX6_campaign_84 (by decide) (fun h9 => absurd h9 (by decide)) (fun _ => ?_)
                refine lv_iload_n hx hb dX6_campaign_87 rfl (lv_at hl 4 rfl) ?_
                refine lv_sipush (v := 4096) hx hb dX6_campaign_88 (by decide) ?_
                refine lv_idiv hx hb dX6_campaign_91 (by decide) ?_
                refine lv_topi (fun x_14 ex_14 => ?_)
                refine lv_iload_n hx hb dX6_campaign_92 rfl (lv_at hl 4 rfl) ?_
                refine lv_sipush (v := 4096) hx hb dX6_campaign_93 (by decide) ?_
                refine lv_irem hx hb dX6_campaign_96 (by decide) ?_
                refine lv_topi (fun x_15 ex_15 => ?_)
                refine lv_iand hx hb dX6_campaign_97 ?_
                refine lv_topi (fun x_16 ex_16 => ?_)
                refine lv_if_eq (tgt := 103) hx hb dX6_campaign_98 (by decide) (fun c_17 => ?_) (fun c_17 => ?_)
                · skip
                  refine lv_aload_n hx hb dX6_campaign_103 rfl (lv_at hl 2 rfl) ?_
                  refine va_get (D := (dC, dI)) (ci := 6) (v := .int 0) (C := RX6) (T := TX6) (N := 51) hx hb hts uB6 hown hK hP 0 rfl rfl 9 (by decide) (hts _ wm_12) (fun _ h9 => h9) hfc dX6_campaign_104 ?_
                  refine lv_bipush (v := 40) hx hb dX6_campaign_107 (by decide) ?_
                  refine lv_icmp_ne (tgt := 115) hx hb dX6_campaign_109 (by decide) (fun _ => ?_) (fun h9 => absurd h9 (by decide))
                  refine lv_aload_n hx hb dX6_campaign_115 rfl (lv_at hl 2 rfl) ?_
                  refine va_get (D := (dC, dI)) (ci := 6) (v := .int 0) (C := RX6) (T := TX6) (N := 51) hx hb hts uB6 hown hK hP 0 rfl rfl 9 (by decide) (hts _ wm_12) (fun _ h9 => h9) hfc dX6_campaign_116 ?_
                  refine lv_istore (lv' := [(6, .int 0), (5, .int 1), (4, .int x_1), (0, .ref h0), (1, .int x), (2, .int y), (3, .int z)]) hx hb dX6_campaign_119 hl (by decide) rfl (fun ls hl => ?_)
                  refine lv_aload_n hx hb dX6_campaign_121 rfl (lv_at hl 3 rfl) ?_
                  refine va_get (D := (dC, dI)) (ci := 6) (v := .ref q_sort) (C := RX6) (T := TX6) (N := 51) hx hb hts uB6 hown hK hP 0 rfl rfl 10 (by decide) (hts _ wm_130) (fun _ h9 => h9) hf_sort dX6_campaign_122 ?_
                  refine lv_iload hx hb dX6_campaign_125 (lv_at hl 0 rfl) ?_
                  refine lv_iload hx hb dX6_campaign_127 (lv_at hl 2 rfl) ?_
                  refine va_iast hx hb hK hP hD hS 1 0 rfl rfl (vp_in_iff.mpr (by decide)) dX6_campaign_129 (fun H locs hP hD hS => ?_)
                  obtain ⟨f_18, ef_18⟩ : ∃ z9, z9 = upd (fun _ => 0) (Int32.toNatClampNeg 0) x_1 := ⟨_, rfl⟩
                  have hP : va_P (dC, dI) vwCl [(h0, .inr (6, fs)), (q_sort, .inl (cI, 40, .inl f_18)), (q_pays, .inl (cI, 40, .inl (fun _ => 0))), (q_must, .inl (cI, 40, .inl (fun _ => 0))), (q_never, .inl (cI, 40, .inl (fun _ => 0))), (q_bid, .inl (cI, 40, .inl (fun _ => 0))), (q_cap, .inl (cI, 40, .inl (fun _ => 0))), (q_span, .inl (cI, 40, .inl (fun _ => 0))), (q_throttle, .inl (cI, 40, .inl (fun _ => 0))), (q_promised, .inl (cI, 40, .inl (fun _ => 0)))] H := by rw [ef_18]; exact hP
                  have hD : va_D A [(h0, .inr (6, fs)), (q_sort, .inl (cI, 40, .inl f_18)), (q_pays, .inl (cI, 40, .inl (fun _ => 0))), (q_must, .inl (cI, 40, .inl (fun _ => 0))), (q_never, .inl (cI, 40, .inl (fun _ => 0))), (q_bid, .inl (cI, 40, .inl (fun _ => 0))), (q_cap, .inl (cI, 40, .inl (fun _ => 0))), (q_span, .inl (cI, 40, .inl (fun _ => 0))), (q_throttle, .inl (cI, 40, .inl (fun _ => 0))), (q_promised, .inl (cI, 40, .inl (fun _ => 0)))] := by rw [ef_18]; exact hD
                  refine lv_aload_n hx hb dX6_campaign_130 rfl (lv_at hl 3 rfl) ?_
                  refine va_get (D := (dC, dI)) (ci := 6) (v := .ref q_pays) (C := RX6) (T := TX6) (N := 51) hx hb hts uB6 hown hK hP 0 rfl rfl 11 (by decide) (hts _ wm_131) (fun _ h9 => h9) hf_pays dX6_campaign_131 ?_
                  refine lv_iload hx hb dX6_campaign_134 (lv_at hl 0 rfl) ?_
                  refine lv_iload_n hx hb dX6_campaign_136 rfl (lv_at hl 4 rfl) ?_
                  refine lv_bipush (v := 10) hx hb dX6_campaign_137 (by decide) ?_
                  refine lv_irem hx hb dX6_campaign_139 (by decide) ?_
                  refine lv_topi (fun x_19 ex_19 => ?_)
                  refine va_iast hx hb hK hP hD hS 2 0 rfl rfl (vp_in_iff.mpr (by decide)) dX6_campaign_140 (fun H locs hP hD hS => ?_)
                  obtain ⟨f_20, ef_20⟩ : ∃ z9, z9 = upd (fun _ => 0) (Int32.toNatClampNeg 0) x_19 := ⟨_, rfl⟩
                  have hP : va_P (dC, dI) vwCl [(h0, .inr (6, fs)), (q_sort, .inl (cI, 40, .inl f_18)), (q_pays, .inl (cI, 40, .inl f_20)), (q_must, .inl (cI, 40, .inl (fun _ => 0))), (q_never, .inl (cI, 40, .inl (fun _ => 0))), (q_bid, .inl (cI, 40, .inl (fun _ => 0))), (q_cap, .inl (cI, 40, .inl (fun _ => 0))), (q_span, .inl (cI, 40, .inl (fun _ => 0))), (q_throttle, .inl (cI, 40, .inl (fun _ => 0))), (q_promised, .inl (cI, 40, .inl (fun _ => 0)))] H := by rw [ef_20]; exact hP
                  have hD : va_D A [(h0, .inr (6, fs)), (q_sort, .inl (cI, 40, .inl f_18)), (q_pays, .inl (cI, 40, .inl f_20)), (q_must, .inl (cI, 40, .inl (fun _ => 0))), (q_never, .inl (cI, 40, .inl (fun _ => 0))), (q_bid, .inl (cI, 40, .inl (fun _ => 0))), (q_cap, .inl (cI, 40, .inl (fun _ => 0))), (q_span, .inl (cI, 40, .inl (fun _ => 0))), (q_throttle, .inl (cI, 40, .inl (fun _ => 0))), (q_promised, .inl (cI, 40, .inl (fun _ => 0)))] := by rw [ef_20]; exact hD
                  refine lv_aload_n hx hb dX6_campaign_141 rfl (lv_at hl 3 rfl) ?_
                  refine va_get (D := (dC, dI)) (ci := 6) (v := .ref q_must) (C := RX6) (T := TX6) (N := 51) hx hb hts uB6 hown hK hP 0 rfl rfl 12 (by decide) (hts _ wm_132) (fun _ h9 => h9) hf_must dX6_campaign_142 ?_
                  refine lv_iload hx hb dX6_campaign_145 (lv_at hl 0 rfl) ?_
                  refine lv_iload_n hx hb dX6_campaign_147 rfl (lv_at hl 5 rfl) ?_
                  refine lv_sipush (v := 4096) hx hb dX6_campaign_148 (by decide) ?_
                  refine lv_idiv hx hb dX6_campaign_151 (by decide) ?_
                  refine lv_topi (fun x_21 ex_21 => ?_)
                  refine va_iast hx hb hK hP hD hS 3 0 rfl rfl (vp_in_iff.mpr (by decide)) dX6_campaign_152 (fun H locs hP hD hS => ?_)
                  obtain ⟨f_22, ef_22⟩ : ∃ z9, z9 = upd (fun _ => 0) (Int32.toNatClampNeg 0) x_21 := ⟨_, rfl⟩
                  have hP : va_P (dC, dI) vwCl [(h0, .inr (6, fs)), (q_sort, .inl (cI, 40, .inl f_18)), (q_pays, .inl (cI, 40, .inl f_20)), (q_must, .inl (cI, 40, .inl f_22)), (q_never, .inl (cI, 40, .inl (fun _ => 0))), (q_bid, .inl (cI, 40, .inl (fun _ => 0))), (q_cap, .inl (cI, 40, .inl (fun _ => 0))), (q_span, .inl (cI, 40, .inl (fun _ => 0))), (q_throttle, .inl (cI, 40, .inl (fun _ => 0))), (q_promised, .inl (cI, 40, .inl (fun _ => 0)))] H := by rw [ef_22]; exact hP
                  have hD : va_D A [(h0, .inr (6, fs)), (q_sort, .inl (cI, 40, .inl f_18)), (q_pays, .inl (cI, 40, .inl f_20)), (q_must, .inl (cI, 40, .inl f_22)), (q_never, .inl (cI, 40, .inl (fun _ => 0))), (q_bid, .inl (cI, 40, .inl (fun _ => 0))), (q_cap, .inl (cI, 40, .inl (fun _ => 0))), (q_span, .inl (cI, 40, .inl (fun _ => 0))), (q_throttle, .inl (cI, 40, .inl (fun _ => 0))), (q_promised, .inl (cI, 40, .inl (fun _ => 0)))] := by rw [ef_22]; exact hD
                  refine lv_aload_n hx hb dX6_campaign_153 rfl (lv_at hl 3 rfl) ?_
                  refine va_get (D := (dC, dI)) (ci := 6) (v := .ref q_never) (C := RX6) (T := TX6) (N := 51) hx hb hts uB6 hown hK hP 0 rfl rfl 13 (by decide) (hts _ wm_133) (fun _ h9 => h9) hf_never dX6_campaign_154 ?_
                  refine lv_iload hx hb dX6_campaign_157 (lv_at hl 0 rfl) ?_
                  refine lv_iload_n hx hb dX6_campaign_159 rfl (lv_at hl 5 rfl) ?_
                  refine lv_sipush (v := 4096) hx hb dX6_campaign_160 (by decide) ?_
                  refine lv_irem hx hb dX6_campaign_163 (by decide) ?_
                  refine lv_topi (fun x_23 ex_23 => ?_)
                  refine va_iast hx hb hK hP hD hS 4 0 rfl rfl (vp_in_iff.mpr (by decide)) dX6_campaign_164 (fun H locs hP hD hS => ?_)
                  obtain ⟨f_24, ef_24⟩ : ∃ z9, z9 = upd (fun _ => 0) (Int32.toNatClampNeg 0) x_23 := ⟨_, rfl⟩
                  have hP : va_P (dC, dI) vwCl [(h0, .inr (6, fs)), (q_sort, .inl (cI, 40, .inl f_18)), (q_pays, .inl (cI, 40, .inl f_20)), (q_must, .inl (cI, 40, .inl f_22)), (q_never, .inl (cI, 40, .inl f_24)), (q_bid, .inl (cI, 40, .inl (fun _ => 0))), (q_cap, .inl (cI, 40, .inl (fun _ => 0))), (q_span, .inl (cI, 40, .inl (fun _ => 0))), (q_throttle, .inl (cI, 40, .inl (fun _ => 0))), (q_promised, .inl (cI, 40, .inl (fun _ => 0)))] H := by rw [ef_24]; exact hP
                  have hD : va_D A [(h0, .inr (6, fs)), (q_sort, .inl (cI, 40, .inl f_18)), (q_pays, .inl (cI, 40, .inl f_20)), (q_must, .inl (cI, 40, .inl f_22)), (q_never, .inl (cI, 40, .inl f_24)), (q_bid, .inl (cI, 40, .inl (fun _ => 0))), (q_cap, .inl (cI, 40, .inl (fun _ => 0))), (q_span, .inl (cI, 40, .inl (fun _ => 0))), (q_throttle, .inl (cI, 40, .inl (fun _ => 0))), (q_promised, .inl (cI, 40, .inl (fun _ => 0)))] := by rw [ef_24]; exact hD
                  refine lv_aload_n hx hb dX6_campaign_165 rfl (lv_at hl 3 rfl) ?_
                  refine va_get (D := (dC, dI)) (ci := 6) (v := .ref q_bid) (C := RX6) (T := TX6) (N := 51) hx hb hts uB6 hown hK hP 0 rfl rfl 14 (by decide) (hts _ wm_134) (fun _ h9 => h9) hf_bid dX6_campaign_166 ?_
                  refine lv_iload hx hb dX6_campaign_169 (lv_at hl 0 rfl) ?_
                  refine lv_iload_n hx hb dX6_campaign_171 rfl (lv_at hl 6 rfl) ?_
                  refine va_iast hx hb hK hP hD hS 5 0 rfl rfl (vp_in_iff.mpr (by decide)) dX6_campaign_172 (fun H locs hP hD hS => ?_)
                  obtain ⟨f_25, ef_25⟩ : ∃ z9, z9 = upd (fun _ => 0) (Int32.toNatClampNeg 0) z := ⟨_, rfl⟩
                  have hP : va_P (dC, dI) vwCl [(h0, .inr (6, fs)), (q_sort, .inl (cI, 40, .inl f_18)), (q_pays, .inl (cI, 40, .inl f_20)), (q_must, .inl (cI, 40, .inl f_22)), (q_never, .inl (cI, 40, .inl f_24)), (q_bid, .inl (cI, 40, .inl f_25)), (q_cap, .inl (cI, 40, .inl (fun _ => 0))), (q_span, .inl (cI, 40, .inl (fun _ => 0))), (q_throttle, .inl (cI, 40, .inl (fun _ => 0))), (q_promised, .inl (cI, 40, .inl (fun _ => 0)))] H := by rw [ef_25]; exact hP
                  have hD : va_D A [(h0, .inr (6, fs)), (q_sort, .inl (cI, 40, .inl f_18)), (q_pays, .inl (cI, 40, .inl f_20)), (q_must, .inl (cI, 40, .inl f_22)), (q_never, .inl (cI, 40, .inl f_24)), (q_bid, .inl (cI, 40, .inl f_25)), (q_cap, .inl (cI, 40, .inl (fun _ => 0))), (q_span, .inl (cI, 40, .inl (fun _ => 0))), (q_throttle, .inl (cI, 40, .inl (fun _ => 0))), (q_promised, .inl (cI, 40, .inl (fun _ => 0)))] := by rw [ef_25]; exact hD
                  refine lv_aload_n hx hb dX6_campaign_173 rfl (lv_at hl 3 rfl) ?_
                  refine va_get (D := (dC, dI)) (ci := 6) (v := .ref q_cap) (C := RX6) (T := TX6) (N := 51) hx hb hts uB6 hown hK hP 0 rfl rfl 17 (by decide) (hts _ wm_135) (fun _ h9 => h9) hf_cap dX6_campaign_174 ?_
                  refine lv_iload hx hb dX6_campaign_177 (lv_at hl 0 rfl) ?_
                  refine lv_bipush (v := 9) hx hb dX6_campaign_179 (by decide) ?_
                  refine va_iast hx hb hK hP hD hS 6 0 rfl rfl (vp_in_iff.mpr (by decide)) dX6_campaign_181 (fun H locs hP hD hS => ?_)
                  obtain ⟨f_26, ef_26⟩ : ∃ z9, z9 = upd (fun _ => 0) (Int32.toNatClampNeg 0) 9 := ⟨_, rfl⟩
                  have hP : va_P (dC, dI) vwCl [(h0, .inr (6, fs)), (q_sort, .inl (cI, 40, .inl f_18)), (q_pays, .inl (cI, 40, .inl f_20)), (q_must, .inl (cI, 40, .inl f_22)), (q_never, .inl (cI, 40, .inl f_24)), (q_bid, .inl (cI, 40, .inl f_25)), (q_cap, .inl (cI, 40, .inl f_26)), (q_span, .inl (cI, 40, .inl (fun _ => 0))), (q_throttle, .inl (cI, 40, .inl (fun _ => 0))), (q_promised, .inl (cI, 40, .inl (fun _ => 0)))] H := by rw [ef_26]; exact hP
                  have hD : va_D A [(h0, .inr (6, fs)), (q_sort, .inl (cI, 40, .inl f_18)), (q_pays, .inl (cI, 40, .inl f_20)), (q_must, .inl (cI, 40, .inl f_22)), (q_never, .inl (cI, 40, .inl f_24)), (q_bid, .inl (cI, 40, .inl f_25)), (q_cap, .inl (cI, 40, .inl f_26)), (q_span, .inl (cI, 40, .inl (fun _ => 0))), (q_throttle, .inl (cI, 40, .inl (fun _ => 0))), (q_promised, .inl (cI, 40, .inl (fun _ => 0)))] := by rw [ef_26]; exact hD
                  refine lv_aload_n hx hb dX6_campaign_182 rfl (lv_at hl 3 rfl) ?_
                  refine va_get (D := (dC, dI)) (ci := 6) (v := .ref q_span) (C := RX6) (T := TX6) (N := 51) hx hb hts uB6 hown hK hP 0 rfl rfl 18 (by decide) (hts _ wm_136) (fun _ h9 => h9) hf_span dX6_campaign_183 ?_
                  refine lv_iload hx hb dX6_campaign_186 (lv_at hl 0 rfl) ?_
                  refine lv_iconst (v := 1) hx hb dX6_campaign_188 (by decide) ?_
                  refine va_iast hx hb hK hP hD hS 7 0 rfl rfl (vp_in_iff.mpr (by decide)) dX6_campaign_189 (fun H locs hP hD hS => ?_)
                  obtain ⟨f_27, ef_27⟩ : ∃ z9, z9 = upd (fun _ => 0) (Int32.toNatClampNeg 0) 1 := ⟨_, rfl⟩
                  have hP : va_P (dC, dI) vwCl [(h0, .inr (6, fs)), (q_sort, .inl (cI, 40, .inl f_18)), (q_pays, .inl (cI, 40, .inl f_20)), (q_must, .inl (cI, 40, .inl f_22)), (q_never, .inl (cI, 40, .inl f_24)), (q_bid, .inl (cI, 40, .inl f_25)), (q_cap, .inl (cI, 40, .inl f_26)), (q_span, .inl (cI, 40, .inl f_27)), (q_throttle, .inl (cI, 40, .inl (fun _ => 0))), (q_promised, .inl (cI, 40, .inl (fun _ => 0)))] H := by rw [ef_27]; exact hP
                  have hD : va_D A [(h0, .inr (6, fs)), (q_sort, .inl (cI, 40, .inl f_18)), (q_pays, .inl (cI, 40, .inl f_20)), (q_must, .inl (cI, 40, .inl f_22)), (q_never, .inl (cI, 40, .inl f_24)), (q_bid, .inl (cI, 40, .inl f_25)), (q_cap, .inl (cI, 40, .inl f_26)), (q_span, .inl (cI, 40, .inl f_27)), (q_throttle, .inl (cI, 40, .inl (fun _ => 0))), (q_promised, .inl (cI, 40, .inl (fun _ => 0)))] := by rw [ef_27]; exact hD
                  refine lv_aload_n hx hb dX6_campaign_190 rfl (lv_at hl 3 rfl) ?_
                  refine va_get (D := (dC, dI)) (ci := 6) (v := .ref q_throttle) (C := RX6) (T := TX6) (N := 51) hx hb hts uB6 hown hK hP 0 rfl rfl 19 (by decide) (hts _ wm_137) (fun _ h9 => h9) hf_throttle dX6_campaign_191 ?_
                  refine lv_iload hx hb dX6_campaign_194 (lv_at hl 0 rfl) ?_
                  refine lv_sipush (v := 1000) hx hb dX6_campaign_196 (by decide) ?_
                  refine va_iast hx hb hK hP hD hS 8 0 rfl rfl (vp_in_iff.mpr (by decide)) dX6_campaign_199 (fun H locs hP hD hS => ?_)
                  obtain ⟨f_28, ef_28⟩ : ∃ z9, z9 = upd (fun _ => 0) (Int32.toNatClampNeg 0) 1000 := ⟨_, rfl⟩
                  have hP : va_P (dC, dI) vwCl [(h0, .inr (6, fs)), (q_sort, .inl (cI, 40, .inl f_18)), (q_pays, .inl (cI, 40, .inl f_20)), (q_must, .inl (cI, 40, .inl f_22)), (q_never, .inl (cI, 40, .inl f_24)), (q_bid, .inl (cI, 40, .inl f_25)), (q_cap, .inl (cI, 40, .inl f_26)), (q_span, .inl (cI, 40, .inl f_27)), (q_throttle, .inl (cI, 40, .inl f_28)), (q_promised, .inl (cI, 40, .inl (fun _ => 0)))] H := by rw [ef_28]; exact hP
                  have hD : va_D A [(h0, .inr (6, fs)), (q_sort, .inl (cI, 40, .inl f_18)), (q_pays, .inl (cI, 40, .inl f_20)), (q_must, .inl (cI, 40, .inl f_22)), (q_never, .inl (cI, 40, .inl f_24)), (q_bid, .inl (cI, 40, .inl f_25)), (q_cap, .inl (cI, 40, .inl f_26)), (q_span, .inl (cI, 40, .inl f_27)), (q_throttle, .inl (cI, 40, .inl f_28)), (q_promised, .inl (cI, 40, .inl (fun _ => 0)))] := by rw [ef_28]; exact hD
                  refine lv_aload_n hx hb dX6_campaign_200 rfl (lv_at hl 3 rfl) ?_
                  refine va_get (D := (dC, dI)) (ci := 6) (v := .ref q_promised) (C := RX6) (T := TX6) (N := 51) hx hb hts uB6 hown hK hP 0 rfl rfl 22 (by decide) (hts _ wm_138) (fun _ h9 => h9) hf_promised dX6_campaign_201 ?_
                  refine lv_iload hx hb dX6_campaign_204 (lv_at hl 0 rfl) ?_
                  refine lv_iconst (v := 0) hx hb dX6_campaign_206 (by decide) ?_
                  refine va_iast hx hb hK hP hD hS 9 0 rfl rfl (vp_in_iff.mpr (by decide)) dX6_campaign_207 (fun H locs hP hD hS => ?_)
                  obtain ⟨f_29, ef_29⟩ : ∃ z9, z9 = upd (fun _ => 0) (Int32.toNatClampNeg 0) 0 := ⟨_, rfl⟩
                  have hP : va_P (dC, dI) vwCl [(h0, .inr (6, fs)), (q_sort, .inl (cI, 40, .inl f_18)), (q_pays, .inl (cI, 40, .inl f_20)), (q_must, .inl (cI, 40, .inl f_22)), (q_never, .inl (cI, 40, .inl f_24)), (q_bid, .inl (cI, 40, .inl f_25)), (q_cap, .inl (cI, 40, .inl f_26)), (q_span, .inl (cI, 40, .inl f_27)), (q_throttle, .inl (cI, 40, .inl f_28)), (q_promised, .inl (cI, 40, .inl f_29))] H := by rw [ef_29]; exact hP
                  have hD : va_D A [(h0, .inr (6, fs)), (q_sort, .inl (cI, 40, .inl f_18)), (q_pays, .inl (cI, 40, .inl f_20)), (q_must, .inl (cI, 40, .inl f_22)), (q_never, .inl (cI, 40, .inl f_24)), (q_bid, .inl (cI, 40, .inl f_25)), (q_cap, .inl (cI, 40, .inl f_26)), (q_span, .inl (cI, 40, .inl f_27)), (q_throttle, .inl (cI, 40, .inl f_28)), (q_promised, .inl (cI, 40, .inl f_29))] := by rw [ef_29]; exact hD
                  refine lv_aload_n hx hb dX6_campaign_208 rfl (lv_at hl 3 rfl) ?_
                  refine lv_dup hx hb dX6_campaign_209 rfl ?_
                  refine va_get (D := (dC, dI)) (ci := 6) (v := .int 0) (C := RX6) (T := TX6) (N := 51) hx hb hts uB6 hown hK hP 0 rfl rfl 9 (by decide) (hts _ wm_12) (fun _ h9 => h9) hfc dX6_campaign_210 ?_
                  refine lv_iconst (v := 1) hx hb dX6_campaign_213 (by decide) ?_
                  refine lv_iadd hx hb dX6_campaign_214 ?_
                  refine lv_topi (fun x_30 ex_30 => ?_)
                  obtain rfl : x_30 = 1 := ex_30.trans (by decide)
                  refine va_put (D := (dC, dI)) (ci := 6) (v := .int 1) (ty := .int) (C := RX6) (T := TX6) (N := 51) hx hb hts uB6 tyX6 tyX6_ok nmX6 hown hK hP hD hS 0 rfl rfl 9 (by decide) (hts _ wm_12) (fun _ h9 => h9) rfl (by decide +kernel) rfl rfl (by rw [hlen_h0]; decide) dX6_campaign_215 (fun H locs hP hD hS => ?_)
                  obtain ⟨fs_31, efs_31⟩ : ∃ z9, z9 = (fs).set 9 (.int 1) := ⟨_, rfl⟩
                  have hP : va_P (dC, dI) vwCl [(h0, .inr (6, fs_31)), (q_sort, .inl (cI, 40, .inl f_18)), (q_pays, .inl (cI, 40, .inl f_20)), (q_must, .inl (cI, 40, .inl f_22)), (q_never, .inl (cI, 40, .inl f_24)), (q_bid, .inl (cI, 40, .inl f_25)), (q_cap, .inl (cI, 40, .inl f_26)), (q_span, .inl (cI, 40, .inl f_27)), (q_throttle, .inl (cI, 40, .inl f_28)), (q_promised, .inl (cI, 40, .inl f_29))] H := by rw [efs_31]; exact hP
                  have hD : va_D A [(h0, .inr (6, fs_31)), (q_sort, .inl (cI, 40, .inl f_18)), (q_pays, .inl (cI, 40, .inl f_20)), (q_must, .inl (cI, 40, .inl f_22)), (q_never, .inl (cI, 40, .inl f_24)), (q_bid, .inl (cI, 40, .inl f_25)), (q_cap, .inl (cI, 40, .inl f_26)), (q_span, .inl (cI, 40, .inl f_27)), (q_throttle, .inl (cI, 40, .inl f_28)), (q_promised, .inl (cI, 40, .inl f_29))] := by rw [efs_31]; exact hD
                  have hf_sort : fs_31[10]? = some (.ref q_sort) := by rw [efs_31, List.getElem?_set_ne (by decide)]; exact hf_sort
                  have hf_pays : fs_31[11]? = some (.ref q_pays) := by rw [efs_31, List.getElem?_set_ne (by decide)]; exact hf_pays
                  have hf_must : fs_31[12]? = some (.ref q_must) := by rw [efs_31, List.getElem?_set_ne (by decide)]; exact hf_must
                  have hf_never : fs_31[13]? = some (.ref q_never) := by rw [efs_31, List.getElem?_set_ne (by decide)]; exact hf_never
                  have hf_bid : fs_31[14]? = some (.ref q_bid) := by rw [efs_31, List.getElem?_set_ne (by decide)]; exact hf_bid
                  have hf_cap : fs_31[17]? = some (.ref q_cap) := by rw [efs_31, List.getElem?_set_ne (by decide)]; exact hf_cap
                  have hf_span : fs_31[18]? = some (.ref q_span) := by rw [efs_31, List.getElem?_set_ne (by decide)]; exact hf_span
                  have hf_throttle : fs_31[19]? = some (.ref q_throttle) := by rw [efs_31, List.getElem?_set_ne (by decide)]; exact hf_throttle
                  have hf_promised : fs_31[22]? = some (.ref q_promised) := by rw [efs_31, List.getElem?_set_ne (by decide)]; exact hf_promised
                  have hfc : fs_31[9]? = some (.int 1) := by rw [efs_31]; exact List.getElem?_set_self (by rw [hlen_h0]; decide)
                  have hlen_h0 : fs_31.length = 51 := by rw [efs_31, List.length_set]; exact hlen_h0
                  refine lv_iload hx hb dX6_campaign_218 (lv_at hl 0 rfl) ?_
                  exact W.iret (v := 0) hx hb hr (fun t ht hW => ⟨⟨0, (), rfl, (by subst ex_1 ex_5 ex_14 ex_15 ex_16 ex_19 ex_21 ex_23; have h1 := k_cp1 x; have h2 := k_cp2 y; simp only [Int32.lt_iff_toInt_lt, Int32.le_iff_toInt_le, ← Int32.toInt_inj, Int32.reduceToInt] at h1 h2 c_2 g_4 c_6 g_8 g_10 c_11 g_13 c_17; exact (if_pos (by unfold cpOk; simp only [Int32.lt_iff_toInt_lt, Int32.le_iff_toInt_le, ← Int32.toInt_inj, Int32.reduceToInt]; omega)).symm), trivial⟩, hS.F ht⟩) hS.2.2 dX6_campaign_220
                · skip
                  refine lv_iconst (v := (-1)) hx hb dX6_campaign_101 (by decide) ?_
                  exact W.iret (v := (-1)) hx hb hr (fun t ht hW => ⟨⟨(-1), (), rfl, (by subst ex_1 ex_5 ex_14 ex_15 ex_16; have h1 := k_cp1 x; have h2 := k_cp2 y; simp only [Int32.lt_iff_toInt_lt, Int32.le_iff_toInt_le, ← Int32.toInt_inj, Int32.reduceToInt] at h1 h2 c_2 g_4 c_6 g_8 g_10 c_11 g_13 c_17; exact (if_neg (by unfold cpOk; simp only [Int32.lt_iff_toInt_lt, Int32.le_iff_toInt_le, ← Int32.toInt_inj, Int32.reduceToInt]; omega)).symm), trivial⟩, hS.F ht⟩) hS.2.2 dX6_campaign_102
            · skip
              refine lv_iload_n hx hb dX6_campaign_57 rfl (lv_at hl 4 rfl) ?_
              refine lv_if_ne (tgt := 79) hx hb dX6_campaign_58 (by decide) (fun c_32 => ?_) (fun c_32 => ?_)
              · skip
                refine lv_iconst (v := 0) hx hb dX6_campaign_79 (by decide) ?_
                refine lv_istore (lv' := [(5, .int 0), (4, .int x_1), (0, .ref h0), (1, .int x), (2, .int y), (3, .int z)]) hx hb dX6_campaign_80 hl (by decide) rfl (fun ls hl => ?_)
                refine lv_iload hx hb dX6_campaign_82 (lv_at hl 0 rfl) ?_
                refine lv_if_eq (tgt := 101) hx hb dX6_campaign_84 (by decide) (fun _ => ?_) (fun h9 => absurd (by decide) h9)
                refine lv_iconst (v := (-1)) hx hb dX6_campaign_101 (by decide) ?_
                exact W.iret (v := (-1)) hx hb hr (fun t ht hW => ⟨⟨(-1), (), rfl, (by subst ex_1 ex_5; have h1 := k_cp1 x; have h2 := k_cp2 y; simp only [Int32.lt_iff_toInt_lt, Int32.le_iff_toInt_le, ← Int32.toInt_inj, Int32.reduceToInt] at h1 h2 c_2 g_4 c_6 g_8 g_10 c_11 c_32; exact (if_neg (by unfold cpOk; simp only [Int32.lt_iff_toInt_lt, Int32.le_iff_toInt_le, ← Int32.toInt_inj, Int32.reduceToInt]; omega)).symm), trivial⟩, hS.F ht⟩) hS.2.2 dX6_campaign_102
              · skip
                refine lv_goto (tgt := 75) hx hb dX6_campaign_61 (by decide) ?_
                refine lv_iconst (v := 1) hx hb dX6_campaign_75 (by decide) ?_
                refine lv_goto (tgt := 80) hx hb dX6_campaign_76 (by decide) ?_
                refine lv_istore (lv' := [(5, .int 1), (4, .int x_1), (0, .ref h0), (1, .int x), (2, .int y), (3, .int z)]) hx hb dX6_campaign_80 hl (by decide) rfl (fun ls hl => ?_)
                refine lv_iload hx hb dX6_campaign_82 (lv_at hl 0 rfl) ?_
                refine lv_if_eq (tgt := 101) hx hb dX6_campaign_84 (by decide) (fun h9 => absurd h9 (by decide)) (fun _ => ?_)
                refine lv_iload_n hx hb dX6_campaign_87 rfl (lv_at hl 4 rfl) ?_
                refine lv_sipush (v := 4096) hx hb dX6_campaign_88 (by decide) ?_
                refine lv_idiv hx hb dX6_campaign_91 (by decide) ?_
                refine lv_topi (fun x_33 ex_33 => ?_)
                refine lv_iload_n hx hb dX6_campaign_92 rfl (lv_at hl 4 rfl) ?_
                refine lv_sipush (v := 4096) hx hb dX6_campaign_93 (by decide) ?_
                refine lv_irem hx hb dX6_campaign_96 (by decide) ?_
                refine lv_topi (fun x_34 ex_34 => ?_)
                refine lv_iand hx hb dX6_campaign_97 ?_
                refine lv_topi (fun x_35 ex_35 => ?_)
                refine lv_if_eq (tgt := 103) hx hb dX6_campaign_98 (by decide) (fun c_36 => ?_) (fun c_36 => ?_)
                · skip
                  refine lv_aload_n hx hb dX6_campaign_103 rfl (lv_at hl 2 rfl) ?_
                  refine va_get (D := (dC, dI)) (ci := 6) (v := .int 0) (C := RX6) (T := TX6) (N := 51) hx hb hts uB6 hown hK hP 0 rfl rfl 9 (by decide) (hts _ wm_12) (fun _ h9 => h9) hfc dX6_campaign_104 ?_
                  refine lv_bipush (v := 40) hx hb dX6_campaign_107 (by decide) ?_
                  refine lv_icmp_ne (tgt := 115) hx hb dX6_campaign_109 (by decide) (fun _ => ?_) (fun h9 => absurd h9 (by decide))
                  refine lv_aload_n hx hb dX6_campaign_115 rfl (lv_at hl 2 rfl) ?_
                  refine va_get (D := (dC, dI)) (ci := 6) (v := .int 0) (C := RX6) (T := TX6) (N := 51) hx hb hts uB6 hown hK hP 0 rfl rfl 9 (by decide) (hts _ wm_12) (fun _ h9 => h9) hfc dX6_campaign_116 ?_
                  refine lv_istore (lv' := [(6, .int 0), (5, .int 1), (4, .int x_1), (0, .ref h0), (1, .int x), (2, .int y), (3, .int z)]) hx hb dX6_campaign_119 hl (by decide) rfl (fun ls hl => ?_)
                  refine lv_aload_n hx hb dX6_campaign_121 rfl (lv_at hl 3 rfl) ?_
                  refine va_get (D := (dC, dI)) (ci := 6) (v := .ref q_sort) (C := RX6) (T := TX6) (N := 51) hx hb hts uB6 hown hK hP 0 rfl rfl 10 (by decide) (hts _ wm_130) (fun _ h9 => h9) hf_sort dX6_campaign_122 ?_
                  refine lv_iload hx hb dX6_campaign_125 (lv_at hl 0 rfl) ?_
                  refine lv_iload hx hb dX6_campaign_127 (lv_at hl 2 rfl) ?_
                  refine va_iast hx hb hK hP hD hS 1 0 rfl rfl (vp_in_iff.mpr (by decide)) dX6_campaign_129 (fun H locs hP hD hS => ?_)
                  obtain ⟨f_37, ef_37⟩ : ∃ z9, z9 = upd (fun _ => 0) (Int32.toNatClampNeg 0) x_1 := ⟨_, rfl⟩
                  have hP : va_P (dC, dI) vwCl [(h0, .inr (6, fs)), (q_sort, .inl (cI, 40, .inl f_37)), (q_pays, .inl (cI, 40, .inl (fun _ => 0))), (q_must, .inl (cI, 40, .inl (fun _ => 0))), (q_never, .inl (cI, 40, .inl (fun _ => 0))), (q_bid, .inl (cI, 40, .inl (fun _ => 0))), (q_cap, .inl (cI, 40, .inl (fun _ => 0))), (q_span, .inl (cI, 40, .inl (fun _ => 0))), (q_throttle, .inl (cI, 40, .inl (fun _ => 0))), (q_promised, .inl (cI, 40, .inl (fun _ => 0)))] H := by rw [ef_37]; exact hP
                  have hD : va_D A [(h0, .inr (6, fs)), (q_sort, .inl (cI, 40, .inl f_37)), (q_pays, .inl (cI, 40, .inl (fun _ => 0))), (q_must, .inl (cI, 40, .inl (fun _ => 0))), (q_never, .inl (cI, 40, .inl (fun _ => 0))), (q_bid, .inl (cI, 40, .inl (fun _ => 0))), (q_cap, .inl (cI, 40, .inl (fun _ => 0))), (q_span, .inl (cI, 40, .inl (fun _ => 0))), (q_throttle, .inl (cI, 40, .inl (fun _ => 0))), (q_promised, .inl (cI, 40, .inl (fun _ => 0)))] := by rw [ef_37]; exact hD
                  refine lv_aload_n hx hb dX6_campaign_130 rfl (lv_at hl 3 rfl) ?_
                  refine va_get (D := (dC, dI)) (ci := 6) (v := .ref q_pays) (C := RX6) (T := TX6) (N := 51) hx hb hts uB6 hown hK hP 0 rfl rfl 11 (by decide) (hts _ wm_131) (fun _ h9 => h9) hf_pays dX6_campaign_131 ?_
                  refine lv_iload hx hb dX6_campaign_134 (lv_at hl 0 rfl) ?_
                  refine lv_iload_n hx hb dX6_campaign_136 rfl (lv_at hl 4 rfl) ?_
                  refine lv_bipush (v := 10) hx hb dX6_campaign_137 (by decide) ?_
                  refine lv_irem hx hb dX6_campaign_139 (by decide) ?_
                  refine lv_topi (fun x_38 ex_38 => ?_)
                  refine va_iast hx hb hK hP hD hS 2 0 rfl rfl (vp_in_iff.mpr (by decide)) dX6_campaign_140 (fun H locs hP hD hS => ?_)
                  obtain ⟨f_39, ef_39⟩ : ∃ z9, z9 = upd (fun _ => 0) (Int32.toNatClampNeg 0) x_38 := ⟨_, rfl⟩
                  have hP : va_P (dC, dI) vwCl [(h0, .inr (6, fs)), (q_sort, .inl (cI, 40, .inl f_37)), (q_pays, .inl (cI, 40, .inl f_39)), (q_must, .inl (cI, 40, .inl (fun _ => 0))), (q_never, .inl (cI, 40, .inl (fun _ => 0))), (q_bid, .inl (cI, 40, .inl (fun _ => 0))), (q_cap, .inl (cI, 40, .inl (fun _ => 0))), (q_span, .inl (cI, 40, .inl (fun _ => 0))), (q_throttle, .inl (cI, 40, .inl (fun _ => 0))), (q_promised, .inl (cI, 40, .inl (fun _ => 0)))] H := by rw [ef_39]; exact hP
                  have hD : va_D A [(h0, .inr (6, fs)), (q_sort, .inl (cI, 40, .inl f_37)), (q_pays, .inl (cI, 40, .inl f_39)), (q_must, .inl (cI, 40, .inl (fun _ => 0))), (q_never, .inl (cI, 40, .inl (fun _ => 0))), (q_bid, .inl (cI, 40, .inl (fun _ => 0))), (q_cap, .inl (cI, 40, .inl (fun _ => 0))), (q_span, .inl (cI, 40, .inl (fun _ => 0))), (q_throttle, .inl (cI, 40, .inl (fun _ => 0))), (q_promised, .inl (cI, 40, .inl (fun _ => 0)))] := by rw [ef_39]; exact hD
                  refine lv_aload_n hx hb dX6_campaign_141 rfl (lv_at hl 3 rfl) ?_
                  refine va_get (D := (dC, dI)) (ci := 6) (v := .ref q_must) (C := RX6) (T := TX6) (N := 51) hx hb hts uB6 hown hK hP 0 rfl rfl 12 (by decide) (hts _ wm_132) (fun _ h9 => h9) hf_must dX6_campaign_142 ?_
                  refine lv_iload hx hb dX6_campaign_145 (lv_at hl 0 rfl) ?_
                  refine lv_iload_n hx hb dX6_campaign_147 rfl (lv_at hl 5 rfl) ?_
                  refine lv_sipush (v := 4096) hx hb dX6_campaign_148 (by decide) ?_
                  refine lv_idiv hx hb dX6_campaign_151 (by decide) ?_
                  refine lv_topi (fun x_40 ex_40 => ?_)
                  refine va_iast hx hb hK hP hD hS 3 0 rfl rfl (vp_in_iff.mpr (by decide)) dX6_campaign_152 (fun H locs hP hD hS => ?_)
                  obtain ⟨f_41, ef_41⟩ : ∃ z9, z9 = upd (fun _ => 0) (Int32.toNatClampNeg 0) x_40 := ⟨_, rfl⟩
                  have hP : va_P (dC, dI) vwCl [(h0, .inr (6, fs)), (q_sort, .inl (cI, 40, .inl f_37)), (q_pays, .inl (cI, 40, .inl f_39)), (q_must, .inl (cI, 40, .inl f_41)), (q_never, .inl (cI, 40, .inl (fun _ => 0))), (q_bid, .inl (cI, 40, .inl (fun _ => 0))), (q_cap, .inl (cI, 40, .inl (fun _ => 0))), (q_span, .inl (cI, 40, .inl (fun _ => 0))), (q_throttle, .inl (cI, 40, .inl (fun _ => 0))), (q_promised, .inl (cI, 40, .inl (fun _ => 0)))] H := by rw [ef_41]; exact hP
                  have hD : va_D A [(h0, .inr (6, fs)), (q_sort, .inl (cI, 40, .inl f_37)), (q_pays, .inl (cI, 40, .inl f_39)), (q_must, .inl (cI, 40, .inl f_41)), (q_never, .inl (cI, 40, .inl (fun _ => 0))), (q_bid, .inl (cI, 40, .inl (fun _ => 0))), (q_cap, .inl (cI, 40, .inl (fun _ => 0))), (q_span, .inl (cI, 40, .inl (fun _ => 0))), (q_throttle, .inl (cI, 40, .inl (fun _ => 0))), (q_promised, .inl (cI, 40, .inl (fun _ => 0)))] := by rw [ef_41]; exact hD
                  refine lv_aload_n hx hb dX6_campaign_153 rfl (lv_at hl 3 rfl) ?_
                  refine va_get (D := (dC, dI)) (ci := 6) (v := .ref q_never) (C := RX6) (T := TX6) (N := 51) hx hb hts uB6 hown hK hP 0 rfl rfl 13 (by decide) (hts _ wm_133) (fun _ h9 => h9) hf_never dX6_campaign_154 ?_
                  refine lv_iload hx hb dX6_campaign_157 (lv_at hl 0 rfl) ?_
                  refine lv_iload_n hx hb dX6_campaign_159 rfl (lv_at hl 5 rfl) ?_
                  refine lv_sipush (v := 4096) hx hb dX6_campaign_160 (by decide) ?_
                  refine lv_irem hx hb dX6_campaign_163 (by decide) ?_
                  refine lv_topi (fun x_42 ex_42 => ?_)
                  refine va_iast hx hb hK hP hD hS 4 0 rfl rfl (vp_in_iff.mpr (by decide)) dX6_campaign_164 (fun H locs hP hD hS => ?_)
                  obtain ⟨f_43, ef_43⟩ : ∃ z9, z9 = upd (fun _ => 0) (Int32.toNatClampNeg 0) x_42 := ⟨_, rfl⟩
                  have hP : va_P (dC, dI) vwCl [(h0, .inr (6, fs)), (q_sort, .inl (cI, 40, .inl f_37)), (q_pays, .inl (cI, 40, .inl f_39)), (q_must, .inl (cI, 40, .inl f_41)), (q_never, .inl (cI, 40, .inl f_43)), (q_bid, .inl (cI, 40, .inl (fun _ => 0))), (q_cap, .inl (cI, 40, .inl (fun _ => 0))), (q_span, .inl (cI, 40, .inl (fun _ => 0))), (q_throttle, .inl (cI, 40, .inl (fun _ => 0))), (q_promised, .inl (cI, 40, .inl (fun _ => 0)))] H := by rw [ef_43]; exact hP
                  have hD : va_D A [(h0, .inr (6, fs)), (q_sort, .inl (cI, 40, .inl f_37)), (q_pays, .inl (cI, 40, .inl f_39)), (q_must, .inl (cI, 40, .inl f_41)), (q_never, .inl (cI, 40, .inl f_43)), (q_bid, .inl (cI, 40, .inl (fun _ => 0))), (q_cap, .inl (cI, 40, .inl (fun _ => 0))), (q_span, .inl (cI, 40, .inl (fun _ => 0))), (q_throttle, .inl (cI, 40, .inl (fun _ => 0))), (q_promised, .inl (cI, 40, .inl (fun _ => 0)))] := by rw [ef_43]; exact hD
                  refine lv_aload_n hx hb dX6_campaign_165 rfl (lv_at hl 3 rfl) ?_
                  refine va_get (D := (dC, dI)) (ci := 6) (v := .ref q_bid) (C := RX6) (T := TX6) (N := 51) hx hb hts uB6 hown hK hP 0 rfl rfl 14 (by decide) (hts _ wm_134) (fun _ h9 => h9) hf_bid dX6_campaign_166 ?_
                  refine lv_iload hx hb dX6_campaign_169 (lv_at hl 0 rfl) ?_
                  refine lv_iload_n hx hb dX6_campaign_171 rfl (lv_at hl 6 rfl) ?_
                  refine va_iast hx hb hK hP hD hS 5 0 rfl rfl (vp_in_iff.mpr (by decide)) dX6_campaign_172 (fun H locs hP hD hS => ?_)
                  obtain ⟨f_44, ef_44⟩ : ∃ z9, z9 = upd (fun _ => 0) (Int32.toNatClampNeg 0) z := ⟨_, rfl⟩
                  have hP : va_P (dC, dI) vwCl [(h0, .inr (6, fs)), (q_sort, .inl (cI, 40, .inl f_37)), (q_pays, .inl (cI, 40, .inl f_39)), (q_must, .inl (cI, 40, .inl f_41)), (q_never, .inl (cI, 40, .inl f_43)), (q_bid, .inl (cI, 40, .inl f_44)), (q_cap, .inl (cI, 40, .inl (fun _ => 0))), (q_span, .inl (cI, 40, .inl (fun _ => 0))), (q_throttle, .inl (cI, 40, .inl (fun _ => 0))), (q_promised, .inl (cI, 40, .inl (fun _ => 0)))] H := by rw [ef_44]; exact hP
                  have hD : va_D A [(h0, .inr (6, fs)), (q_sort, .inl (cI, 40, .inl f_37)), (q_pays, .inl (cI, 40, .inl f_39)), (q_must, .inl (cI, 40, .inl f_41)), (q_never, .inl (cI, 40, .inl f_43)), (q_bid, .inl (cI, 40, .inl f_44)), (q_cap, .inl (cI, 40, .inl (fun _ => 0))), (q_span, .inl (cI, 40, .inl (fun _ => 0))), (q_throttle, .inl (cI, 40, .inl (fun _ => 0))), (q_promised, .inl (cI, 40, .inl (fun _ => 0)))] := by rw [ef_44]; exact hD
                  refine lv_aload_n hx hb dX6_campaign_173 rfl (lv_at hl 3 rfl) ?_
                  refine va_get (D := (dC, dI)) (ci := 6) (v := .ref q_cap) (C := RX6) (T := TX6) (N := 51) hx hb hts uB6 hown hK hP 0 rfl rfl 17 (by decide) (hts _ wm_135) (fun _ h9 => h9) hf_cap dX6_campaign_174 ?_
                  refine lv_iload hx hb dX6_campaign_177 (lv_at hl 0 rfl) ?_
                  refine lv_bipush (v := 9) hx hb dX6_campaign_179 (by decide) ?_
                  refine va_iast hx hb hK hP hD hS 6 0 rfl rfl (vp_in_iff.mpr (by decide)) dX6_campaign_181 (fun H locs hP hD hS => ?_)
                  obtain ⟨f_45, ef_45⟩ : ∃ z9, z9 = upd (fun _ => 0) (Int32.toNatClampNeg 0) 9 := ⟨_, rfl⟩
                  have hP : va_P (dC, dI) vwCl [(h0, .inr (6, fs)), (q_sort, .inl (cI, 40, .inl f_37)), (q_pays, .inl (cI, 40, .inl f_39)), (q_must, .inl (cI, 40, .inl f_41)), (q_never, .inl (cI, 40, .inl f_43)), (q_bid, .inl (cI, 40, .inl f_44)), (q_cap, .inl (cI, 40, .inl f_45)), (q_span, .inl (cI, 40, .inl (fun _ => 0))), (q_throttle, .inl (cI, 40, .inl (fun _ => 0))), (q_promised, .inl (cI, 40, .inl (fun _ => 0)))] H := by rw [ef_45]; exact hP
                  have hD : va_D A [(h0, .inr (6, fs)), (q_sort, .inl (cI, 40, .inl f_37)), (q_pays, .inl (cI, 40, .inl f_39)), (q_must, .inl (cI, 40, .inl f_41)), (q_never, .inl (cI, 40, .inl f_43)), (q_bid, .inl (cI, 40, .inl f_44)), (q_cap, .inl (cI, 40, .inl f_45)), (q_span, .inl (cI, 40, .inl (fun _ => 0))), (q_throttle, .inl (cI, 40, .inl (fun _ => 0))), (q_promised, .inl (cI, 40, .inl (fun _ => 0)))] := by rw [ef_45]; exact hD
                  refine lv_aload_n hx hb dX6_campaign_182 rfl (lv_at hl 3 rfl) ?_
                  refine va_get (D := (dC, dI)) (ci := 6) (v := .ref q_span) (C := RX6) (T := TX6) (N := 51) hx hb hts uB6 hown hK hP 0 rfl rfl 18 (by decide) (hts _ wm_136) (fun _ h9 => h9) hf_span dX6_campaign_183 ?_
                  refine lv_iload hx hb dX6_campaign_186 (lv_at hl 0 rfl) ?_
                  refine lv_iconst (v := 1) hx hb dX6_campaign_188 (by decide) ?_
                  refine va_iast hx hb hK hP hD hS 7 0 rfl rfl (vp_in_iff.mpr (by decide)) dX6_campaign_189 (fun H locs hP hD hS => ?_)
                  obtain ⟨f_46, ef_46⟩ : ∃ z9, z9 = upd (fun _ => 0) (Int32.toNatClampNeg 0) 1 := ⟨_, rfl⟩
                  have hP : va_P (dC, dI) vwCl [(h0, .inr (6, fs)), (q_sort, .inl (cI, 40, .inl f_37)), (q_pays, .inl (cI, 40, .inl f_39)), (q_must, .inl (cI, 40, .inl f_41)), (q_never, .inl (cI, 40, .inl f_43)), (q_bid, .inl (cI, 40, .inl f_44)), (q_cap, .inl (cI, 40, .inl f_45)), (q_span, .inl (cI, 40, .inl f_46)), (q_throttle, .inl (cI, 40, .inl (fun _ => 0))), (q_promised, .inl (cI, 40, .inl (fun _ => 0)))] H := by rw [ef_46]; exact hP
                  have hD : va_D A [(h0, .inr (6, fs)), (q_sort, .inl (cI, 40, .inl f_37)), (q_pays, .inl (cI, 40, .inl f_39)), (q_must, .inl (cI, 40, .inl f_41)), (q_never, .inl (cI, 40, .inl f_43)), (q_bid, .inl (cI, 40, .inl f_44)), (q_cap, .inl (cI, 40, .inl f_45)), (q_span, .inl (cI, 40, .inl f_46)), (q_throttle, .inl (cI, 40, .inl (fun _ => 0))), (q_promised, .inl (cI, 40, .inl (fun _ => 0)))] := by rw [ef_46]; exact hD
                  refine lv_aload_n hx hb dX6_campaign_190 rfl (lv_at hl 3 rfl) ?_
                  refine va_get (D := (dC, dI)) (ci := 6) (v := .ref q_throttle) (C := RX6) (T := TX6) (N := 51) hx hb hts uB6 hown hK hP 0 rfl rfl 19 (by decide) (hts _ wm_137) (fun _ h9 => h9) hf_throttle dX6_campaign_191 ?_
                  refine lv_iload hx hb dX6_campaign_194 (lv_at hl 0 rfl) ?_
                  refine lv_sipush (v := 1000) hx hb dX6_campaign_196 (by decide) ?_
                  refine va_iast hx hb hK hP hD hS 8 0 rfl rfl (vp_in_iff.mpr (by decide)) dX6_campaign_199 (fun H locs hP hD hS => ?_)
                  obtain ⟨f_47, ef_47⟩ : ∃ z9, z9 = upd (fun _ => 0) (Int32.toNatClampNeg 0) 1000 := ⟨_, rfl⟩
                  have hP : va_P (dC, dI) vwCl [(h0, .inr (6, fs)), (q_sort, .inl (cI, 40, .inl f_37)), (q_pays, .inl (cI, 40, .inl f_39)), (q_must, .inl (cI, 40, .inl f_41)), (q_never, .inl (cI, 40, .inl f_43)), (q_bid, .inl (cI, 40, .inl f_44)), (q_cap, .inl (cI, 40, .inl f_45)), (q_span, .inl (cI, 40, .inl f_46)), (q_throttle, .inl (cI, 40, .inl f_47)), (q_promised, .inl (cI, 40, .inl (fun _ => 0)))] H := by rw [ef_47]; exact hP
                  have hD : va_D A [(h0, .inr (6, fs)), (q_sort, .inl (cI, 40, .inl f_37)), (q_pays, .inl (cI, 40, .inl f_39)), (q_must, .inl (cI, 40, .inl f_41)), (q_never, .inl (cI, 40, .inl f_43)), (q_bid, .inl (cI, 40, .inl f_44)), (q_cap, .inl (cI, 40, .inl f_45)), (q_span, .inl (cI, 40, .inl f_46)), (q_throttle, .inl (cI, 40, .inl f_47)), (q_promised, .inl (cI, 40, .inl (fun _ => 0)))] := by rw [ef_47]; exact hD
                  refine lv_aload_n hx hb dX6_campaign_200 rfl (lv_at hl 3 rfl) ?_
                  refine va_get (D := (dC, dI)) (ci := 6) (v := .ref q_promised) (C := RX6) (T := TX6) (N := 51) hx hb hts uB6 hown hK hP 0 rfl rfl 22 (by decide) (hts _ wm_138) (fun _ h9 => h9) hf_promised dX6_campaign_201 ?_
                  refine lv_iload hx hb dX6_campaign_204 (lv_at hl 0 rfl) ?_
                  refine lv_iconst (v := 0) hx hb dX6_campaign_206 (by decide) ?_
                  refine va_iast hx hb hK hP hD hS 9 0 rfl rfl (vp_in_iff.mpr (by decide)) dX6_campaign_207 (fun H locs hP hD hS => ?_)
                  obtain ⟨f_48, ef_48⟩ : ∃ z9, z9 = upd (fun _ => 0) (Int32.toNatClampNeg 0) 0 := ⟨_, rfl⟩
                  have hP : va_P (dC, dI) vwCl [(h0, .inr (6, fs)), (q_sort, .inl (cI, 40, .inl f_37)), (q_pays, .inl (cI, 40, .inl f_39)), (q_must, .inl (cI, 40, .inl f_41)), (q_never, .inl (cI, 40, .inl f_43)), (q_bid, .inl (cI, 40, .inl f_44)), (q_cap, .inl (cI, 40, .inl f_45)), (q_span, .inl (cI, 40, .inl f_46)), (q_throttle, .inl (cI, 40, .inl f_47)), (q_promised, .inl (cI, 40, .inl f_48))] H := by rw [ef_48]; exact hP
                  have hD : va_D A [(h0, .inr (6, fs)), (q_sort, .inl (cI, 40, .inl f_37)), (q_pays, .inl (cI, 40, .inl f_39)), (q_must, .inl (cI, 40, .inl f_41)), (q_never, .inl (cI, 40, .inl f_43)), (q_bid, .inl (cI, 40, .inl f_44)), (q_cap, .inl (cI, 40, .inl f_45)), (q_span, .inl (cI, 40, .inl f_46)), (q_throttle, .inl (cI, 40, .inl f_47)), (q_promised, .inl (cI, 40, .inl f_48))] := by rw [ef_48]; exact hD
                  refine lv_aload_n hx hb dX6_campaign_208 rfl (lv_at hl 3 rfl) ?_
                  refine lv_dup hx hb dX6_campaign_209 rfl ?_
                  refine va_get (D := (dC, dI)) (ci := 6) (v := .int 0) (C := RX6) (T := TX6) (N := 51) hx hb hts uB6 hown hK hP 0 rfl rfl 9 (by decide) (hts _ wm_12) (fun _ h9 => h9) hfc dX6_campaign_210 ?_
                  refine lv_iconst (v := 1) hx hb dX6_campaign_213 (by decide) ?_
                  refine lv_iadd hx hb dX6_campaign_214 ?_
                  refine lv_topi (fun x_49 ex_49 => ?_)
                  obtain rfl : x_49 = 1 := ex_49.trans (by decide)
                  refine va_put (D := (dC, dI)) (ci := 6) (v := .int 1) (ty := .int) (C := RX6) (T := TX6) (N := 51) hx hb hts uB6 tyX6 tyX6_ok nmX6 hown hK hP hD hS 0 rfl rfl 9 (by decide) (hts _ wm_12) (fun _ h9 => h9) rfl (by decide +kernel) rfl rfl (by rw [hlen_h0]; decide) dX6_campaign_215 (fun H locs hP hD hS => ?_)
                  obtain ⟨fs_50, efs_50⟩ : ∃ z9, z9 = (fs).set 9 (.int 1) := ⟨_, rfl⟩
                  have hP : va_P (dC, dI) vwCl [(h0, .inr (6, fs_50)), (q_sort, .inl (cI, 40, .inl f_37)), (q_pays, .inl (cI, 40, .inl f_39)), (q_must, .inl (cI, 40, .inl f_41)), (q_never, .inl (cI, 40, .inl f_43)), (q_bid, .inl (cI, 40, .inl f_44)), (q_cap, .inl (cI, 40, .inl f_45)), (q_span, .inl (cI, 40, .inl f_46)), (q_throttle, .inl (cI, 40, .inl f_47)), (q_promised, .inl (cI, 40, .inl f_48))] H := by rw [efs_50]; exact hP
                  have hD : va_D A [(h0, .inr (6, fs_50)), (q_sort, .inl (cI, 40, .inl f_37)), (q_pays, .inl (cI, 40, .inl f_39)), (q_must, .inl (cI, 40, .inl f_41)), (q_never, .inl (cI, 40, .inl f_43)), (q_bid, .inl (cI, 40, .inl f_44)), (q_cap, .inl (cI, 40, .inl f_45)), (q_span, .inl (cI, 40, .inl f_46)), (q_throttle, .inl (cI, 40, .inl f_47)), (q_promised, .inl (cI, 40, .inl f_48))] := by rw [efs_50]; exact hD
                  have hf_sort : fs_50[10]? = some (.ref q_sort) := by rw [efs_50, List.getElem?_set_ne (by decide)]; exact hf_sort
                  have hf_pays : fs_50[11]? = some (.ref q_pays) := by rw [efs_50, List.getElem?_set_ne (by decide)]; exact hf_pays
                  have hf_must : fs_50[12]? = some (.ref q_must) := by rw [efs_50, List.getElem?_set_ne (by decide)]; exact hf_must
                  have hf_never : fs_50[13]? = some (.ref q_never) := by rw [efs_50, List.getElem?_set_ne (by decide)]; exact hf_never
                  have hf_bid : fs_50[14]? = some (.ref q_bid) := by rw [efs_50, List.getElem?_set_ne (by decide)]; exact hf_bid
                  have hf_cap : fs_50[17]? = some (.ref q_cap) := by rw [efs_50, List.getElem?_set_ne (by decide)]; exact hf_cap
                  have hf_span : fs_50[18]? = some (.ref q_span) := by rw [efs_50, List.getElem?_set_ne (by decide)]; exact hf_span
                  have hf_throttle : fs_50[19]? = some (.ref q_throttle) := by rw [efs_50, List.getElem?_set_ne (by decide)]; exact hf_throttle
                  have hf_promised : fs_50[22]? = some (.ref q_promised) := by rw [efs_50, List.getElem?_set_ne (by decide)]; exact hf_promised
                  have hfc : fs_50[9]? = some (.int 1) := by rw [efs_50]; exact List.getElem?_set_self (by rw [hlen_h0]; decide)
                  have hlen_h0 : fs_50.length = 51 := by rw [efs_50, List.length_set]; exact hlen_h0
                  refine lv_iload hx hb dX6_campaign_218 (lv_at hl 0 rfl) ?_
                  exact W.iret (v := 0) hx hb hr (fun t ht hW => ⟨⟨0, (), rfl, (by subst ex_1 ex_5 ex_33 ex_34 ex_35 ex_38 ex_40 ex_42; have h1 := k_cp1 x; have h2 := k_cp2 y; simp only [Int32.lt_iff_toInt_lt, Int32.le_iff_toInt_le, ← Int32.toInt_inj, Int32.reduceToInt] at h1 h2 c_2 g_4 c_6 g_8 g_10 c_11 c_32 c_36; exact (if_pos (by unfold cpOk; simp only [Int32.lt_iff_toInt_lt, Int32.le_iff_toInt_le, ← Int32.toInt_inj, Int32.reduceToInt]; omega)).symm), trivial⟩, hS.F ht⟩) hS.2.2 dX6_campaign_220
                · skip
                  refine lv_iconst (v := (-1)) hx hb dX6_campaign_101 (by decide) ?_
                  exact W.iret (v := (-1)) hx hb hr (fun t ht hW => ⟨⟨(-1), (), rfl, (by subst ex_1 ex_5 ex_33 ex_34 ex_35; have h1 := k_cp1 x; have h2 := k_cp2 y; simp only [Int32.lt_iff_toInt_lt, Int32.le_iff_toInt_le, ← Int32.toInt_inj, Int32.reduceToInt] at h1 h2 c_2 g_4 c_6 g_8 g_10 c_11 c_32 c_36; exact (if_neg (by unfold cpOk; simp only [Int32.lt_iff_toInt_lt, Int32.le_iff_toInt_le, ← Int32.toInt_inj, Int32.reduceToInt]; omega)).symm), trivial⟩, hS.F ht⟩) hS.2.2 dX6_campaign_102
      · skip
        refine lv_iconst (v := 1) hx hb dX6_campaign_30 (by decide) ?_
        refine lv_goto (tgt := 35) hx hb dX6_campaign_31 (by decide) ?_
        refine k_S ⟨hx, hb, hml, hown, hts⟩ (c_in l x_5 0 1) 3 wm_4 wm_5 wm_6 wm_7 (by decide +kernel) ⟨Nat.le_of_ble_eq_true rfl, Nat.le_of_ble_eq_true rfl⟩ rfl hl.1 rfl (Nat.le_of_ble_eq_true rfl) dX6_campaign_35 ⟨Nat.le_of_ble_eq_true rfl, Nat.le_of_ble_eq_true rfl⟩ hS hP (fun r_51 H locs hpr_51 hP hS => ?_)
        refine lv_if_eq (tgt := 79) hx hb dX6_campaign_38 (by decide) (fun c_52 => ?_) (fun c_52 => ?_)
        · skip
          have g_52 := k_ff hpr_51 c_52
          refine lv_iconst (v := 0) hx hb dX6_campaign_79 (by decide) ?_
          refine lv_istore (lv' := [(5, .int 0), (4, .int x_1), (0, .ref h0), (1, .int x), (2, .int y), (3, .int z)]) hx hb dX6_campaign_80 hl (by decide) rfl (fun ls hl => ?_)
          refine lv_iload hx hb dX6_campaign_82 (lv_at hl 0 rfl) ?_
          refine lv_if_eq (tgt := 101) hx hb dX6_campaign_84 (by decide) (fun _ => ?_) (fun h9 => absurd (by decide) h9)
          refine lv_iconst (v := (-1)) hx hb dX6_campaign_101 (by decide) ?_
          exact W.iret (v := (-1)) hx hb hr (fun t ht hW => ⟨⟨(-1), (), rfl, (by subst ex_1 ex_5; have h1 := k_cp1 x; have h2 := k_cp2 y; simp only [Int32.lt_iff_toInt_lt, Int32.le_iff_toInt_le, ← Int32.toInt_inj, Int32.reduceToInt] at h1 h2 c_2 g_4 c_6 g_52; exact (if_neg (by unfold cpOk; simp only [Int32.lt_iff_toInt_lt, Int32.le_iff_toInt_le, ← Int32.toInt_inj, Int32.reduceToInt]; omega)).symm), trivial⟩, hS.F ht⟩) hS.2.2 dX6_campaign_102
        · skip
          have g_52 := k_ft hpr_51 c_52
          refine lv_iload_n hx hb dX6_campaign_41 rfl (lv_at hl 3 rfl) ?_
          refine lv_iconst (v := 0) hx hb dX6_campaign_42 (by decide) ?_
          refine lv_ldc (v := 16777215) hx hb hown (hts _ wm_129) dX6_campaign_43 ?_
          refine k_S ⟨hx, hb, hml, hown, hts⟩ (c_in l y 0 16777215) 3 wm_4 wm_5 wm_6 wm_7 (by decide +kernel) ⟨Nat.le_of_ble_eq_true rfl, Nat.le_of_ble_eq_true rfl⟩ rfl hl.1 rfl (Nat.le_of_ble_eq_true rfl) dX6_campaign_45 ⟨Nat.le_of_ble_eq_true rfl, Nat.le_of_ble_eq_true rfl⟩ hS hP (fun r_53 H locs hpr_53 hP hS => ?_)
          refine lv_if_eq (tgt := 79) hx hb dX6_campaign_48 (by decide) (fun c_54 => ?_) (fun c_54 => ?_)
          · skip
            have g_54 := k_ff hpr_53 c_54
            refine lv_iconst (v := 0) hx hb dX6_campaign_79 (by decide) ?_
            refine lv_istore (lv' := [(5, .int 0), (4, .int x_1), (0, .ref h0), (1, .int x), (2, .int y), (3, .int z)]) hx hb dX6_campaign_80 hl (by decide) rfl (fun ls hl => ?_)
            refine lv_iload hx hb dX6_campaign_82 (lv_at hl 0 rfl) ?_
            refine lv_if_eq (tgt := 101) hx hb dX6_campaign_84 (by decide) (fun _ => ?_) (fun h9 => absurd (by decide) h9)
            refine lv_iconst (v := (-1)) hx hb dX6_campaign_101 (by decide) ?_
            exact W.iret (v := (-1)) hx hb hr (fun t ht hW => ⟨⟨(-1), (), rfl, (by subst ex_1 ex_5; have h1 := k_cp1 x; have h2 := k_cp2 y; simp only [Int32.lt_iff_toInt_lt, Int32.le_iff_toInt_le, ← Int32.toInt_inj, Int32.reduceToInt] at h1 h2 c_2 g_4 c_6 g_52 g_54; exact (if_neg (by unfold cpOk; simp only [Int32.lt_iff_toInt_lt, Int32.le_iff_toInt_le, ← Int32.toInt_inj, Int32.reduceToInt]; omega)).symm), trivial⟩, hS.F ht⟩) hS.2.2 dX6_campaign_102
          · skip
            have g_54 := k_ft hpr_53 c_54
            refine lv_iload hx hb dX6_campaign_51 (lv_at hl 0 rfl) ?_
            refine lv_iconst (v := 2) hx hb dX6_campaign_53 (by decide) ?_
            refine lv_icmp_ne (tgt := 64) hx hb dX6_campaign_54 (by decide) (fun c_55 => ?_) (fun c_55 => ?_)
            · skip
              refine lv_iload_n hx hb dX6_campaign_64 rfl (lv_at hl 4 rfl) ?_
              refine lv_iconst (v := 1) hx hb dX6_campaign_65 (by decide) ?_
              refine lv_sipush (v := 1000) hx hb dX6_campaign_66 (by decide) ?_
              refine k_S ⟨hx, hb, hml, hown, hts⟩ (c_in l z 1 1000) 3 wm_4 wm_5 wm_6 wm_7 (by decide +kernel) ⟨Nat.le_of_ble_eq_true rfl, Nat.le_of_ble_eq_true rfl⟩ rfl hl.1 rfl (Nat.le_of_ble_eq_true rfl) dX6_campaign_69 ⟨Nat.le_of_ble_eq_true rfl, Nat.le_of_ble_eq_true rfl⟩ hS hP (fun r_56 H locs hpr_56 hP hS => ?_)
              refine lv_if_eq (tgt := 79) hx hb dX6_campaign_72 (by decide) (fun c_57 => ?_) (fun c_57 => ?_)
              · skip
                have g_57 := k_ff hpr_56 c_57
                refine lv_iconst (v := 0) hx hb dX6_campaign_79 (by decide) ?_
                refine lv_istore (lv' := [(5, .int 0), (4, .int x_1), (0, .ref h0), (1, .int x), (2, .int y), (3, .int z)]) hx hb dX6_campaign_80 hl (by decide) rfl (fun ls hl => ?_)
                refine lv_iload hx hb dX6_campaign_82 (lv_at hl 0 rfl) ?_
                refine lv_if_eq (tgt := 101) hx hb dX6_campaign_84 (by decide) (fun _ => ?_) (fun h9 => absurd (by decide) h9)
                refine lv_iconst (v := (-1)) hx hb dX6_campaign_101 (by decide) ?_
                exact W.iret (v := (-1)) hx hb hr (fun t ht hW => ⟨⟨(-1), (), rfl, (by subst ex_1 ex_5; have h1 := k_cp1 x; have h2 := k_cp2 y; simp only [Int32.lt_iff_toInt_lt, Int32.le_iff_toInt_le, ← Int32.toInt_inj, Int32.reduceToInt] at h1 h2 c_2 g_4 c_6 g_52 g_54 c_55 g_57; exact (if_neg (by unfold cpOk; simp only [Int32.lt_iff_toInt_lt, Int32.le_iff_toInt_le, ← Int32.toInt_inj, Int32.reduceToInt]; omega)).symm), trivial⟩, hS.F ht⟩) hS.2.2 dX6_campaign_102
              · skip
                have g_57 := k_ft hpr_56 c_57
                refine lv_iconst (v := 1) hx hb dX6_campaign_75 (by decide) ?_
                refine lv_goto (tgt := 80) hx hb dX6_campaign_76 (by decide) ?_
                refine lv_istore (lv' := [(5, .int 1), (4, .int x_1), (0, .ref h0), (1, .int x), (2, .int y), (3, .int z)]) hx hb dX6_campaign_80 hl (by decide) rfl (fun ls hl => ?_)
                refine lv_iload hx hb dX6_campaign_82 (lv_at hl 0 rfl) ?_
                refine lv_if_eq (tgt := 101) hx hb dX6_campaign_84 (by decide) (fun h9 => absurd h9 (by decide)) (fun _ => ?_)
                refine lv_iload_n hx hb dX6_campaign_87 rfl (lv_at hl 4 rfl) ?_
                refine lv_sipush (v := 4096) hx hb dX6_campaign_88 (by decide) ?_
                refine lv_idiv hx hb dX6_campaign_91 (by decide) ?_
                refine lv_topi (fun x_58 ex_58 => ?_)
                refine lv_iload_n hx hb dX6_campaign_92 rfl (lv_at hl 4 rfl) ?_
                refine lv_sipush (v := 4096) hx hb dX6_campaign_93 (by decide) ?_
                refine lv_irem hx hb dX6_campaign_96 (by decide) ?_
                refine lv_topi (fun x_59 ex_59 => ?_)
                refine lv_iand hx hb dX6_campaign_97 ?_
                refine lv_topi (fun x_60 ex_60 => ?_)
                refine lv_if_eq (tgt := 103) hx hb dX6_campaign_98 (by decide) (fun c_61 => ?_) (fun c_61 => ?_)
                · skip
                  refine lv_aload_n hx hb dX6_campaign_103 rfl (lv_at hl 2 rfl) ?_
                  refine va_get (D := (dC, dI)) (ci := 6) (v := .int 0) (C := RX6) (T := TX6) (N := 51) hx hb hts uB6 hown hK hP 0 rfl rfl 9 (by decide) (hts _ wm_12) (fun _ h9 => h9) hfc dX6_campaign_104 ?_
                  refine lv_bipush (v := 40) hx hb dX6_campaign_107 (by decide) ?_
                  refine lv_icmp_ne (tgt := 115) hx hb dX6_campaign_109 (by decide) (fun _ => ?_) (fun h9 => absurd h9 (by decide))
                  refine lv_aload_n hx hb dX6_campaign_115 rfl (lv_at hl 2 rfl) ?_
                  refine va_get (D := (dC, dI)) (ci := 6) (v := .int 0) (C := RX6) (T := TX6) (N := 51) hx hb hts uB6 hown hK hP 0 rfl rfl 9 (by decide) (hts _ wm_12) (fun _ h9 => h9) hfc dX6_campaign_116 ?_
                  refine lv_istore (lv' := [(6, .int 0), (5, .int 1), (4, .int x_1), (0, .ref h0), (1, .int x), (2, .int y), (3, .int z)]) hx hb dX6_campaign_119 hl (by decide) rfl (fun ls hl => ?_)
                  refine lv_aload_n hx hb dX6_campaign_121 rfl (lv_at hl 3 rfl) ?_
                  refine va_get (D := (dC, dI)) (ci := 6) (v := .ref q_sort) (C := RX6) (T := TX6) (N := 51) hx hb hts uB6 hown hK hP 0 rfl rfl 10 (by decide) (hts _ wm_130) (fun _ h9 => h9) hf_sort dX6_campaign_122 ?_
                  refine lv_iload hx hb dX6_campaign_125 (lv_at hl 0 rfl) ?_
                  refine lv_iload hx hb dX6_campaign_127 (lv_at hl 2 rfl) ?_
                  refine va_iast hx hb hK hP hD hS 1 0 rfl rfl (vp_in_iff.mpr (by decide)) dX6_campaign_129 (fun H locs hP hD hS => ?_)
                  obtain ⟨f_62, ef_62⟩ : ∃ z9, z9 = upd (fun _ => 0) (Int32.toNatClampNeg 0) x_1 := ⟨_, rfl⟩
                  have hP : va_P (dC, dI) vwCl [(h0, .inr (6, fs)), (q_sort, .inl (cI, 40, .inl f_62)), (q_pays, .inl (cI, 40, .inl (fun _ => 0))), (q_must, .inl (cI, 40, .inl (fun _ => 0))), (q_never, .inl (cI, 40, .inl (fun _ => 0))), (q_bid, .inl (cI, 40, .inl (fun _ => 0))), (q_cap, .inl (cI, 40, .inl (fun _ => 0))), (q_span, .inl (cI, 40, .inl (fun _ => 0))), (q_throttle, .inl (cI, 40, .inl (fun _ => 0))), (q_promised, .inl (cI, 40, .inl (fun _ => 0)))] H := by rw [ef_62]; exact hP
                  have hD : va_D A [(h0, .inr (6, fs)), (q_sort, .inl (cI, 40, .inl f_62)), (q_pays, .inl (cI, 40, .inl (fun _ => 0))), (q_must, .inl (cI, 40, .inl (fun _ => 0))), (q_never, .inl (cI, 40, .inl (fun _ => 0))), (q_bid, .inl (cI, 40, .inl (fun _ => 0))), (q_cap, .inl (cI, 40, .inl (fun _ => 0))), (q_span, .inl (cI, 40, .inl (fun _ => 0))), (q_throttle, .inl (cI, 40, .inl (fun _ => 0))), (q_promised, .inl (cI, 40, .inl (fun _ => 0)))] := by rw [ef_62]; exact hD
                  refine lv_aload_n hx hb dX6_campaign_130 rfl (lv_at hl 3 rfl) ?_
                  refine va_get (D := (dC, dI)) (ci := 6) (v := .ref q_pays) (C := RX6) (T := TX6) (N := 51) hx hb hts uB6 hown hK hP 0 rfl rfl 11 (by decide) (hts _ wm_131) (fun _ h9 => h9) hf_pays dX6_campaign_131 ?_
                  refine lv_iload hx hb dX6_campaign_134 (lv_at hl 0 rfl) ?_
                  refine lv_iload_n hx hb dX6_campaign_136 rfl (lv_at hl 4 rfl) ?_
                  refine lv_bipush (v := 10) hx hb dX6_campaign_137 (by decide) ?_
                  refine lv_irem hx hb dX6_campaign_139 (by decide) ?_
                  refine lv_topi (fun x_63 ex_63 => ?_)
                  refine va_iast hx hb hK hP hD hS 2 0 rfl rfl (vp_in_iff.mpr (by decide)) dX6_campaign_140 (fun H locs hP hD hS => ?_)
                  obtain ⟨f_64, ef_64⟩ : ∃ z9, z9 = upd (fun _ => 0) (Int32.toNatClampNeg 0) x_63 := ⟨_, rfl⟩
                  have hP : va_P (dC, dI) vwCl [(h0, .inr (6, fs)), (q_sort, .inl (cI, 40, .inl f_62)), (q_pays, .inl (cI, 40, .inl f_64)), (q_must, .inl (cI, 40, .inl (fun _ => 0))), (q_never, .inl (cI, 40, .inl (fun _ => 0))), (q_bid, .inl (cI, 40, .inl (fun _ => 0))), (q_cap, .inl (cI, 40, .inl (fun _ => 0))), (q_span, .inl (cI, 40, .inl (fun _ => 0))), (q_throttle, .inl (cI, 40, .inl (fun _ => 0))), (q_promised, .inl (cI, 40, .inl (fun _ => 0)))] H := by rw [ef_64]; exact hP
                  have hD : va_D A [(h0, .inr (6, fs)), (q_sort, .inl (cI, 40, .inl f_62)), (q_pays, .inl (cI, 40, .inl f_64)), (q_must, .inl (cI, 40, .inl (fun _ => 0))), (q_never, .inl (cI, 40, .inl (fun _ => 0))), (q_bid, .inl (cI, 40, .inl (fun _ => 0))), (q_cap, .inl (cI, 40, .inl (fun _ => 0))), (q_span, .inl (cI, 40, .inl (fun _ => 0))), (q_throttle, .inl (cI, 40, .inl (fun _ => 0))), (q_promised, .inl (cI, 40, .inl (fun _ => 0)))] := by rw [ef_64]; exact hD
                  refine lv_aload_n hx hb dX6_campaign_141 rfl (lv_at hl 3 rfl) ?_
                  refine va_get (D := (dC, dI)) (ci := 6) (v := .ref q_must) (C := RX6) (T := TX6) (N := 51) hx hb hts uB6 hown hK hP 0 rfl rfl 12 (by decide) (hts _ wm_132) (fun _ h9 => h9) hf_must dX6_campaign_142 ?_
                  refine lv_iload hx hb dX6_campaign_145 (lv_at hl 0 rfl) ?_
                  refine lv_iload_n hx hb dX6_campaign_147 rfl (lv_at hl 5 rfl) ?_
                  refine lv_sipush (v := 4096) hx hb dX6_campaign_148 (by decide) ?_
                  refine lv_idiv hx hb dX6_campaign_151 (by decide) ?_
                  refine lv_topi (fun x_65 ex_65 => ?_)
                  refine va_iast hx hb hK hP hD hS 3 0 rfl rfl (vp_in_iff.mpr (by decide)) dX6_campaign_152 (fun H locs hP hD hS => ?_)
                  obtain ⟨f_66, ef_66⟩ : ∃ z9, z9 = upd (fun _ => 0) (Int32.toNatClampNeg 0) x_65 := ⟨_, rfl⟩
                  have hP : va_P (dC, dI) vwCl [(h0, .inr (6, fs)), (q_sort, .inl (cI, 40, .inl f_62)), (q_pays, .inl (cI, 40, .inl f_64)), (q_must, .inl (cI, 40, .inl f_66)), (q_never, .inl (cI, 40, .inl (fun _ => 0))), (q_bid, .inl (cI, 40, .inl (fun _ => 0))), (q_cap, .inl (cI, 40, .inl (fun _ => 0))), (q_span, .inl (cI, 40, .inl (fun _ => 0))), (q_throttle, .inl (cI, 40, .inl (fun _ => 0))), (q_promised, .inl (cI, 40, .inl (fun _ => 0)))] H := by rw [ef_66]; exact hP
                  have hD : va_D A [(h0, .inr (6, fs)), (q_sort, .inl (cI, 40, .inl f_62)), (q_pays, .inl (cI, 40, .inl f_64)), (q_must, .inl (cI, 40, .inl f_66)), (q_never, .inl (cI, 40, .inl (fun _ => 0))), (q_bid, .inl (cI, 40, .inl (fun _ => 0))), (q_cap, .inl (cI, 40, .inl (fun _ => 0))), (q_span, .inl (cI, 40, .inl (fun _ => 0))), (q_throttle, .inl (cI, 40, .inl (fun _ => 0))), (q_promised, .inl (cI, 40, .inl (fun _ => 0)))] := by rw [ef_66]; exact hD
                  refine lv_aload_n hx hb dX6_campaign_153 rfl (lv_at hl 3 rfl) ?_
                  refine va_get (D := (dC, dI)) (ci := 6) (v := .ref q_never) (C := RX6) (T := TX6) (N := 51) hx hb hts uB6 hown hK hP 0 rfl rfl 13 (by decide) (hts _ wm_133) (fun _ h9 => h9) hf_never dX6_campaign_154 ?_
                  refine lv_iload hx hb dX6_campaign_157 (lv_at hl 0 rfl) ?_
                  refine lv_iload_n hx hb dX6_campaign_159 rfl (lv_at hl 5 rfl) ?_
                  refine lv_sipush (v := 4096) hx hb dX6_campaign_160 (by decide) ?_
                  refine lv_irem hx hb dX6_campaign_163 (by decide) ?_
                  refine lv_topi (fun x_67 ex_67 => ?_)
                  refine va_iast hx hb hK hP hD hS 4 0 rfl rfl (vp_in_iff.mpr (by decide)) dX6_campaign_164 (fun H locs hP hD hS => ?_)
                  obtain ⟨f_68, ef_68⟩ : ∃ z9, z9 = upd (fun _ => 0) (Int32.toNatClampNeg 0) x_67 := ⟨_, rfl⟩
                  have hP : va_P (dC, dI) vwCl [(h0, .inr (6, fs)), (q_sort, .inl (cI, 40, .inl f_62)), (q_pays, .inl (cI, 40, .inl f_64)), (q_must, .inl (cI, 40, .inl f_66)), (q_never, .inl (cI, 40, .inl f_68)), (q_bid, .inl (cI, 40, .inl (fun _ => 0))), (q_cap, .inl (cI, 40, .inl (fun _ => 0))), (q_span, .inl (cI, 40, .inl (fun _ => 0))), (q_throttle, .inl (cI, 40, .inl (fun _ => 0))), (q_promised, .inl (cI, 40, .inl (fun _ => 0)))] H := by rw [ef_68]; exact hP
                  have hD : va_D A [(h0, .inr (6, fs)), (q_sort, .inl (cI, 40, .inl f_62)), (q_pays, .inl (cI, 40, .inl f_64)), (q_must, .inl (cI, 40, .inl f_66)), (q_never, .inl (cI, 40, .inl f_68)), (q_bid, .inl (cI, 40, .inl (fun _ => 0))), (q_cap, .inl (cI, 40, .inl (fun _ => 0))), (q_span, .inl (cI, 40, .inl (fun _ => 0))), (q_throttle, .inl (cI, 40, .inl (fun _ => 0))), (q_promised, .inl (cI, 40, .inl (fun _ => 0)))] := by rw [ef_68]; exact hD
                  refine lv_aload_n hx hb dX6_campaign_165 rfl (lv_at hl 3 rfl) ?_
                  refine va_get (D := (dC, dI)) (ci := 6) (v := .ref q_bid) (C := RX6) (T := TX6) (N := 51) hx hb hts uB6 hown hK hP 0 rfl rfl 14 (by decide) (hts _ wm_134) (fun _ h9 => h9) hf_bid dX6_campaign_166 ?_
                  refine lv_iload hx hb dX6_campaign_169 (lv_at hl 0 rfl) ?_
                  refine lv_iload_n hx hb dX6_campaign_171 rfl (lv_at hl 6 rfl) ?_
                  refine va_iast hx hb hK hP hD hS 5 0 rfl rfl (vp_in_iff.mpr (by decide)) dX6_campaign_172 (fun H locs hP hD hS => ?_)
                  obtain ⟨f_69, ef_69⟩ : ∃ z9, z9 = upd (fun _ => 0) (Int32.toNatClampNeg 0) z := ⟨_, rfl⟩
                  have hP : va_P (dC, dI) vwCl [(h0, .inr (6, fs)), (q_sort, .inl (cI, 40, .inl f_62)), (q_pays, .inl (cI, 40, .inl f_64)), (q_must, .inl (cI, 40, .inl f_66)), (q_never, .inl (cI, 40, .inl f_68)), (q_bid, .inl (cI, 40, .inl f_69)), (q_cap, .inl (cI, 40, .inl (fun _ => 0))), (q_span, .inl (cI, 40, .inl (fun _ => 0))), (q_throttle, .inl (cI, 40, .inl (fun _ => 0))), (q_promised, .inl (cI, 40, .inl (fun _ => 0)))] H := by rw [ef_69]; exact hP
                  have hD : va_D A [(h0, .inr (6, fs)), (q_sort, .inl (cI, 40, .inl f_62)), (q_pays, .inl (cI, 40, .inl f_64)), (q_must, .inl (cI, 40, .inl f_66)), (q_never, .inl (cI, 40, .inl f_68)), (q_bid, .inl (cI, 40, .inl f_69)), (q_cap, .inl (cI, 40, .inl (fun _ => 0))), (q_span, .inl (cI, 40, .inl (fun _ => 0))), (q_throttle, .inl (cI, 40, .inl (fun _ => 0))), (q_promised, .inl (cI, 40, .inl (fun _ => 0)))] := by rw [ef_69]; exact hD
                  refine lv_aload_n hx hb dX6_campaign_173 rfl (lv_at hl 3 rfl) ?_
                  refine va_get (D := (dC, dI)) (ci := 6) (v := .ref q_cap) (C := RX6) (T := TX6) (N := 51) hx hb hts uB6 hown hK hP 0 rfl rfl 17 (by decide) (hts _ wm_135) (fun _ h9 => h9) hf_cap dX6_campaign_174 ?_
                  refine lv_iload hx hb dX6_campaign_177 (lv_at hl 0 rfl) ?_
                  refine lv_bipush (v := 9) hx hb dX6_campaign_179 (by decide) ?_
                  refine va_iast hx hb hK hP hD hS 6 0 rfl rfl (vp_in_iff.mpr (by decide)) dX6_campaign_181 (fun H locs hP hD hS => ?_)
                  obtain ⟨f_70, ef_70⟩ : ∃ z9, z9 = upd (fun _ => 0) (Int32.toNatClampNeg 0) 9 := ⟨_, rfl⟩
                  have hP : va_P (dC, dI) vwCl [(h0, .inr (6, fs)), (q_sort, .inl (cI, 40, .inl f_62)), (q_pays, .inl (cI, 40, .inl f_64)), (q_must, .inl (cI, 40, .inl f_66)), (q_never, .inl (cI, 40, .inl f_68)), (q_bid, .inl (cI, 40, .inl f_69)), (q_cap, .inl (cI, 40, .inl f_70)), (q_span, .inl (cI, 40, .inl (fun _ => 0))), (q_throttle, .inl (cI, 40, .inl (fun _ => 0))), (q_promised, .inl (cI, 40, .inl (fun _ => 0)))] H := by rw [ef_70]; exact hP
                  have hD : va_D A [(h0, .inr (6, fs)), (q_sort, .inl (cI, 40, .inl f_62)), (q_pays, .inl (cI, 40, .inl f_64)), (q_must, .inl (cI, 40, .inl f_66)), (q_never, .inl (cI, 40, .inl f_68)), (q_bid, .inl (cI, 40, .inl f_69)), (q_cap, .inl (cI, 40, .inl f_70)), (q_span, .inl (cI, 40, .inl (fun _ => 0))), (q_throttle, .inl (cI, 40, .inl (fun _ => 0))), (q_promised, .inl (cI, 40, .inl (fun _ => 0)))] := by rw [ef_70]; exact hD
                  refine lv_aload_n hx hb dX6_campaign_182 rfl (lv_at hl 3 rfl) ?_
                  refine va_get (D := (dC, dI)) (ci := 6) (v := .ref q_span) (C := RX6) (T := TX6) (N := 51) hx hb hts uB6 hown hK hP 0 rfl rfl 18 (by decide) (hts _ wm_136) (fun _ h9 => h9) hf_span dX6_campaign_183 ?_
                  refine lv_iload hx hb dX6_campaign_186 (lv_at hl 0 rfl) ?_
                  refine lv_iconst (v := 1) hx hb dX6_campaign_188 (by decide) ?_
                  refine va_iast hx hb hK hP hD hS 7 0 rfl rfl (vp_in_iff.mpr (by decide)) dX6_campaign_189 (fun H locs hP hD hS => ?_)
                  obtain ⟨f_71, ef_71⟩ : ∃ z9, z9 = upd (fun _ => 0) (Int32.toNatClampNeg 0) 1 := ⟨_, rfl⟩
                  have hP : va_P (dC, dI) vwCl [(h0, .inr (6, fs)), (q_sort, .inl (cI, 40, .inl f_62)), (q_pays, .inl (cI, 40, .inl f_64)), (q_must, .inl (cI, 40, .inl f_66)), (q_never, .inl (cI, 40, .inl f_68)), (q_bid, .inl (cI, 40, .inl f_69)), (q_cap, .inl (cI, 40, .inl f_70)), (q_span, .inl (cI, 40, .inl f_71)), (q_throttle, .inl (cI, 40, .inl (fun _ => 0))), (q_promised, .inl (cI, 40, .inl (fun _ => 0)))] H := by rw [ef_71]; exact hP
                  have hD : va_D A [(h0, .inr (6, fs)), (q_sort, .inl (cI, 40, .inl f_62)), (q_pays, .inl (cI, 40, .inl f_64)), (q_must, .inl (cI, 40, .inl f_66)), (q_never, .inl (cI, 40, .inl f_68)), (q_bid, .inl (cI, 40, .inl f_69)), (q_cap, .inl (cI, 40, .inl f_70)), (q_span, .inl (cI, 40, .inl f_71)), (q_throttle, .inl (cI, 40, .inl (fun _ => 0))), (q_promised, .inl (cI, 40, .inl (fun _ => 0)))] := by rw [ef_71]; exact hD
                  refine lv_aload_n hx hb dX6_campaign_190 rfl (lv_at hl 3 rfl) ?_
                  refine va_get (D := (dC, dI)) (ci := 6) (v := .ref q_throttle) (C := RX6) (T := TX6) (N := 51) hx hb hts uB6 hown hK hP 0 rfl rfl 19 (by decide) (hts _ wm_137) (fun _ h9 => h9) hf_throttle dX6_campaign_191 ?_
                  refine lv_iload hx hb dX6_campaign_194 (lv_at hl 0 rfl) ?_
                  refine lv_sipush (v := 1000) hx hb dX6_campaign_196 (by decide) ?_
                  refine va_iast hx hb hK hP hD hS 8 0 rfl rfl (vp_in_iff.mpr (by decide)) dX6_campaign_199 (fun H locs hP hD hS => ?_)
                  obtain ⟨f_72, ef_72⟩ : ∃ z9, z9 = upd (fun _ => 0) (Int32.toNatClampNeg 0) 1000 := ⟨_, rfl⟩
                  have hP : va_P (dC, dI) vwCl [(h0, .inr (6, fs)), (q_sort, .inl (cI, 40, .inl f_62)), (q_pays, .inl (cI, 40, .inl f_64)), (q_must, .inl (cI, 40, .inl f_66)), (q_never, .inl (cI, 40, .inl f_68)), (q_bid, .inl (cI, 40, .inl f_69)), (q_cap, .inl (cI, 40, .inl f_70)), (q_span, .inl (cI, 40, .inl f_71)), (q_throttle, .inl (cI, 40, .inl f_72)), (q_promised, .inl (cI, 40, .inl (fun _ => 0)))] H := by rw [ef_72]; exact hP
                  have hD : va_D A [(h0, .inr (6, fs)), (q_sort, .inl (cI, 40, .inl f_62)), (q_pays, .inl (cI, 40, .inl f_64)), (q_must, .inl (cI, 40, .inl f_66)), (q_never, .inl (cI, 40, .inl f_68)), (q_bid, .inl (cI, 40, .inl f_69)), (q_cap, .inl (cI, 40, .inl f_70)), (q_span, .inl (cI, 40, .inl f_71)), (q_throttle, .inl (cI, 40, .inl f_72)), (q_promised, .inl (cI, 40, .inl (fun _ => 0)))] := by rw [ef_72]; exact hD
                  refine lv_aload_n hx hb dX6_campaign_200 rfl (lv_at hl 3 rfl) ?_
                  refine va_get (D := (dC, dI)) (ci := 6) (v := .ref q_promised) (C := RX6) (T := TX6) (N := 51) hx hb hts uB6 hown hK hP 0 rfl rfl 22 (by decide) (hts _ wm_138) (fun _ h9 => h9) hf_promised dX6_campaign_201 ?_
                  refine lv_iload hx hb dX6_campaign_204 (lv_at hl 0 rfl) ?_
                  refine lv_iconst (v := 0) hx hb dX6_campaign_206 (by decide) ?_
                  refine va_iast hx hb hK hP hD hS 9 0 rfl rfl (vp_in_iff.mpr (by decide)) dX6_campaign_207 (fun H locs hP hD hS => ?_)
                  obtain ⟨f_73, ef_73⟩ : ∃ z9, z9 = upd (fun _ => 0) (Int32.toNatClampNeg 0) 0 := ⟨_, rfl⟩
                  have hP : va_P (dC, dI) vwCl [(h0, .inr (6, fs)), (q_sort, .inl (cI, 40, .inl f_62)), (q_pays, .inl (cI, 40, .inl f_64)), (q_must, .inl (cI, 40, .inl f_66)), (q_never, .inl (cI, 40, .inl f_68)), (q_bid, .inl (cI, 40, .inl f_69)), (q_cap, .inl (cI, 40, .inl f_70)), (q_span, .inl (cI, 40, .inl f_71)), (q_throttle, .inl (cI, 40, .inl f_72)), (q_promised, .inl (cI, 40, .inl f_73))] H := by rw [ef_73]; exact hP
                  have hD : va_D A [(h0, .inr (6, fs)), (q_sort, .inl (cI, 40, .inl f_62)), (q_pays, .inl (cI, 40, .inl f_64)), (q_must, .inl (cI, 40, .inl f_66)), (q_never, .inl (cI, 40, .inl f_68)), (q_bid, .inl (cI, 40, .inl f_69)), (q_cap, .inl (cI, 40, .inl f_70)), (q_span, .inl (cI, 40, .inl f_71)), (q_throttle, .inl (cI, 40, .inl f_72)), (q_promised, .inl (cI, 40, .inl f_73))] := by rw [ef_73]; exact hD
                  refine lv_aload_n hx hb dX6_campaign_208 rfl (lv_at hl 3 rfl) ?_
                  refine lv_dup hx hb dX6_campaign_209 rfl ?_
                  refine va_get (D := (dC, dI)) (ci := 6) (v := .int 0) (C := RX6) (T := TX6) (N := 51) hx hb hts uB6 hown hK hP 0 rfl rfl 9 (by decide) (hts _ wm_12) (fun _ h9 => h9) hfc dX6_campaign_210 ?_
                  refine lv_iconst (v := 1) hx hb dX6_campaign_213 (by decide) ?_
                  refine lv_iadd hx hb dX6_campaign_214 ?_
                  refine lv_topi (fun x_74 ex_74 => ?_)
                  obtain rfl : x_74 = 1 := ex_74.trans (by decide)
                  refine va_put (D := (dC, dI)) (ci := 6) (v := .int 1) (ty := .int) (C := RX6) (T := TX6) (N := 51) hx hb hts uB6 tyX6 tyX6_ok nmX6 hown hK hP hD hS 0 rfl rfl 9 (by decide) (hts _ wm_12) (fun _ h9 => h9) rfl (by decide +kernel) rfl rfl (by rw [hlen_h0]; decide) dX6_campaign_215 (fun H locs hP hD hS => ?_)
                  obtain ⟨fs_75, efs_75⟩ : ∃ z9, z9 = (fs).set 9 (.int 1) := ⟨_, rfl⟩
                  have hP : va_P (dC, dI) vwCl [(h0, .inr (6, fs_75)), (q_sort, .inl (cI, 40, .inl f_62)), (q_pays, .inl (cI, 40, .inl f_64)), (q_must, .inl (cI, 40, .inl f_66)), (q_never, .inl (cI, 40, .inl f_68)), (q_bid, .inl (cI, 40, .inl f_69)), (q_cap, .inl (cI, 40, .inl f_70)), (q_span, .inl (cI, 40, .inl f_71)), (q_throttle, .inl (cI, 40, .inl f_72)), (q_promised, .inl (cI, 40, .inl f_73))] H := by rw [efs_75]; exact hP
                  have hD : va_D A [(h0, .inr (6, fs_75)), (q_sort, .inl (cI, 40, .inl f_62)), (q_pays, .inl (cI, 40, .inl f_64)), (q_must, .inl (cI, 40, .inl f_66)), (q_never, .inl (cI, 40, .inl f_68)), (q_bid, .inl (cI, 40, .inl f_69)), (q_cap, .inl (cI, 40, .inl f_70)), (q_span, .inl (cI, 40, .inl f_71)), (q_throttle, .inl (cI, 40, .inl f_72)), (q_promised, .inl (cI, 40, .inl f_73))] := by rw [efs_75]; exact hD
                  have hf_sort : fs_75[10]? = some (.ref q_sort) := by rw [efs_75, List.getElem?_set_ne (by decide)]; exact hf_sort
                  have hf_pays : fs_75[11]? = some (.ref q_pays) := by rw [efs_75, List.getElem?_set_ne (by decide)]; exact hf_pays
                  have hf_must : fs_75[12]? = some (.ref q_must) := by rw [efs_75, List.getElem?_set_ne (by decide)]; exact hf_must
                  have hf_never : fs_75[13]? = some (.ref q_never) := by rw [efs_75, List.getElem?_set_ne (by decide)]; exact hf_never
                  have hf_bid : fs_75[14]? = some (.ref q_bid) := by rw [efs_75, List.getElem?_set_ne (by decide)]; exact hf_bid
                  have hf_cap : fs_75[17]? = some (.ref q_cap) := by rw [efs_75, List.getElem?_set_ne (by decide)]; exact hf_cap
                  have hf_span : fs_75[18]? = some (.ref q_span) := by rw [efs_75, List.getElem?_set_ne (by decide)]; exact hf_span
                  have hf_throttle : fs_75[19]? = some (.ref q_throttle) := by rw [efs_75, List.getElem?_set_ne (by decide)]; exact hf_throttle
                  have hf_promised : fs_75[22]? = some (.ref q_promised) := by rw [efs_75, List.getElem?_set_ne (by decide)]; exact hf_promised
                  have hfc : fs_75[9]? = some (.int 1) := by rw [efs_75]; exact List.getElem?_set_self (by rw [hlen_h0]; decide)
                  have hlen_h0 : fs_75.length = 51 := by rw [efs_75, List.length_set]; exact hlen_h0
                  refine lv_iload hx hb dX6_campaign_218 (lv_at hl 0 rfl) ?_
                  exact W.iret (v := 0) hx hb hr (fun t ht hW => ⟨⟨0, (), rfl, (by subst ex_1 ex_5 ex_58 ex_59 ex_60 ex_63 ex_65 ex_67; have h1 := k_cp1 x; have h2 := k_cp2 y; simp only [Int32.lt_iff_toInt_lt, Int32.le_iff_toInt_le, ← Int32.toInt_inj, Int32.reduceToInt] at h1 h2 c_2 g_4 c_6 g_52 g_54 c_55 g_57 c_61; exact (if_pos (by unfold cpOk; simp only [Int32.lt_iff_toInt_lt, Int32.le_iff_toInt_le, ← Int32.toInt_inj, Int32.reduceToInt]; omega)).symm), trivial⟩, hS.F ht⟩) hS.2.2 dX6_campaign_220
                · skip
                  refine lv_iconst (v := (-1)) hx hb dX6_campaign_101 (by decide) ?_
                  exact W.iret (v := (-1)) hx hb hr (fun t ht hW => ⟨⟨(-1), (), rfl, (by subst ex_1 ex_5 ex_58 ex_59 ex_60; have h1 := k_cp1 x; have h2 := k_cp2 y; simp only [Int32.lt_iff_toInt_lt, Int32.le_iff_toInt_le, ← Int32.toInt_inj, Int32.reduceToInt] at h1 h2 c_2 g_4 c_6 g_52 g_54 c_55 g_57 c_61; exact (if_neg (by unfold cpOk; simp only [Int32.lt_iff_toInt_lt, Int32.le_iff_toInt_le, ← Int32.toInt_inj, Int32.reduceToInt]; omega)).symm), trivial⟩, hS.F ht⟩) hS.2.2 dX6_campaign_102
            · skip
              refine lv_iload_n hx hb dX6_campaign_57 rfl (lv_at hl 4 rfl) ?_
              refine lv_if_ne (tgt := 79) hx hb dX6_campaign_58 (by decide) (fun c_76 => ?_) (fun c_76 => ?_)
              · skip
                refine lv_iconst (v := 0) hx hb dX6_campaign_79 (by decide) ?_
                refine lv_istore (lv' := [(5, .int 0), (4, .int x_1), (0, .ref h0), (1, .int x), (2, .int y), (3, .int z)]) hx hb dX6_campaign_80 hl (by decide) rfl (fun ls hl => ?_)
                refine lv_iload hx hb dX6_campaign_82 (lv_at hl 0 rfl) ?_
                refine lv_if_eq (tgt := 101) hx hb dX6_campaign_84 (by decide) (fun _ => ?_) (fun h9 => absurd (by decide) h9)
                refine lv_iconst (v := (-1)) hx hb dX6_campaign_101 (by decide) ?_
                exact W.iret (v := (-1)) hx hb hr (fun t ht hW => ⟨⟨(-1), (), rfl, (by subst ex_1 ex_5; have h1 := k_cp1 x; have h2 := k_cp2 y; simp only [Int32.lt_iff_toInt_lt, Int32.le_iff_toInt_le, ← Int32.toInt_inj, Int32.reduceToInt] at h1 h2 c_2 g_4 c_6 g_52 g_54 c_55 c_76; exact (if_neg (by unfold cpOk; simp only [Int32.lt_iff_toInt_lt, Int32.le_iff_toInt_le, ← Int32.toInt_inj, Int32.reduceToInt]; omega)).symm), trivial⟩, hS.F ht⟩) hS.2.2 dX6_campaign_102
              · skip
                refine lv_goto (tgt := 75) hx hb dX6_campaign_61 (by decide) ?_
                refine lv_iconst (v := 1) hx hb dX6_campaign_75 (by decide) ?_
                refine lv_goto (tgt := 80) hx hb dX6_campaign_76 (by decide) ?_
                refine lv_istore (lv' := [(5, .int 1), (4, .int x_1), (0, .ref h0), (1, .int x), (2, .int y), (3, .int z)]) hx hb dX6_campaign_80 hl (by decide) rfl (fun ls hl => ?_)
                refine lv_iload hx hb dX6_campaign_82 (lv_at hl 0 rfl) ?_
                refine lv_if_eq (tgt := 101) hx hb dX6_campaign_84 (by decide) (fun h9 => absurd h9 (by decide)) (fun _ => ?_)
                refine lv_iload_n hx hb dX6_campaign_87 rfl (lv_at hl 4 rfl) ?_
                refine lv_sipush (v := 4096) hx hb dX6_campaign_88 (by decide) ?_
                refine lv_idiv hx hb dX6_campaign_91 (by decide) ?_
                refine lv_topi (fun x_77 ex_77 => ?_)
                refine lv_iload_n hx hb dX6_campaign_92 rfl (lv_at hl 4 rfl) ?_
                refine lv_sipush (v := 4096) hx hb dX6_campaign_93 (by decide) ?_
                refine lv_irem hx hb dX6_campaign_96 (by decide) ?_
                refine lv_topi (fun x_78 ex_78 => ?_)
                refine lv_iand hx hb dX6_campaign_97 ?_
                refine lv_topi (fun x_79 ex_79 => ?_)
                refine lv_if_eq (tgt := 103) hx hb dX6_campaign_98 (by decide) (fun c_80 => ?_) (fun c_80 => ?_)
                · skip
                  refine lv_aload_n hx hb dX6_campaign_103 rfl (lv_at hl 2 rfl) ?_
                  refine va_get (D := (dC, dI)) (ci := 6) (v := .int 0) (C := RX6) (T := TX6) (N := 51) hx hb hts uB6 hown hK hP 0 rfl rfl 9 (by decide) (hts _ wm_12) (fun _ h9 => h9) hfc dX6_campaign_104 ?_
                  refine lv_bipush (v := 40) hx hb dX6_campaign_107 (by decide) ?_
                  refine lv_icmp_ne (tgt := 115) hx hb dX6_campaign_109 (by decide) (fun _ => ?_) (fun h9 => absurd h9 (by decide))
                  refine lv_aload_n hx hb dX6_campaign_115 rfl (lv_at hl 2 rfl) ?_
                  refine va_get (D := (dC, dI)) (ci := 6) (v := .int 0) (C := RX6) (T := TX6) (N := 51) hx hb hts uB6 hown hK hP 0 rfl rfl 9 (by decide) (hts _ wm_12) (fun _ h9 => h9) hfc dX6_campaign_116 ?_
                  refine lv_istore (lv' := [(6, .int 0), (5, .int 1), (4, .int x_1), (0, .ref h0), (1, .int x), (2, .int y), (3, .int z)]) hx hb dX6_campaign_119 hl (by decide) rfl (fun ls hl => ?_)
                  refine lv_aload_n hx hb dX6_campaign_121 rfl (lv_at hl 3 rfl) ?_
                  refine va_get (D := (dC, dI)) (ci := 6) (v := .ref q_sort) (C := RX6) (T := TX6) (N := 51) hx hb hts uB6 hown hK hP 0 rfl rfl 10 (by decide) (hts _ wm_130) (fun _ h9 => h9) hf_sort dX6_campaign_122 ?_
                  refine lv_iload hx hb dX6_campaign_125 (lv_at hl 0 rfl) ?_
                  refine lv_iload hx hb dX6_campaign_127 (lv_at hl 2 rfl) ?_
                  refine va_iast hx hb hK hP hD hS 1 0 rfl rfl (vp_in_iff.mpr (by decide)) dX6_campaign_129 (fun H locs hP hD hS => ?_)
                  obtain ⟨f_81, ef_81⟩ : ∃ z9, z9 = upd (fun _ => 0) (Int32.toNatClampNeg 0) x_1 := ⟨_, rfl⟩
                  have hP : va_P (dC, dI) vwCl [(h0, .inr (6, fs)), (q_sort, .inl (cI, 40, .inl f_81)), (q_pays, .inl (cI, 40, .inl (fun _ => 0))), (q_must, .inl (cI, 40, .inl (fun _ => 0))), (q_never, .inl (cI, 40, .inl (fun _ => 0))), (q_bid, .inl (cI, 40, .inl (fun _ => 0))), (q_cap, .inl (cI, 40, .inl (fun _ => 0))), (q_span, .inl (cI, 40, .inl (fun _ => 0))), (q_throttle, .inl (cI, 40, .inl (fun _ => 0))), (q_promised, .inl (cI, 40, .inl (fun _ => 0)))] H := by rw [ef_81]; exact hP
                  have hD : va_D A [(h0, .inr (6, fs)), (q_sort, .inl (cI, 40, .inl f_81)), (q_pays, .inl (cI, 40, .inl (fun _ => 0))), (q_must, .inl (cI, 40, .inl (fun _ => 0))), (q_never, .inl (cI, 40, .inl (fun _ => 0))), (q_bid, .inl (cI, 40, .inl (fun _ => 0))), (q_cap, .inl (cI, 40, .inl (fun _ => 0))), (q_span, .inl (cI, 40, .inl (fun _ => 0))), (q_throttle, .inl (cI, 40, .inl (fun _ => 0))), (q_promised, .inl (cI, 40, .inl (fun _ => 0)))] := by rw [ef_81]; exact hD
                  refine lv_aload_n hx hb dX6_campaign_130 rfl (lv_at hl 3 rfl) ?_
                  refine va_get (D := (dC, dI)) (ci := 6) (v := .ref q_pays) (C := RX6) (T := TX6) (N := 51) hx hb hts uB6 hown hK hP 0 rfl rfl 11 (by decide) (hts _ wm_131) (fun _ h9 => h9) hf_pays dX6_campaign_131 ?_
                  refine lv_iload hx hb dX6_campaign_134 (lv_at hl 0 rfl) ?_
                  refine lv_iload_n hx hb dX6_campaign_136 rfl (lv_at hl 4 rfl) ?_
                  refine lv_bipush (v := 10) hx hb dX6_campaign_137 (by decide) ?_
                  refine lv_irem hx hb dX6_campaign_139 (by decide) ?_
                  refine lv_topi (fun x_82 ex_82 => ?_)
                  refine va_iast hx hb hK hP hD hS 2 0 rfl rfl (vp_in_iff.mpr (by decide)) dX6_campaign_140 (fun H locs hP hD hS => ?_)
                  obtain ⟨f_83, ef_83⟩ : ∃ z9, z9 = upd (fun _ => 0) (Int32.toNatClampNeg 0) x_82 := ⟨_, rfl⟩
                  have hP : va_P (dC, dI) vwCl [(h0, .inr (6, fs)), (q_sort, .inl (cI, 40, .inl f_81)), (q_pays, .inl (cI, 40, .inl f_83)), (q_must, .inl (cI, 40, .inl (fun _ => 0))), (q_never, .inl (cI, 40, .inl (fun _ => 0))), (q_bid, .inl (cI, 40, .inl (fun _ => 0))), (q_cap, .inl (cI, 40, .inl (fun _ => 0))), (q_span, .inl (cI, 40, .inl (fun _ => 0))), (q_throttle, .inl (cI, 40, .inl (fun _ => 0))), (q_promised, .inl (cI, 40, .inl (fun _ => 0)))] H := by rw [ef_83]; exact hP
                  have hD : va_D A [(h0, .inr (6, fs)), (q_sort, .inl (cI, 40, .inl f_81)), (q_pays, .inl (cI, 40, .inl f_83)), (q_must, .inl (cI, 40, .inl (fun _ => 0))), (q_never, .inl (cI, 40, .inl (fun _ => 0))), (q_bid, .inl (cI, 40, .inl (fun _ => 0))), (q_cap, .inl (cI, 40, .inl (fun _ => 0))), (q_span, .inl (cI, 40, .inl (fun _ => 0))), (q_throttle, .inl (cI, 40, .inl (fun _ => 0))), (q_promised, .inl (cI, 40, .inl (fun _ => 0)))] := by rw [ef_83]; exact hD
                  refine lv_aload_n hx hb dX6_campaign_141 rfl (lv_at hl 3 rfl) ?_
                  refine va_get (D := (dC, dI)) (ci := 6) (v := .ref q_must) (C := RX6) (T := TX6) (N := 51) hx hb hts uB6 hown hK hP 0 rfl rfl 12 (by decide) (hts _ wm_132) (fun _ h9 => h9) hf_must dX6_campaign_142 ?_
                  refine lv_iload hx hb dX6_campaign_145 (lv_at hl 0 rfl) ?_
                  refine lv_iload_n hx hb dX6_campaign_147 rfl (lv_at hl 5 rfl) ?_
                  refine lv_sipush (v := 4096) hx hb dX6_campaign_148 (by decide) ?_
                  refine lv_idiv hx hb dX6_campaign_151 (by decide) ?_
                  refine lv_topi (fun x_84 ex_84 => ?_)
                  refine va_iast hx hb hK hP hD hS 3 0 rfl rfl (vp_in_iff.mpr (by decide)) dX6_campaign_152 (fun H locs hP hD hS => ?_)
                  obtain ⟨f_85, ef_85⟩ : ∃ z9, z9 = upd (fun _ => 0) (Int32.toNatClampNeg 0) x_84 := ⟨_, rfl⟩
                  have hP : va_P (dC, dI) vwCl [(h0, .inr (6, fs)), (q_sort, .inl (cI, 40, .inl f_81)), (q_pays, .inl (cI, 40, .inl f_83)), (q_must, .inl (cI, 40, .inl f_85)), (q_never, .inl (cI, 40, .inl (fun _ => 0))), (q_bid, .inl (cI, 40, .inl (fun _ => 0))), (q_cap, .inl (cI, 40, .inl (fun _ => 0))), (q_span, .inl (cI, 40, .inl (fun _ => 0))), (q_throttle, .inl (cI, 40, .inl (fun _ => 0))), (q_promised, .inl (cI, 40, .inl (fun _ => 0)))] H := by rw [ef_85]; exact hP
                  have hD : va_D A [(h0, .inr (6, fs)), (q_sort, .inl (cI, 40, .inl f_81)), (q_pays, .inl (cI, 40, .inl f_83)), (q_must, .inl (cI, 40, .inl f_85)), (q_never, .inl (cI, 40, .inl (fun _ => 0))), (q_bid, .inl (cI, 40, .inl (fun _ => 0))), (q_cap, .inl (cI, 40, .inl (fun _ => 0))), (q_span, .inl (cI, 40, .inl (fun _ => 0))), (q_throttle, .inl (cI, 40, .inl (fun _ => 0))), (q_promised, .inl (cI, 40, .inl (fun _ => 0)))] := by rw [ef_85]; exact hD
                  refine lv_aload_n hx hb dX6_campaign_153 rfl (lv_at hl 3 rfl) ?_
                  refine va_get (D := (dC, dI)) (ci := 6) (v := .ref q_never) (C := RX6) (T := TX6) (N := 51) hx hb hts uB6 hown hK hP 0 rfl rfl 13 (by decide) (hts _ wm_133) (fun _ h9 => h9) hf_never dX6_campaign_154 ?_
                  refine lv_iload hx hb dX6_campaign_157 (lv_at hl 0 rfl) ?_
                  refine lv_iload_n hx hb dX6_campaign_159 rfl (lv_at hl 5 rfl) ?_
                  refine lv_sipush (v := 4096) hx hb dX6_campaign_160 (by decide) ?_
                  refine lv_irem hx hb dX6_campaign_163 (by decide) ?_
                  refine lv_topi (fun x_86 ex_86 => ?_)
                  refine va_iast hx hb hK hP hD hS 4 0 rfl rfl (vp_in_iff.mpr (by decide)) dX6_campaign_164 (fun H locs hP hD hS => ?_)
                  obtain ⟨f_87, ef_87⟩ : ∃ z9, z9 = upd (fun _ => 0) (Int32.toNatClampNeg 0) x_86 := ⟨_, rfl⟩
                  have hP : va_P (dC, dI) vwCl [(h0, .inr (6, fs)), (q_sort, .inl (cI, 40, .inl f_81)), (q_pays, .inl (cI, 40, .inl f_83)), (q_must, .inl (cI, 40, .inl f_85)), (q_never, .inl (cI, 40, .inl f_87)), (q_bid, .inl (cI, 40, .inl (fun _ => 0))), (q_cap, .inl (cI, 40, .inl (fun _ => 0))), (q_span, .inl (cI, 40, .inl (fun _ => 0))), (q_throttle, .inl (cI, 40, .inl (fun _ => 0))), (q_promised, .inl (cI, 40, .inl (fun _ => 0)))] H := by rw [ef_87]; exact hP
                  have hD : va_D A [(h0, .inr (6, fs)), (q_sort, .inl (cI, 40, .inl f_81)), (q_pays, .inl (cI, 40, .inl f_83)), (q_must, .inl (cI, 40, .inl f_85)), (q_never, .inl (cI, 40, .inl f_87)), (q_bid, .inl (cI, 40, .inl (fun _ => 0))), (q_cap, .inl (cI, 40, .inl (fun _ => 0))), (q_span, .inl (cI, 40, .inl (fun _ => 0))), (q_throttle, .inl (cI, 40, .inl (fun _ => 0))), (q_promised, .inl (cI, 40, .inl (fun _ => 0)))] := by rw [ef_87]; exact hD
                  refine lv_aload_n hx hb dX6_campaign_165 rfl (lv_at hl 3 rfl) ?_
                  refine va_get (D := (dC, dI)) (ci := 6) (v := .ref q_bid) (C := RX6) (T := TX6) (N := 51) hx hb hts uB6 hown hK hP 0 rfl rfl 14 (by decide) (hts _ wm_134) (fun _ h9 => h9) hf_bid dX6_campaign_166 ?_
                  refine lv_iload hx hb dX6_campaign_169 (lv_at hl 0 rfl) ?_
                  refine lv_iload_n hx hb dX6_campaign_171 rfl (lv_at hl 6 rfl) ?_
                  refine va_iast hx hb hK hP hD hS 5 0 rfl rfl (vp_in_iff.mpr (by decide)) dX6_campaign_172 (fun H locs hP hD hS => ?_)
                  obtain ⟨f_88, ef_88⟩ : ∃ z9, z9 = upd (fun _ => 0) (Int32.toNatClampNeg 0) z := ⟨_, rfl⟩
                  have hP : va_P (dC, dI) vwCl [(h0, .inr (6, fs)), (q_sort, .inl (cI, 40, .inl f_81)), (q_pays, .inl (cI, 40, .inl f_83)), (q_must, .inl (cI, 40, .inl f_85)), (q_never, .inl (cI, 40, .inl f_87)), (q_bid, .inl (cI, 40, .inl f_88)), (q_cap, .inl (cI, 40, .inl (fun _ => 0))), (q_span, .inl (cI, 40, .inl (fun _ => 0))), (q_throttle, .inl (cI, 40, .inl (fun _ => 0))), (q_promised, .inl (cI, 40, .inl (fun _ => 0)))] H := by rw [ef_88]; exact hP
                  have hD : va_D A [(h0, .inr (6, fs)), (q_sort, .inl (cI, 40, .inl f_81)), (q_pays, .inl (cI, 40, .inl f_83)), (q_must, .inl (cI, 40, .inl f_85)), (q_never, .inl (cI, 40, .inl f_87)), (q_bid, .inl (cI, 40, .inl f_88)), (q_cap, .inl (cI, 40, .inl (fun _ => 0))), (q_span, .inl (cI, 40, .inl (fun _ => 0))), (q_throttle, .inl (cI, 40, .inl (fun _ => 0))), (q_promised, .inl (cI, 40, .inl (fun _ => 0)))] := by rw [ef_88]; exact hD
                  refine lv_aload_n hx hb dX6_campaign_173 rfl (lv_at hl 3 rfl) ?_
                  refine va_get (D := (dC, dI)) (ci := 6) (v := .ref q_cap) (C := RX6) (T := TX6) (N := 51) hx hb hts uB6 hown hK hP 0 rfl rfl 17 (by decide) (hts _ wm_135) (fun _ h9 => h9) hf_cap dX6_campaign_174 ?_
                  refine lv_iload hx hb dX6_campaign_177 (lv_at hl 0 rfl) ?_
                  refine lv_bipush (v := 9) hx hb dX6_campaign_179 (by decide) ?_
                  refine va_iast hx hb hK hP hD hS 6 0 rfl rfl (vp_in_iff.mpr (by decide)) dX6_campaign_181 (fun H locs hP hD hS => ?_)
                  obtain ⟨f_89, ef_89⟩ : ∃ z9, z9 = upd (fun _ => 0) (Int32.toNatClampNeg 0) 9 := ⟨_, rfl⟩
                  have hP : va_P (dC, dI) vwCl [(h0, .inr (6, fs)), (q_sort, .inl (cI, 40, .inl f_81)), (q_pays, .inl (cI, 40, .inl f_83)), (q_must, .inl (cI, 40, .inl f_85)), (q_never, .inl (cI, 40, .inl f_87)), (q_bid, .inl (cI, 40, .inl f_88)), (q_cap, .inl (cI, 40, .inl f_89)), (q_span, .inl (cI, 40, .inl (fun _ => 0))), (q_throttle, .inl (cI, 40, .inl (fun _ => 0))), (q_promised, .inl (cI, 40, .inl (fun _ => 0)))] H := by rw [ef_89]; exact hP
                  have hD : va_D A [(h0, .inr (6, fs)), (q_sort, .inl (cI, 40, .inl f_81)), (q_pays, .inl (cI, 40, .inl f_83)), (q_must, .inl (cI, 40, .inl f_85)), (q_never, .inl (cI, 40, .inl f_87)), (q_bid, .inl (cI, 40, .inl f_88)), (q_cap, .inl (cI, 40, .inl f_89)), (q_span, .inl (cI, 40, .inl (fun _ => 0))), (q_throttle, .inl (cI, 40, .inl (fun _ => 0))), (q_promised, .inl (cI, 40, .inl (fun _ => 0)))] := by rw [ef_89]; exact hD
                  refine lv_aload_n hx hb dX6_campaign_182 rfl (lv_at hl 3 rfl) ?_
                  refine va_get (D := (dC, dI)) (ci := 6) (v := .ref q_span) (C := RX6) (T := TX6) (N := 51) hx hb hts uB6 hown hK hP 0 rfl rfl 18 (by decide) (hts _ wm_136) (fun _ h9 => h9) hf_span dX6_campaign_183 ?_
                  refine lv_iload hx hb dX6_campaign_186 (lv_at hl 0 rfl) ?_
                  refine lv_iconst (v := 1) hx hb dX6_campaign_188 (by decide) ?_
                  refine va_iast hx hb hK hP hD hS 7 0 rfl rfl (vp_in_iff.mpr (by decide)) dX6_campaign_189 (fun H locs hP hD hS => ?_)
                  obtain ⟨f_90, ef_90⟩ : ∃ z9, z9 = upd (fun _ => 0) (Int32.toNatClampNeg 0) 1 := ⟨_, rfl⟩
                  have hP : va_P (dC, dI) vwCl [(h0, .inr (6, fs)), (q_sort, .inl (cI, 40, .inl f_81)), (q_pays, .inl (cI, 40, .inl f_83)), (q_must, .inl (cI, 40, .inl f_85)), (q_never, .inl (cI, 40, .inl f_87)), (q_bid, .inl (cI, 40, .inl f_88)), (q_cap, .inl (cI, 40, .inl f_89)), (q_span, .inl (cI, 40, .inl f_90)), (q_throttle, .inl (cI, 40, .inl (fun _ => 0))), (q_promised, .inl (cI, 40, .inl (fun _ => 0)))] H := by rw [ef_90]; exact hP
                  have hD : va_D A [(h0, .inr (6, fs)), (q_sort, .inl (cI, 40, .inl f_81)), (q_pays, .inl (cI, 40, .inl f_83)), (q_must, .inl (cI, 40, .inl f_85)), (q_never, .inl (cI, 40, .inl f_87)), (q_bid, .inl (cI, 40, .inl f_88)), (q_cap, .inl (cI, 40, .inl f_89)), (q_span, .inl (cI, 40, .inl f_90)), (q_throttle, .inl (cI, 40, .inl (fun _ => 0))), (q_promised, .inl (cI, 40, .inl (fun _ => 0)))] := by rw [ef_90]; exact hD
                  refine lv_aload_n hx hb dX6_campaign_190 rfl (lv_at hl 3 rfl) ?_
                  refine va_get (D := (dC, dI)) (ci := 6) (v := .ref q_throttle) (C := RX6) (T := TX6) (N := 51) hx hb hts uB6 hown hK hP 0 rfl rfl 19 (by decide) (hts _ wm_137) (fun _ h9 => h9) hf_throttle dX6_campaign_191 ?_
                  refine lv_iload hx hb dX6_campaign_194 (lv_at hl 0 rfl) ?_
                  refine lv_sipush (v := 1000) hx hb dX6_campaign_196 (by decide) ?_
                  refine va_iast hx hb hK hP hD hS 8 0 rfl rfl (vp_in_iff.mpr (by decide)) dX6_campaign_199 (fun H locs hP hD hS => ?_)
                  obtain ⟨f_91, ef_91⟩ : ∃ z9, z9 = upd (fun _ => 0) (Int32.toNatClampNeg 0) 1000 := ⟨_, rfl⟩
                  have hP : va_P (dC, dI) vwCl [(h0, .inr (6, fs)), (q_sort, .inl (cI, 40, .inl f_81)), (q_pays, .inl (cI, 40, .inl f_83)), (q_must, .inl (cI, 40, .inl f_85)), (q_never, .inl (cI, 40, .inl f_87)), (q_bid, .inl (cI, 40, .inl f_88)), (q_cap, .inl (cI, 40, .inl f_89)), (q_span, .inl (cI, 40, .inl f_90)), (q_throttle, .inl (cI, 40, .inl f_91)), (q_promised, .inl (cI, 40, .inl (fun _ => 0)))] H := by rw [ef_91]; exact hP
                  have hD : va_D A [(h0, .inr (6, fs)), (q_sort, .inl (cI, 40, .inl f_81)), (q_pays, .inl (cI, 40, .inl f_83)), (q_must, .inl (cI, 40, .inl f_85)), (q_never, .inl (cI, 40, .inl f_87)), (q_bid, .inl (cI, 40, .inl f_88)), (q_cap, .inl (cI, 40, .inl f_89)), (q_span, .inl (cI, 40, .inl f_90)), (q_throttle, .inl (cI, 40, .inl f_91)), (q_promised, .inl (cI, 40, .inl (fun _ => 0)))] := by rw [ef_91]; exact hD
                  refine lv_aload_n hx hb dX6_campaign_200 rfl (lv_at hl 3 rfl) ?_
                  refine va_get (D := (dC, dI)) (ci := 6) (v := .ref q_promised) (C := RX6) (T := TX6) (N := 51) hx hb hts uB6 hown hK hP 0 rfl rfl 22 (by decide) (hts _ wm_138) (fun _ h9 => h9) hf_promised dX6_campaign_201 ?_
                  refine lv_iload hx hb dX6_campaign_204 (lv_at hl 0 rfl) ?_
                  refine lv_iconst (v := 0) hx hb dX6_campaign_206 (by decide) ?_
                  refine va_iast hx hb hK hP hD hS 9 0 rfl rfl (vp_in_iff.mpr (by decide)) dX6_campaign_207 (fun H locs hP hD hS => ?_)
                  obtain ⟨f_92, ef_92⟩ : ∃ z9, z9 = upd (fun _ => 0) (Int32.toNatClampNeg 0) 0 := ⟨_, rfl⟩
                  have hP : va_P (dC, dI) vwCl [(h0, .inr (6, fs)), (q_sort, .inl (cI, 40, .inl f_81)), (q_pays, .inl (cI, 40, .inl f_83)), (q_must, .inl (cI, 40, .inl f_85)), (q_never, .inl (cI, 40, .inl f_87)), (q_bid, .inl (cI, 40, .inl f_88)), (q_cap, .inl (cI, 40, .inl f_89)), (q_span, .inl (cI, 40, .inl f_90)), (q_throttle, .inl (cI, 40, .inl f_91)), (q_promised, .inl (cI, 40, .inl f_92))] H := by rw [ef_92]; exact hP
                  have hD : va_D A [(h0, .inr (6, fs)), (q_sort, .inl (cI, 40, .inl f_81)), (q_pays, .inl (cI, 40, .inl f_83)), (q_must, .inl (cI, 40, .inl f_85)), (q_never, .inl (cI, 40, .inl f_87)), (q_bid, .inl (cI, 40, .inl f_88)), (q_cap, .inl (cI, 40, .inl f_89)), (q_span, .inl (cI, 40, .inl f_90)), (q_throttle, .inl (cI, 40, .inl f_91)), (q_promised, .inl (cI, 40, .inl f_92))] := by rw [ef_92]; exact hD
                  refine lv_aload_n hx hb dX6_campaign_208 rfl (lv_at hl 3 rfl) ?_
                  refine lv_dup hx hb dX6_campaign_209 rfl ?_
                  refine va_get (D := (dC, dI)) (ci := 6) (v := .int 0) (C := RX6) (T := TX6) (N := 51) hx hb hts uB6 hown hK hP 0 rfl rfl 9 (by decide) (hts _ wm_12) (fun _ h9 => h9) hfc dX6_campaign_210 ?_
                  refine lv_iconst (v := 1) hx hb dX6_campaign_213 (by decide) ?_
                  refine lv_iadd hx hb dX6_campaign_214 ?_
                  refine lv_topi (fun x_93 ex_93 => ?_)
                  obtain rfl : x_93 = 1 := ex_93.trans (by decide)
                  refine va_put (D := (dC, dI)) (ci := 6) (v := .int 1) (ty := .int) (C := RX6) (T := TX6) (N := 51) hx hb hts uB6 tyX6 tyX6_ok nmX6 hown hK hP hD hS 0 rfl rfl 9 (by decide) (hts _ wm_12) (fun _ h9 => h9) rfl (by decide +kernel) rfl rfl (by rw [hlen_h0]; decide) dX6_campaign_215 (fun H locs hP hD hS => ?_)
                  obtain ⟨fs_94, efs_94⟩ : ∃ z9, z9 = (fs).set 9 (.int 1) := ⟨_, rfl⟩
                  have hP : va_P (dC, dI) vwCl [(h0, .inr (6, fs_94)), (q_sort, .inl (cI, 40, .inl f_81)), (q_pays, .inl (cI, 40, .inl f_83)), (q_must, .inl (cI, 40, .inl f_85)), (q_never, .inl (cI, 40, .inl f_87)), (q_bid, .inl (cI, 40, .inl f_88)), (q_cap, .inl (cI, 40, .inl f_89)), (q_span, .inl (cI, 40, .inl f_90)), (q_throttle, .inl (cI, 40, .inl f_91)), (q_promised, .inl (cI, 40, .inl f_92))] H := by rw [efs_94]; exact hP
                  have hD : va_D A [(h0, .inr (6, fs_94)), (q_sort, .inl (cI, 40, .inl f_81)), (q_pays, .inl (cI, 40, .inl f_83)), (q_must, .inl (cI, 40, .inl f_85)), (q_never, .inl (cI, 40, .inl f_87)), (q_bid, .inl (cI, 40, .inl f_88)), (q_cap, .inl (cI, 40, .inl f_89)), (q_span, .inl (cI, 40, .inl f_90)), (q_throttle, .inl (cI, 40, .inl f_91)), (q_promised, .inl (cI, 40, .inl f_92))] := by rw [efs_94]; exact hD
                  have hf_sort : fs_94[10]? = some (.ref q_sort) := by rw [efs_94, List.getElem?_set_ne (by decide)]; exact hf_sort
                  have hf_pays : fs_94[11]? = some (.ref q_pays) := by rw [efs_94, List.getElem?_set_ne (by decide)]; exact hf_pays
                  have hf_must : fs_94[12]? = some (.ref q_must) := by rw [efs_94, List.getElem?_set_ne (by decide)]; exact hf_must
                  have hf_never : fs_94[13]? = some (.ref q_never) := by rw [efs_94, List.getElem?_set_ne (by decide)]; exact hf_never
                  have hf_bid : fs_94[14]? = some (.ref q_bid) := by rw [efs_94, List.getElem?_set_ne (by decide)]; exact hf_bid
                  have hf_cap : fs_94[17]? = some (.ref q_cap) := by rw [efs_94, List.getElem?_set_ne (by decide)]; exact hf_cap
                  have hf_span : fs_94[18]? = some (.ref q_span) := by rw [efs_94, List.getElem?_set_ne (by decide)]; exact hf_span
                  have hf_throttle : fs_94[19]? = some (.ref q_throttle) := by rw [efs_94, List.getElem?_set_ne (by decide)]; exact hf_throttle
                  have hf_promised : fs_94[22]? = some (.ref q_promised) := by rw [efs_94, List.getElem?_set_ne (by decide)]; exact hf_promised
                  have hfc : fs_94[9]? = some (.int 1) := by rw [efs_94]; exact List.getElem?_set_self (by rw [hlen_h0]; decide)
                  have hlen_h0 : fs_94.length = 51 := by rw [efs_94, List.length_set]; exact hlen_h0
                  refine lv_iload hx hb dX6_campaign_218 (lv_at hl 0 rfl) ?_
                  exact W.iret (v := 0) hx hb hr (fun t ht hW => ⟨⟨0, (), rfl, (by subst ex_1 ex_5 ex_77 ex_78 ex_79 ex_82 ex_84 ex_86; have h1 := k_cp1 x; have h2 := k_cp2 y; simp only [Int32.lt_iff_toInt_lt, Int32.le_iff_toInt_le, ← Int32.toInt_inj, Int32.reduceToInt] at h1 h2 c_2 g_4 c_6 g_52 g_54 c_55 c_76 c_80; exact (if_pos (by unfold cpOk; simp only [Int32.lt_iff_toInt_lt, Int32.le_iff_toInt_le, ← Int32.toInt_inj, Int32.reduceToInt]; omega)).symm), trivial⟩, hS.F ht⟩) hS.2.2 dX6_campaign_220
                · skip
                  refine lv_iconst (v := (-1)) hx hb dX6_campaign_101 (by decide) ?_
                  exact W.iret (v := (-1)) hx hb hr (fun t ht hW => ⟨⟨(-1), (), rfl, (by subst ex_1 ex_5 ex_77 ex_78 ex_79; have h1 := k_cp1 x; have h2 := k_cp2 y; simp only [Int32.lt_iff_toInt_lt, Int32.le_iff_toInt_le, ← Int32.toInt_inj, Int32.reduceToInt] at h1 h2 c_2 g_4 c_6 g_52 g_54 c_55 c_76 c_80; exact (if_neg (by unfold cpOk; simp only [Int32.lt_iff_toInt_lt, Int32.le_iff_toInt_le, ← Int32.toInt_inj, Int32.reduceToInt]; omega)).symm), trivial⟩, hS.F ht⟩) hS.2.2 dX6_campaign_102
end
section
set_option maxHeartbeats 4000000 in
set_option maxRecDepth 100000 in
theorem f_mpage (l : Launch) (dC : Nat → ClassId) (dI : Nat → Nat → Nat) (sz : Nat) (h0 : Nat) (fs : List Value) (qs ql : Nat) (cI : ClassId) (x : Int32) (hf_n : fs[5]? = some (.int 0)) (hf_s : fs[7]? = some (.ref qs)) (hf_p : fs[6]? = some (.ref ql)) (hlen_h0 : fs.length = 51)  : mFi l yX6_page cX6_page 6 1 0 0 (dC, dI) [(h0, .inr (6, fs)), (qs, .inl (cI, 32, .inl (fun _ => 0))), (ql, .inl (cI, 8, .inl (fun _ => 0)))] sz [(cI, .int)] (fun _ => True) [.ref h0, .int x] (fun r => r = if pgOk x then 0 else (-1)) := by
  refine Met.ofW (cc := cX6_page) (maxL := 6) (ret := some .int) (by decide) rfl ?_
  intro p e s m args below meth c s₁ B hml hv
  obtain ⟨rfl, hsz, hP, hK, hD0, hex⟩ := hv
  subst hsz
  have hx := B.exec
  have hb := B.bytes
  have hr := B.returns
  have hlocks := B.notSynchronized
  have hts0 := atoms_spec (ws := Cond.code yX6_page cX6_page 6 (some .int) :: lw_B) B.pre
  have hts : ∀ w ∈ lw_B, w.before _ s = true := fun w h => hts0 w (List.mem_cons_of_mem _ h)
  have hown : s.vm.findClass RX6 = some m.cls := findClass_of_methodNamed B.named
  have hD := hD0.self (sz := s.heap.size)
  generalize hAe : va_A [(h0, .inr (6, fs)), (qs, .inl (cI, 32, .inl (fun _ => 0))), (ql, .inl (cI, 8, .inl (fun _ => 0)))] s.heap.size = A at hD ⊢
  have hA : ∀ q : Nat, s.heap.size ≤ q → A q := fun q h => by rw [← hAe]; exact Or.inr h
  have hS : va_S A s.heap s.heap [] := va_S.rf
  have hl := lv_entry ([.ref h0, .int x]) (n := 6) (Nat.le_of_ble_eq_true rfl)
  rw [lg_entry_eq]
  generalize (lg_sl ([.ref h0, .int x]) ++ List.replicate (6 - (lg_sl ([.ref h0, .int x])).length) Slot.unset).toArray = ls at hl ⊢
  have hl : lv_has ls 6 [(0, .ref h0), (1, .int x)] := hl
  refine lv_iconst (v := 0) hx hb dX6_page_0 (by decide) ?_
  refine lv_istore_n (lv' := [(2, .int 0), (0, .ref h0), (1, .int x)]) hx hb dX6_page_1 rfl hl (by decide) rfl (fun ls hl => ?_)
  refine lv_iload_n hx hb dX6_page_2 rfl (lv_at hl 2 rfl) ?_
  refine lv_if_le (tgt := 10) hx hb dX6_page_3 (by decide) (fun c_1 => ?_) (fun c_1 => ?_)
  · skip
    refine lv_iconst (v := 0) hx hb dX6_page_10 (by decide) ?_
    refine lv_istore_n (lv' := [(3, .int 0), (2, .int 0), (0, .ref h0), (1, .int x)]) hx hb dX6_page_11 rfl hl (by decide) rfl (fun ls hl => ?_)
    refine lv_iload_n hx hb dX6_page_12 rfl (lv_at hl 3 rfl) ?_
    refine lv_istore (lv' := [(4, .int x), (3, .int 0), (2, .int 0), (0, .ref h0), (1, .int x)]) hx hb dX6_page_13 hl (by decide) rfl (fun ls hl => ?_)
    refine lv_iload hx hb dX6_page_15 (lv_at hl 0 rfl) ?_
    refine lv_if_le (tgt := 59) hx hb dX6_page_17 (by decide) (fun c_2 => ?_) (fun c_2 => ?_)
    · skip
      refine lv_iload_n hx hb dX6_page_59 rfl (lv_at hl 1 rfl) ?_
      refine lv_if_eq (tgt := 68) hx hb dX6_page_60 (by decide) (fun _ => ?_) (fun h9 => absurd (by decide) h9)
      refine lv_iconst (v := (-1)) hx hb dX6_page_68 (by decide) ?_
      exact W.iret (v := (-1)) hx hb hr (fun t ht hW => ⟨⟨(-1), (), rfl, (if_neg (fun q => absurd c_1 (by have q1 := q.1; simp only [Int32.lt_iff_toInt_lt, Int32.le_iff_toInt_le] at q1 ⊢; omega))).symm, trivial⟩, hS.F ht⟩) hS.2.2 dX6_page_69
    · skip
      exact absurd c_1 c_2
  · skip
    obtain ⟨X, hX, hX0, rfl⟩ := k_pos c_1
    refine lv_iconst (v := 1) hx hb dX6_page_6 (by decide) ?_
    refine lv_goto (tgt := 11) hx hb dX6_page_7 (by decide) ?_
    refine lv_istore_n (lv' := [(3, .int 1), (2, .int 0), (0, .ref h0), (1, .int (nI X))]) hx hb dX6_page_11 rfl hl (by decide) rfl (fun ls hl => ?_)
    refine lv_iload_n hx hb dX6_page_12 rfl (lv_at hl 3 rfl) ?_
    refine lv_istore (lv' := [(4, .int (nI X)), (3, .int 1), (2, .int 0), (0, .ref h0), (1, .int (nI X))]) hx hb dX6_page_13 hl (by decide) rfl (fun ls hl => ?_)
    refine k_lx (pcx := 59) (fun n H locs ls => ∃ (d k : Nat) (g : Int32), n ≤ 5 ∧ d < 128 ^ n ∧ d < 2 ^ 31 ∧ k + dgN n d = dgN 5 X ∧ k + n ≤ 5 ∧ ((g = 1 ∧ dgA n d = true) ↔ dgA 5 X = true) ∧ (g = 0 ∨ g = 1) ∧ va_P (dC, dI) vwCl [(h0, .inr (6, fs)), (qs, .inl (cI, 32, .inl (fun _ => 0))), (ql, .inl (cI, 8, .inl (fun _ => 0)))] H ∧ va_D A [(h0, .inr (6, fs)), (qs, .inl (cI, 32, .inl (fun _ => 0))), (ql, .inl (cI, 8, .inl (fun _ => 0)))] ∧ va_S A s.heap H locs ∧ lv_has ls 6 [(0, .ref h0), (1, .int (nI X)), (2, .int (nI k)), (3, .int g), (4, .int (nI d))]) (fun H locs ls => ∃ (d k : Nat) (g : Int32), k = dgN 5 X ∧ k ≤ 5 ∧ (g = 1 ↔ dgA 5 X = true) ∧ (g = 0 ∨ g = 1) ∧ va_P (dC, dI) vwCl [(h0, .inr (6, fs)), (qs, .inl (cI, 32, .inl (fun _ => 0))), (ql, .inl (cI, 8, .inl (fun _ => 0)))] H ∧ va_D A [(h0, .inr (6, fs)), (qs, .inl (cI, 32, .inl (fun _ => 0))), (ql, .inl (cI, 8, .inl (fun _ => 0)))] ∧ va_S A s.heap H locs ∧ lv_has ls 6 [(0, .ref h0), (1, .int (nI X)), (2, .int (nI k)), (3, .int g), (4, .int (nI d))]) (fun H locs ls hI => ?_) (fun n H locs ls hI hE ih => ?_) 5 _ _ _ ⟨X, 0, 1, by omega, by omega, hX, by omega, by omega, by simp, Or.inr rfl, hP, hD, hS, lv_sub hl [3, 4, 2, 1, 0] rfl⟩
    · skip
      obtain ⟨d, k, g, hk, hk5, hg, hg01, hP, hD, hS, hl⟩ := hI
      refine lv_iload_n hx hb dX6_page_59 rfl (lv_at hl 3 rfl) ?_
      refine lv_if_eq (tgt := 68) hx hb dX6_page_60 (by decide) (fun c_3 => ?_) (fun c_3 => ?_)
      · skip
        have hno : ¬ pgOk (nI X) := fun q => by rw [hg.mpr ((k_pg hX hX0).mp q).1] at c_3; exact absurd c_3 (by decide)
        refine lv_iconst (v := (-1)) hx hb dX6_page_68 (by decide) ?_
        exact W.iret (v := (-1)) hx hb hr (fun t ht hW => ⟨⟨(-1), (), rfl, (if_neg hno).symm, trivial⟩, hS.F ht⟩) hS.2.2 dX6_page_69
      · skip
        have hgg : dgA 5 X = true := hg.mp (hg01.elim (fun q => absurd q c_3) id)
        refine lv_iload_n hx hb dX6_page_63 rfl (lv_at hl 2 rfl) ?_
        refine lv_iconst (v := 4) hx hb dX6_page_64 (by decide) ?_
        refine lv_icmp_le (tgt := 70) hx hb dX6_page_65 (by decide) (fun c_4 => ?_) (fun c_4 => ?_)
        · skip
          have hk4 : k ≤ 4 := (nI_leI (by omega) (by decide)).mp c_4
          have hok : pgOk (nI X) := (k_pg hX hX0).mpr ⟨hgg, by omega⟩
          refine lv_aload_n hx hb dX6_page_70 rfl (lv_at hl 0 rfl) ?_
          refine va_get (D := (dC, dI)) (ci := 6) (v := .int 0) (C := RX6) (T := TX6) (N := 51) hx hb hts uB6 hown hK hP 0 rfl rfl 5 (by decide) (hts _ wm_11) (fun _ h9 => h9) hf_n dX6_page_71 ?_
          refine lv_bipush (v := 8) hx hb dX6_page_74 (by decide) ?_
          refine lv_icmp_ne (tgt := 82) hx hb dX6_page_76 (by decide) (fun _ => ?_) (fun h9 => absurd h9 (by decide))
          refine lv_iload_n hx hb dX6_page_82 rfl (lv_at hl 1 rfl) ?_
          refine lv_istore (lv' := [(4, .int (nI X)), (0, .ref h0), (1, .int (nI X)), (2, .int (nI k)), (3, .int g)]) hx hb dX6_page_83 hl (by decide) rfl (fun ls hl => ?_)
          refine lv_iload_n hx hb dX6_page_85 rfl (lv_at hl 3 rfl) ?_
          refine lv_iconst (v := 1) hx hb dX6_page_86 (by decide) ?_
          refine lv_isub hx hb dX6_page_87 ?_
          refine lv_topi (fun x_5 ex_5 => ?_)
          refine lv_istore (lv' := [(5, .int x_5), (4, .int (nI X)), (0, .ref h0), (1, .int (nI X)), (2, .int (nI k)), (3, .int g)]) hx hb dX6_page_88 hl (by decide) rfl (fun ls hl => ?_)
          subst ex_5
          refine k_loop (fun n H locs ls => ∃ (r : Int32) (f : Nat → Int32), n ≤ 4 ∧ va_P (dC, dI) vwCl [(h0, .inr (6, fs)), (qs, .inl (cI, 32, .inl f)), (ql, .inl (cI, 8, .inl (fun _ => 0)))] H ∧ va_D A [(h0, .inr (6, fs)), (qs, .inl (cI, 32, .inl f)), (ql, .inl (cI, 8, .inl (fun _ => 0)))] ∧ va_S A s.heap H locs ∧ lv_has ls 6 [(0, .ref h0), (2, .int (nI k)), (4, .int r), (5, .int (nI n - 1))]) (fun H locs ls hI => ?_) (fun n H locs ls hI ih => ?_) k _ _ _ ⟨_, _, hk4, hP, hD, hS, lv_sub hl [2, 4, 1, 0] rfl⟩
          · skip
            obtain ⟨r, f, hn4, hP, hD, hS, hl⟩ := hI
            rw [show nI 0 - 1 = (-1 : Int32) from by decide] at hl
            refine lv_iload hx hb dX6_page_90 (lv_at hl 3 rfl) ?_
            refine lv_if_lt (tgt := 129) hx hb dX6_page_92 (by decide) (fun _ => ?_) (fun h9 => absurd (by decide) h9)
            refine lv_aload_n hx hb dX6_page_129 rfl (lv_at hl 0 rfl) ?_
            refine va_get (D := (dC, dI)) (ci := 6) (v := .ref ql) (C := RX6) (T := TX6) (N := 51) hx hb hts uB6 hown hK hP 0 rfl rfl 6 (by decide) (hts _ wm_139) (fun _ h9 => h9) hf_p dX6_page_130 ?_
            refine lv_aload_n hx hb dX6_page_133 rfl (lv_at hl 0 rfl) ?_
            refine va_get (D := (dC, dI)) (ci := 6) (v := .int 0) (C := RX6) (T := TX6) (N := 51) hx hb hts uB6 hown hK hP 0 rfl rfl 5 (by decide) (hts _ wm_11) (fun _ h9 => h9) hf_n dX6_page_134 ?_
            refine lv_iload_n hx hb dX6_page_137 rfl (lv_at hl 1 rfl) ?_
            refine va_iast hx hb hK hP hD hS 2 0 rfl rfl (vp_in_iff.mpr (by decide)) dX6_page_138 (fun H locs hP hD hS => ?_)
            obtain ⟨f_6, ef_6⟩ : ∃ z9, z9 = upd (fun _ => 0) (Int32.toNatClampNeg 0) (nI k) := ⟨_, rfl⟩
            have hP : va_P (dC, dI) vwCl [(h0, .inr (6, fs)), (qs, .inl (cI, 32, .inl f)), (ql, .inl (cI, 8, .inl f_6))] H := by rw [ef_6]; exact hP
            have hD : va_D A [(h0, .inr (6, fs)), (qs, .inl (cI, 32, .inl f)), (ql, .inl (cI, 8, .inl f_6))] := by rw [ef_6]; exact hD
            refine lv_aload_n hx hb dX6_page_139 rfl (lv_at hl 0 rfl) ?_
            refine lv_dup hx hb dX6_page_140 rfl ?_
            refine va_get (D := (dC, dI)) (ci := 6) (v := .int 0) (C := RX6) (T := TX6) (N := 51) hx hb hts uB6 hown hK hP 0 rfl rfl 5 (by decide) (hts _ wm_11) (fun _ h9 => h9) hf_n dX6_page_141 ?_
            refine lv_iconst (v := 1) hx hb dX6_page_144 (by decide) ?_
            refine lv_iadd hx hb dX6_page_145 ?_
            refine lv_topi (fun x_7 ex_7 => ?_)
            obtain rfl : x_7 = 1 := ex_7.trans (by decide)
            refine va_put (D := (dC, dI)) (ci := 6) (v := .int 1) (ty := .int) (C := RX6) (T := TX6) (N := 51) hx hb hts uB6 tyX6 tyX6_ok nmX6 hown hK hP hD hS 0 rfl rfl 5 (by decide) (hts _ wm_11) (fun _ h9 => h9) rfl (by decide +kernel) rfl rfl (by rw [hlen_h0]; decide) dX6_page_146 (fun H locs hP hD hS => ?_)
            obtain ⟨fs_8, efs_8⟩ : ∃ z9, z9 = (fs).set 5 (.int 1) := ⟨_, rfl⟩
            have hP : va_P (dC, dI) vwCl [(h0, .inr (6, fs_8)), (qs, .inl (cI, 32, .inl f)), (ql, .inl (cI, 8, .inl f_6))] H := by rw [efs_8]; exact hP
            have hD : va_D A [(h0, .inr (6, fs_8)), (qs, .inl (cI, 32, .inl f)), (ql, .inl (cI, 8, .inl f_6))] := by rw [efs_8]; exact hD
            have hf_s : fs_8[7]? = some (.ref qs) := by rw [efs_8, List.getElem?_set_ne (by decide)]; exact hf_s
            have hf_p : fs_8[6]? = some (.ref ql) := by rw [efs_8, List.getElem?_set_ne (by decide)]; exact hf_p
            have hf_n : fs_8[5]? = some (.int 1) := by rw [efs_8]; exact List.getElem?_set_self (by rw [hlen_h0]; decide)
            have hlen_h0 : fs_8.length = 51 := by rw [efs_8, List.length_set]; exact hlen_h0
            refine lv_aload_n hx hb dX6_page_149 rfl (lv_at hl 0 rfl) ?_
            refine va_get (D := (dC, dI)) (ci := 6) (v := .int 1) (C := RX6) (T := TX6) (N := 51) hx hb hts uB6 hown hK hP 0 rfl rfl 5 (by decide) (hts _ wm_11) (fun _ h9 => h9) hf_n dX6_page_150 ?_
            refine lv_iconst (v := 1) hx hb dX6_page_153 (by decide) ?_
            refine lv_isub hx hb dX6_page_154 ?_
            refine lv_topi (fun x_9 ex_9 => ?_)
            obtain rfl : x_9 = 0 := ex_9.trans (by decide)
            exact W.iret (v := 0) hx hb hr (fun t ht hW => ⟨⟨0, (), rfl, (if_pos hok).symm, trivial⟩, hS.F ht⟩) hS.2.2 dX6_page_155
          · skip
            obtain ⟨r, f, hn4, hP, hD, hS, hl⟩ := hI
            rw [nI_pred] at hl
            refine lv_iload hx hb dX6_page_90 (lv_at hl 3 rfl) ?_
            refine lv_if_lt (tgt := 129) hx hb dX6_page_92 (by decide) (fun c_10 => ?_) (fun c_10 => ?_)
            · skip
              exact absurd c_10 (nI_pos (by omega))
            · skip
              refine lv_aload_n hx hb dX6_page_95 rfl (lv_at hl 0 rfl) ?_
              refine va_get (D := (dC, dI)) (ci := 6) (v := .ref qs) (C := RX6) (T := TX6) (N := 51) hx hb hts uB6 hown hK hP 0 rfl rfl 7 (by decide) (hts _ wm_140) (fun _ h9 => h9) hf_s dX6_page_96 ?_
              refine lv_iconst (v := 4) hx hb dX6_page_99 (by decide) ?_
              refine lv_aload_n hx hb dX6_page_100 rfl (lv_at hl 0 rfl) ?_
              refine va_get (D := (dC, dI)) (ci := 6) (v := .int 0) (C := RX6) (T := TX6) (N := 51) hx hb hts uB6 hown hK hP 0 rfl rfl 5 (by decide) (hts _ wm_11) (fun _ h9 => h9) hf_n dX6_page_101 ?_
              refine lv_imul hx hb dX6_page_104 ?_
              refine lv_topi (fun x_11 ex_11 => ?_)
              obtain rfl : x_11 = 0 := ex_11.trans (by decide)
              refine lv_iload hx hb dX6_page_105 (lv_at hl 3 rfl) ?_
              refine lv_iadd hx hb dX6_page_107 ?_
              refine lv_topi (fun x_12 ex_12 => ?_)
              obtain rfl : x_12 = nI n := ex_12.trans (by rw [show (0 : Int32) = nI 0 from rfl, nI_add, Nat.zero_add])
              refine lv_iload hx hb dX6_page_108 (lv_at hl 2 rfl) ?_
              refine lv_sipush (v := 128) hx hb dX6_page_110 (by decide) ?_
              refine lv_irem hx hb dX6_page_113 (by decide) ?_
              refine lv_topi (fun x_13 ex_13 => ?_)
              refine va_iast hx hb hK hP hD hS 1 0 rfl rfl (vp_in_nI (by omega) (by decide)) dX6_page_114 (fun H locs hP hD hS => ?_)
              obtain ⟨f_14, ef_14⟩ : ∃ z9, z9 = upd f (Int32.toNatClampNeg (nI n)) x_13 := ⟨_, rfl⟩
              have hP : va_P (dC, dI) vwCl [(h0, .inr (6, fs)), (qs, .inl (cI, 32, .inl f_14)), (ql, .inl (cI, 8, .inl (fun _ => 0)))] H := by rw [ef_14]; exact hP
              have hD : va_D A [(h0, .inr (6, fs)), (qs, .inl (cI, 32, .inl f_14)), (ql, .inl (cI, 8, .inl (fun _ => 0)))] := by rw [ef_14]; exact hD
              refine lv_iload hx hb dX6_page_115 (lv_at hl 2 rfl) ?_
              refine lv_sipush (v := 128) hx hb dX6_page_117 (by decide) ?_
              refine lv_idiv hx hb dX6_page_120 (by decide) ?_
              refine lv_topi (fun x_15 ex_15 => ?_)
              refine lv_istore (lv' := [(4, .int x_15), (0, .ref h0), (2, .int (nI k)), (5, .int (nI n))]) hx hb dX6_page_121 hl (by decide) rfl (fun ls hl => ?_)
              obtain ⟨x_16, ex_16⟩ : ∃ y : Int32, y = (nI n) + (-1) := ⟨_, rfl⟩
              refine lv_iinc (v := x_16) (lv' := [(5, .int x_16), (4, .int x_15), (0, .ref h0), (2, .int (nI k))]) hx hb dX6_page_123 hl (k := 3) rfl (by rw [ex_16]; rfl) (by decide) rfl (fun ls hl => ?_)
              refine lv_goto (tgt := 90) hx hb dX6_page_126 (by decide) ?_
              obtain rfl : x_16 = nI n - 1 := ex_16.trans (by rw [Int32.sub_eq_add_neg])
              exact ih _ _ _ ⟨_, _, by omega, hP, hD, hS, lv_sub hl [2, 3, 1, 0] rfl⟩
        · skip
          have hno : ¬ pgOk (nI X) := fun q => c_4 (show nI k ≤ nI 4 from nI_le (by have := ((k_pg hX hX0).mp q).2; omega) (by decide))
          refine lv_iconst (v := (-1)) hx hb dX6_page_68 (by decide) ?_
          exact W.iret (v := (-1)) hx hb hr (fun t ht hW => ⟨⟨(-1), (), rfl, (if_neg hno).symm, trivial⟩, hS.F ht⟩) hS.2.2 dX6_page_69
    · skip
      obtain ⟨d, k, g, hn5, hd, hd31, hk, hkn, hg, hg01, hP, hD, hS, hl⟩ := hI
      refine lv_iload hx hb dX6_page_15 (lv_at hl 4 rfl) ?_
      refine lv_if_le (tgt := 59) hx hb dX6_page_17 (by decide) (fun c_17 => ?_) (fun c_17 => ?_)
      · skip
        have hdz : d = 0 := by rcases Nat.eq_zero_or_pos d with q | q; exact q; exact absurd c_17 (nI_nle q hd31)
        exact hE _ _ _ ⟨d, k, g, by rw [← hk, hdz, dgN_0]; rfl, by omega, by rw [hdz, dgA_0] at hg; exact ⟨fun q => hg.mp ⟨q, rfl⟩, fun q => (hg.mpr q).1⟩, hg01, hP, hD, hS, lv_sub hl [0, 1, 2, 3, 4] rfl⟩
      · skip
        have hd0 : ¬ d = 0 := fun q => c_17 (by rw [q]; decide)
        obtain ⟨n, rfl⟩ : ∃ n9, n = n9 + 1 := by rcases Nat.eq_zero_or_pos n with q | q; rw [q] at hd; omega; exact ⟨n - 1, by omega⟩
        refine lv_iload_n hx hb dX6_page_20 rfl (lv_at hl 3 rfl) ?_
        refine lv_if_eq (tgt := 43) hx hb dX6_page_21 (by decide) (fun c_18 => ?_) (fun c_18 => ?_)
        · skip
          have hno : ¬ (g = 1 ∧ dgA (n + 1) d = true) := fun q => by rw [c_18] at q; exact absurd q.1 (by decide)
          refine lv_iconst (v := 0) hx hb dX6_page_43 (by decide) ?_
          refine lv_istore_n (lv' := [(3, .int 0), (0, .ref h0), (1, .int (nI X)), (2, .int (nI k)), (4, .int (nI d))]) hx hb dX6_page_44 rfl hl (by decide) rfl (fun ls hl => ?_)
          obtain ⟨x_19, ex_19⟩ : ∃ y : Int32, y = (nI k) + 1 := ⟨_, rfl⟩
          refine lv_iinc (v := x_19) (lv' := [(2, .int x_19), (3, .int 0), (0, .ref h0), (1, .int (nI X)), (4, .int (nI d))]) hx hb dX6_page_45 hl (k := 3) rfl (by rw [ex_19]; rfl) (by decide) rfl (fun ls hl => ?_)
          refine lv_iload hx hb dX6_page_48 (lv_at hl 4 rfl) ?_
          refine lv_sipush (v := 128) hx hb dX6_page_50 (by decide) ?_
          refine lv_idiv hx hb dX6_page_53 (by decide) ?_
          refine lv_topi (fun x_20 ex_20 => ?_)
          obtain rfl : x_20 = nI (d / 128) := ex_20.trans (k_128d hd31)
          refine lv_istore (lv' := [(4, .int (nI (d / 128))), (2, .int x_19), (3, .int 0), (0, .ref h0), (1, .int (nI X))]) hx hb dX6_page_54 hl (by decide) rfl (fun ls hl => ?_)
          refine lv_goto (tgt := 15) hx hb dX6_page_56 (by decide) ?_
          obtain rfl : x_19 = nI (k + 1) := ex_19.trans (nI_1 k)
          exact ih n (by omega) _ _ _ ⟨d / 128, k + 1, 0, by omega, by rw [Nat.pow_succ] at hd; omega, by omega, by rw [dgN, if_neg hd0] at hk; omega, by omega, ⟨fun q => absurd q.1 (by decide), fun q => (hno (hg.mpr q)).elim⟩, Or.inl rfl, hP, hD, hS, lv_sub hl [3, 4, 1, 2, 0] rfl⟩
        · skip
          have hg1 : g = 1 := hg01.elim (fun q => absurd q c_18) id
          refine lv_iload hx hb dX6_page_24 (lv_at hl 4 rfl) ?_
          refine lv_sipush (v := 128) hx hb dX6_page_26 (by decide) ?_
          refine lv_irem hx hb dX6_page_29 (by decide) ?_
          refine lv_topi (fun x_21 ex_21 => ?_)
          obtain rfl : x_21 = nI (d % 128) := ex_21.trans (k_128r hd31)
          refine lv_iconst (v := 1) hx hb dX6_page_30 (by decide) ?_
          refine lv_bipush (v := 100) hx hb dX6_page_31 (by decide) ?_
          refine k_S ⟨hx, hb, hml, hown, hts⟩ (c_in l (nI (d % 128)) 1 100) 3 wm_4 wm_5 wm_6 wm_7 (by decide +kernel) ⟨Nat.le_of_ble_eq_true rfl, Nat.le_of_ble_eq_true rfl⟩ rfl hl.1 rfl (Nat.le_of_ble_eq_true rfl) dX6_page_33 ⟨Nat.le_of_ble_eq_true rfl, Nat.le_of_ble_eq_true rfl⟩ hS hP (fun r_22 H locs hpr_22 hP hS => ?_)
          refine lv_if_eq (tgt := 43) hx hb dX6_page_36 (by decide) (fun c_23 => ?_) (fun c_23 => ?_)
          · skip
            have g_23 := k_ff hpr_22 c_23
            have hno : ¬ (g = 1 ∧ dgA (n + 1) d = true) := fun q => by have q2 := q.2; rw [dgA, if_neg hd0, decide_eq_false (fun z => g_23 ((k_rg (by omega) (by decide) (by decide)).mpr z)), Bool.false_and] at q2; exact absurd q2 (by decide)
            refine lv_iconst (v := 0) hx hb dX6_page_43 (by decide) ?_
            refine lv_istore_n (lv' := [(3, .int 0), (0, .ref h0), (1, .int (nI X)), (2, .int (nI k)), (4, .int (nI d))]) hx hb dX6_page_44 rfl hl (by decide) rfl (fun ls hl => ?_)
            obtain ⟨x_24, ex_24⟩ : ∃ y : Int32, y = (nI k) + 1 := ⟨_, rfl⟩
            refine lv_iinc (v := x_24) (lv' := [(2, .int x_24), (3, .int 0), (0, .ref h0), (1, .int (nI X)), (4, .int (nI d))]) hx hb dX6_page_45 hl (k := 3) rfl (by rw [ex_24]; rfl) (by decide) rfl (fun ls hl => ?_)
            refine lv_iload hx hb dX6_page_48 (lv_at hl 4 rfl) ?_
            refine lv_sipush (v := 128) hx hb dX6_page_50 (by decide) ?_
            refine lv_idiv hx hb dX6_page_53 (by decide) ?_
            refine lv_topi (fun x_25 ex_25 => ?_)
            obtain rfl : x_25 = nI (d / 128) := ex_25.trans (k_128d hd31)
            refine lv_istore (lv' := [(4, .int (nI (d / 128))), (2, .int x_24), (3, .int 0), (0, .ref h0), (1, .int (nI X))]) hx hb dX6_page_54 hl (by decide) rfl (fun ls hl => ?_)
            refine lv_goto (tgt := 15) hx hb dX6_page_56 (by decide) ?_
            obtain rfl : x_24 = nI (k + 1) := ex_24.trans (nI_1 k)
            exact ih n (by omega) _ _ _ ⟨d / 128, k + 1, 0, by omega, by rw [Nat.pow_succ] at hd; omega, by omega, by rw [dgN, if_neg hd0] at hk; omega, by omega, ⟨fun q => absurd q.1 (by decide), fun q => (hno (hg.mpr q)).elim⟩, Or.inl rfl, hP, hD, hS, lv_sub hl [3, 4, 1, 2, 0] rfl⟩
          · skip
            have g_23 := k_ft hpr_22 c_23
            have hgd : 1 ≤ d % 128 ∧ d % 128 ≤ 100 := (k_rg (by omega) (by decide) (by decide)).mp g_23
            refine lv_iconst (v := 1) hx hb dX6_page_39 (by decide) ?_
            refine lv_goto (tgt := 44) hx hb dX6_page_40 (by decide) ?_
            refine lv_istore_n (lv' := [(3, .int 1), (0, .ref h0), (1, .int (nI X)), (2, .int (nI k)), (4, .int (nI d))]) hx hb dX6_page_44 rfl hl (by decide) rfl (fun ls hl => ?_)
            obtain ⟨x_26, ex_26⟩ : ∃ y : Int32, y = (nI k) + 1 := ⟨_, rfl⟩
            refine lv_iinc (v := x_26) (lv' := [(2, .int x_26), (3, .int 1), (0, .ref h0), (1, .int (nI X)), (4, .int (nI d))]) hx hb dX6_page_45 hl (k := 3) rfl (by rw [ex_26]; rfl) (by decide) rfl (fun ls hl => ?_)
            refine lv_iload hx hb dX6_page_48 (lv_at hl 4 rfl) ?_
            refine lv_sipush (v := 128) hx hb dX6_page_50 (by decide) ?_
            refine lv_idiv hx hb dX6_page_53 (by decide) ?_
            refine lv_topi (fun x_27 ex_27 => ?_)
            obtain rfl : x_27 = nI (d / 128) := ex_27.trans (k_128d hd31)
            refine lv_istore (lv' := [(4, .int (nI (d / 128))), (2, .int x_26), (3, .int 1), (0, .ref h0), (1, .int (nI X))]) hx hb dX6_page_54 hl (by decide) rfl (fun ls hl => ?_)
            refine lv_goto (tgt := 15) hx hb dX6_page_56 (by decide) ?_
            obtain rfl : x_26 = nI (k + 1) := ex_26.trans (nI_1 k)
            exact ih n (by omega) _ _ _ ⟨d / 128, k + 1, 1, by omega, by rw [Nat.pow_succ] at hd; omega, by omega, by rw [dgN, if_neg hd0] at hk; omega, by omega, ⟨fun q => hg.mp ⟨hg1, by rw [dgA, if_neg hd0, decide_eq_true hgd, Bool.true_and]; exact q.2⟩, fun q => ⟨rfl, by have q2 := (hg.mpr q).2; rw [dgA, if_neg hd0, decide_eq_true hgd, Bool.true_and] at q2; exact q2⟩⟩, Or.inr rfl, hP, hD, hS, lv_sub hl [3, 4, 1, 2, 0] rfl⟩
end
section
set_option maxHeartbeats 4000000 in
set_option maxRecDepth 100000 in
theorem o_Giver (l : Launch) (dC : Nat → ClassId) (dI : Nat → Nat → Nat) (sz : Nat) (h0 : Nat) (fs : List Value)  (hlen_h0 : fs.length = 9) : mOv l yX1_init cX1_init 1 1 13 376 (dC, dI) h0 1 fs sz [] exG [.ref h0] (fun _ => True) := by
  refine Met.ofW (cc := cX1_init) (maxL := 1) (ret := none) (by decide) rfl ?_
  intro p e s m args below meth c s₁ B hml hv
  obtain ⟨rfl, hsz, hP, hK, hex⟩ := hv
  subst hsz
  have hx := B.exec
  have hb := B.bytes
  have hr := B.returns
  have hlocks := B.notSynchronized
  have hts0 := atoms_spec (ws := Cond.code yX1_init cX1_init 1 none :: lw_B) B.pre
  have hts : ∀ w ∈ lw_B, w.before _ s = true := fun w h => hts0 w (List.mem_cons_of_mem _ h)
  have hown : s.vm.findClass RX1 = some m.cls := findClass_of_methodNamed B.named
  have hin : meth.name = "<init>" := (name_of_methodNamed B.named B.method).1
  have hD : va_D (aO h0 s.heap.size) [(h0, .inr (1, fs))] := ⟨fun i j p q h1 h2 _ => by have a1 := (List.getElem?_eq_some_iff.mp h1).1; have a2 := (List.getElem?_eq_some_iff.mp h2).1; simp at a1 a2; omega, fun k q h => by have a1 := (List.getElem?_eq_some_iff.mp h).1; simp at a1; subst a1; cases h; exact Or.inl rfl⟩
  generalize hAe : aO h0 s.heap.size = A at hD ⊢
  have hA : ∀ q : Nat, s.heap.size ≤ q → A q := fun q h => by rw [← hAe]; exact Or.inr h
  have hS : va_S A s.heap s.heap [] := va_S.rf
  have hl := lv_entry ([.ref h0]) (n := 1) (Nat.le_of_ble_eq_true rfl)
  rw [lg_entry_eq]
  generalize (lg_sl ([.ref h0]) ++ List.replicate (1 - (lg_sl ([.ref h0])).length) Slot.unset).toArray = ls at hl ⊢
  have hl : lv_has ls 1 [(0, .ref h0)] := hl
  refine lv_aload_n hx hb dX1_init_0 rfl (lv_at hl 0 rfl) ?_
  refine W.objInit hx hb hown (hts _ wm_141) (hts _ wm_78) (hts _ wm_79) rfl (by rw [hml]; exact hl.1) rfl dX1_init_1 (Nat.le_of_ble_eq_true rfl) (Nat.le_of_ble_eq_true rfl) ?_
  refine W.eq (g2 := F0 m 4 ls []) rfl ?_
  refine lv_aload_n hx hb dX1_init_4 rfl (lv_at hl 0 rfl) ?_
  refine lv_iconst (v := 4) hx hb dX1_init_5 (by decide) ?_
  refine va_newa (atype := .int) (N' := 4) (a0 := (4, .inl (fun _ => 0))) hx hb (hts _ wm_80) rfl hK hP hD hS hA (fun _ => rfl) (by decide) rfl (Nat.le_of_ble_eq_true rfl) (Nat.le_of_ble_eq_true rfl) (Nat.le_of_ble_eq_true rfl) dX1_init_6 (fun q_1 cA_2 H hK hP hD hS => ?_)
  have hK : va_K (dC, dI) vwCl [(cA_2, .int)] s := hK
  have hP : va_P (dC, dI) vwCl [(h0, .inr (1, fs)), (q_1, .inl (cA_2, 4, .inl (fun _ => 0)))] H := hP
  have hD : va_D A [(h0, .inr (1, fs)), (q_1, .inl (cA_2, 4, .inl (fun _ => 0)))] := hD
  refine va_putF (D := (dC, dI)) (ci := 1) (v := .ref q_1) (ty := .array (.int)) (C := RX1) (T := TX1) (N := 9) hx hb hts uB1 tyX1 tyX1_ok nmX1 hown hK hP hD hS 0 rfl rfl 0 (by decide) (hts _ wm_142) (fun _ h9 => h9) rfl hin rfl (by decide +kernel) rfl rfl (by rw [hlen_h0]; decide) dX1_init_8 (fun H locs hP hD hS => ?_)
  obtain ⟨fs_3, efs_3⟩ : ∃ z9, z9 = (fs).set 0 (.ref q_1) := ⟨_, rfl⟩
  have hP : va_P (dC, dI) vwCl [(h0, .inr (1, fs_3)), (q_1, .inl (cA_2, 4, .inl (fun _ => 0)))] H := by rw [efs_3]; exact hP
  have hD : va_D A [(h0, .inr (1, fs_3)), (q_1, .inl (cA_2, 4, .inl (fun _ => 0)))] := by rw [efs_3]; exact hD
  have hf0_h0 : fs_3[0]? = some (.ref q_1) := by rw [efs_3]; exact List.getElem?_set_self (by rw [hlen_h0]; decide)
  have hlen_h0 : fs_3.length = 9 := by rw [efs_3, List.length_set]; exact hlen_h0
  refine lv_aload_n hx hb dX1_init_11 rfl (lv_at hl 0 rfl) ?_
  refine lv_iconst (v := 4) hx hb dX1_init_12 (by decide) ?_
  refine va_newa (atype := .int) (N' := 4) (a0 := (4, .inl (fun _ => 0))) hx hb (hts _ wm_80) rfl hK hP hD hS hA (fun _ => rfl) (by decide) rfl (Nat.le_of_ble_eq_true rfl) (Nat.le_of_ble_eq_true rfl) (Nat.le_of_ble_eq_true rfl) dX1_init_13 (fun q_4 cA_5 H hK hP hD hS => ?_)
  have hK : va_K (dC, dI) vwCl [(cA_2, .int), (cA_5, .int)] s := hK
  have hP : va_P (dC, dI) vwCl [(h0, .inr (1, fs_3)), (q_1, .inl (cA_2, 4, .inl (fun _ => 0))), (q_4, .inl (cA_5, 4, .inl (fun _ => 0)))] H := hP
  have hD : va_D A [(h0, .inr (1, fs_3)), (q_1, .inl (cA_2, 4, .inl (fun _ => 0))), (q_4, .inl (cA_5, 4, .inl (fun _ => 0)))] := hD
  refine va_putF (D := (dC, dI)) (ci := 1) (v := .ref q_4) (ty := .array (.int)) (C := RX1) (T := TX1) (N := 9) hx hb hts uB1 tyX1 tyX1_ok nmX1 hown hK hP hD hS 0 rfl rfl 1 (by decide) (hts _ wm_143) (fun _ h9 => h9) rfl hin rfl (by decide +kernel) rfl rfl (by rw [hlen_h0]; decide) dX1_init_15 (fun H locs hP hD hS => ?_)
  obtain ⟨fs_6, efs_6⟩ : ∃ z9, z9 = (fs_3).set 1 (.ref q_4) := ⟨_, rfl⟩
  have hP : va_P (dC, dI) vwCl [(h0, .inr (1, fs_6)), (q_1, .inl (cA_2, 4, .inl (fun _ => 0))), (q_4, .inl (cA_5, 4, .inl (fun _ => 0)))] H := by rw [efs_6]; exact hP
  have hD : va_D A [(h0, .inr (1, fs_6)), (q_1, .inl (cA_2, 4, .inl (fun _ => 0))), (q_4, .inl (cA_5, 4, .inl (fun _ => 0)))] := by rw [efs_6]; exact hD
  have hf0_h0 : fs_6[0]? = some (.ref q_1) := by rw [efs_6, List.getElem?_set_ne (by decide)]; exact hf0_h0
  have hf1_h0 : fs_6[1]? = some (.ref q_4) := by rw [efs_6]; exact List.getElem?_set_self (by rw [hlen_h0]; decide)
  have hlen_h0 : fs_6.length = 9 := by rw [efs_6, List.length_set]; exact hlen_h0
  refine lv_aload_n hx hb dX1_init_18 rfl (lv_at hl 0 rfl) ?_
  refine lv_iconst (v := 4) hx hb dX1_init_19 (by decide) ?_
  refine lv_bipush (v := 40) hx hb dX1_init_20 (by decide) ?_
  refine k_grid (ty := .long) (K := 40) hx hb hown (hts _ wm_144) hex.1 (hts _ wm_145) (by decide) rfl (Nat.le_of_ble_eq_true rfl) (Nat.le_of_ble_eq_true rfl) rfl (Nat.le_of_ble_eq_true rfl) (Nat.le_of_ble_eq_true rfl) dX1_init_22 hP hS hA (fun q_7 H locs hP hS => ?_)
  refine va_putF (D := (dC, dI)) (ci := 1) (v := .ref q_7) (ty := .array (.array (.long))) (C := RX1) (T := TX1) (N := 9) hx hb hts uB1 tyX1 tyX1_ok nmX1 hown hK hP hD hS 0 rfl rfl 2 (by decide) (hts _ wm_146) (fun _ h9 => h9) rfl hin rfl (by decide +kernel) rfl rfl (by rw [hlen_h0]; decide) dX1_init_26 (fun H locs hP hD hS => ?_)
  obtain ⟨fs_8, efs_8⟩ : ∃ z9, z9 = (fs_6).set 2 (.ref q_7) := ⟨_, rfl⟩
  have hP : va_P (dC, dI) vwCl [(h0, .inr (1, fs_8)), (q_1, .inl (cA_2, 4, .inl (fun _ => 0))), (q_4, .inl (cA_5, 4, .inl (fun _ => 0)))] H := by rw [efs_8]; exact hP
  have hD : va_D A [(h0, .inr (1, fs_8)), (q_1, .inl (cA_2, 4, .inl (fun _ => 0))), (q_4, .inl (cA_5, 4, .inl (fun _ => 0)))] := by rw [efs_8]; exact hD
  have hf0_h0 : fs_8[0]? = some (.ref q_1) := by rw [efs_8, List.getElem?_set_ne (by decide)]; exact hf0_h0
  have hf1_h0 : fs_8[1]? = some (.ref q_4) := by rw [efs_8, List.getElem?_set_ne (by decide)]; exact hf1_h0
  have hf2_h0 : fs_8[2]? = some (.ref q_7) := by rw [efs_8]; exact List.getElem?_set_self (by rw [hlen_h0]; decide)
  have hlen_h0 : fs_8.length = 9 := by rw [efs_8, List.length_set]; exact hlen_h0
  refine lv_aload_n hx hb dX1_init_29 rfl (lv_at hl 0 rfl) ?_
  refine lv_iconst (v := 4) hx hb dX1_init_30 (by decide) ?_
  refine lv_bipush (v := 40) hx hb dX1_init_31 (by decide) ?_
  refine k_grid (ty := .int) (K := 40) hx hb hown (hts _ wm_147) hex.2 (hts _ wm_80) (by decide) rfl (Nat.le_of_ble_eq_true rfl) (Nat.le_of_ble_eq_true rfl) rfl (Nat.le_of_ble_eq_true rfl) (Nat.le_of_ble_eq_true rfl) dX1_init_33 hP hS hA (fun q_9 H locs hP hS => ?_)
  refine va_putF (D := (dC, dI)) (ci := 1) (v := .ref q_9) (ty := .array (.array (.int))) (C := RX1) (T := TX1) (N := 9) hx hb hts uB1 tyX1 tyX1_ok nmX1 hown hK hP hD hS 0 rfl rfl 3 (by decide) (hts _ wm_148) (fun _ h9 => h9) rfl hin rfl (by decide +kernel) rfl rfl (by rw [hlen_h0]; decide) dX1_init_37 (fun H locs hP hD hS => ?_)
  obtain ⟨fs_10, efs_10⟩ : ∃ z9, z9 = (fs_8).set 3 (.ref q_9) := ⟨_, rfl⟩
  have hP : va_P (dC, dI) vwCl [(h0, .inr (1, fs_10)), (q_1, .inl (cA_2, 4, .inl (fun _ => 0))), (q_4, .inl (cA_5, 4, .inl (fun _ => 0)))] H := by rw [efs_10]; exact hP
  have hD : va_D A [(h0, .inr (1, fs_10)), (q_1, .inl (cA_2, 4, .inl (fun _ => 0))), (q_4, .inl (cA_5, 4, .inl (fun _ => 0)))] := by rw [efs_10]; exact hD
  have hf0_h0 : fs_10[0]? = some (.ref q_1) := by rw [efs_10, List.getElem?_set_ne (by decide)]; exact hf0_h0
  have hf1_h0 : fs_10[1]? = some (.ref q_4) := by rw [efs_10, List.getElem?_set_ne (by decide)]; exact hf1_h0
  have hf2_h0 : fs_10[2]? = some (.ref q_7) := by rw [efs_10, List.getElem?_set_ne (by decide)]; exact hf2_h0
  have hf3_h0 : fs_10[3]? = some (.ref q_9) := by rw [efs_10]; exact List.getElem?_set_self (by rw [hlen_h0]; decide)
  have hlen_h0 : fs_10.length = 9 := by rw [efs_10, List.length_set]; exact hlen_h0
  refine lv_aload_n hx hb dX1_init_40 rfl (lv_at hl 0 rfl) ?_
  refine lv_bipush (v := 40) hx hb dX1_init_41 (by decide) ?_
  refine va_newa (atype := .long) (N' := 40) (a0 := (40, .inr (.inl (fun _ => 0)))) hx hb (hts _ wm_145) rfl hK hP hD hS hA (fun _ => rfl) (by decide) rfl (Nat.le_of_ble_eq_true rfl) (Nat.le_of_ble_eq_true rfl) (Nat.le_of_ble_eq_true rfl) dX1_init_43 (fun q_11 cA_12 H hK hP hD hS => ?_)
  have hK : va_K (dC, dI) vwCl [(cA_2, .int), (cA_5, .int), (cA_12, .long)] s := hK
  have hP : va_P (dC, dI) vwCl [(h0, .inr (1, fs_10)), (q_1, .inl (cA_2, 4, .inl (fun _ => 0))), (q_4, .inl (cA_5, 4, .inl (fun _ => 0))), (q_11, .inl (cA_12, 40, .inr (.inl (fun _ => 0))))] H := hP
  have hD : va_D A [(h0, .inr (1, fs_10)), (q_1, .inl (cA_2, 4, .inl (fun _ => 0))), (q_4, .inl (cA_5, 4, .inl (fun _ => 0))), (q_11, .inl (cA_12, 40, .inr (.inl (fun _ => 0))))] := hD
  refine va_putF (D := (dC, dI)) (ci := 1) (v := .ref q_11) (ty := .array (.long)) (C := RX1) (T := TX1) (N := 9) hx hb hts uB1 tyX1 tyX1_ok nmX1 hown hK hP hD hS 0 rfl rfl 4 (by decide) (hts _ wm_149) (fun _ h9 => h9) rfl hin rfl (by decide +kernel) rfl rfl (by rw [hlen_h0]; decide) dX1_init_45 (fun H locs hP hD hS => ?_)
  obtain ⟨fs_13, efs_13⟩ : ∃ z9, z9 = (fs_10).set 4 (.ref q_11) := ⟨_, rfl⟩
  have hP : va_P (dC, dI) vwCl [(h0, .inr (1, fs_13)), (q_1, .inl (cA_2, 4, .inl (fun _ => 0))), (q_4, .inl (cA_5, 4, .inl (fun _ => 0))), (q_11, .inl (cA_12, 40, .inr (.inl (fun _ => 0))))] H := by rw [efs_13]; exact hP
  have hD : va_D A [(h0, .inr (1, fs_13)), (q_1, .inl (cA_2, 4, .inl (fun _ => 0))), (q_4, .inl (cA_5, 4, .inl (fun _ => 0))), (q_11, .inl (cA_12, 40, .inr (.inl (fun _ => 0))))] := by rw [efs_13]; exact hD
  have hf0_h0 : fs_13[0]? = some (.ref q_1) := by rw [efs_13, List.getElem?_set_ne (by decide)]; exact hf0_h0
  have hf1_h0 : fs_13[1]? = some (.ref q_4) := by rw [efs_13, List.getElem?_set_ne (by decide)]; exact hf1_h0
  have hf2_h0 : fs_13[2]? = some (.ref q_7) := by rw [efs_13, List.getElem?_set_ne (by decide)]; exact hf2_h0
  have hf3_h0 : fs_13[3]? = some (.ref q_9) := by rw [efs_13, List.getElem?_set_ne (by decide)]; exact hf3_h0
  have hf4_h0 : fs_13[4]? = some (.ref q_11) := by rw [efs_13]; exact List.getElem?_set_self (by rw [hlen_h0]; decide)
  have hlen_h0 : fs_13.length = 9 := by rw [efs_13, List.length_set]; exact hlen_h0
  exact W.vret hx hb hr (fun t ht hW => ⟨⟨fs_13, rfl, trivial, by show va_P (dC, dI) vwCl [(h0, .inr (1, fs_13))] t.heap; rw [ht]; exact hP.sub [0] rfl⟩, hS.F ht⟩) hS.2.2 dX1_init_48
set_option maxHeartbeats 8000000 in
set_option maxRecDepth 100000 in
theorem n_C (l : Launch) (dC : Nat → ClassId) (dI : Nat → Nat → Nat) (sz : Nat) (h0 : Nat) (fs : List Value) (hf7_h0 : fs[7]? = some (.int 0)) (hf8_h0 : fs[8]? = some (.int 0)) (hf9_h0 : fs[9]? = some (.int 0)) (hf10_h0 : fs[10]? = some (.int 0)) (hf11_h0 : fs[11]? = some (.int 0)) (hf12_h0 : fs[12]? = some (.int 0)) (hf13_h0 : fs[13]? = some (.int 0)) (hf14_h0 : fs[14]? = some (.int 0)) (hlen_h0 : fs.length = 17) : mN (S := List Value × Nat × Nat × Nat × ClassId × ClassId × ClassId) l yX5_init cX5_init 1 3 20 1541 (dC, dI) h0 5 fs sz exC [.ref h0] (fun u => match u with | (f, qp, qc, qm, _, _, _) => f.length = 17 ∧ f[0]? = some (.ref qp) ∧ f[1]? = some (.ref qc) ∧ f[3]? = some (.ref qm) ∧ f[7]? = some (.int 0) ∧ f[8]? = some (.int 0) ∧ f[9]? = some (.int 0) ∧ f[10]? = some (.int 0) ∧ f[11]? = some (.int 0) ∧ f[12]? = some (.int 0) ∧ f[13]? = some (.int 0) ∧ f[14]? = some (.int 0) ∧ f[15]? = some (.int 50) ∧ f[16]? = some (.int 10000)) (fun u => match u with | (f, qp, qc, qm, cP, cC, cI) => [(h0, .inr (5, f)), (qp, .inl (cP, 8, .inr (.inr (.inr (.inr (fun _ => none)))))), (qc, .inl (cC, 40, .inr (.inr (.inr (.inr (fun _ => none)))))), (qm, .inl (cI, 100, .inl (fun _ => 0)))]) (fun u => match u with | (_, _, _, _, cP, cC, cI) => [(cP, .object RX2), (cC, .object RX0), (cI, .int)]) := by
  refine Met.ofW (cc := cX5_init) (maxL := 1) (ret := none) (by decide) rfl ?_
  intro p e s m args below meth c s₁ B hml hv
  obtain ⟨rfl, hsz, hP, hK, hD0, hex⟩ := hv
  subst hsz
  have hx := B.exec
  have hb := B.bytes
  have hr := B.returns
  have hlocks := B.notSynchronized
  have hts0 := atoms_spec (ws := Cond.code yX5_init cX5_init 1 none :: lw_B) B.pre
  have hts : ∀ w ∈ lw_B, w.before _ s = true := fun w h => hts0 w (List.mem_cons_of_mem _ h)
  have hown : s.vm.findClass RX5 = some m.cls := findClass_of_methodNamed B.named
  have hin : meth.name = "<init>" := (name_of_methodNamed B.named B.method).1
  have hD := hD0.self (sz := s.heap.size)
  generalize hAe : va_A [(h0, .inr (5, fs))] s.heap.size = A at hD ⊢
  have hA : ∀ q : Nat, s.heap.size ≤ q → A q := fun q h => by rw [← hAe]; exact Or.inr h
  have hS : va_S A s.heap s.heap [] := va_S.rf
  have hl := lv_entry ([.ref h0]) (n := 1) (Nat.le_of_ble_eq_true rfl)
  rw [lg_entry_eq]
  generalize (lg_sl ([.ref h0]) ++ List.replicate (1 - (lg_sl ([.ref h0])).length) Slot.unset).toArray = ls at hl ⊢
  have hl : lv_has ls 1 [(0, .ref h0)] := hl
  refine lv_aload_n hx hb dX5_init_0 rfl (lv_at hl 0 rfl) ?_
  refine W.objInit hx hb hown (hts _ wm_150) (hts _ wm_78) (hts _ wm_79) rfl (by rw [hml]; exact hl.1) rfl dX5_init_1 (Nat.le_of_ble_eq_true rfl) (Nat.le_of_ble_eq_true rfl) ?_
  refine W.eq (g2 := F0 m 4 ls []) rfl ?_
  refine lv_aload_n hx hb dX5_init_4 rfl (lv_at hl 0 rfl) ?_
  refine lv_bipush (v := 8) hx hb dX5_init_5 (by decide) ?_
  refine va_newq (N' := 8) hx hb hown (hts _ wm_91) hex.1 hK hP hD hS hA (by decide) rfl (Nat.le_of_ble_eq_true rfl) (Nat.le_of_ble_eq_true rfl) (Nat.le_of_ble_eq_true rfl) dX5_init_7 (fun q_1 cA_2 H hK hP hD hS => ?_)
  have hK : va_K (dC, dI) vwCl [(cA_2, .object RX2)] s := hK
  have hP : va_P (dC, dI) vwCl [(h0, .inr (5, fs)), (q_1, .inl (cA_2, 8, .inr (.inr (.inr (.inr (fun _ => none))))))] H := hP
  have hD : va_D A [(h0, .inr (5, fs)), (q_1, .inl (cA_2, 8, .inr (.inr (.inr (.inr (fun _ => none))))))] := hD
  refine va_putF (D := (dC, dI)) (ci := 5) (v := .ref q_1) (ty := .array (.object "NoticeMarket$Page")) (C := RX5) (T := TX5) (N := 17) hx hb hts uB5 tyX5 tyX5_ok nmX5 hown hK hP hD hS 0 rfl rfl 0 (by decide) (hts _ wm_90) (fun _ h9 => h9) rfl hin rfl (by decide +kernel) rfl rfl (by rw [hlen_h0]; decide) dX5_init_10 (fun H locs hP hD hS => ?_)
  obtain ⟨fs_3, efs_3⟩ : ∃ z9, z9 = (fs).set 0 (.ref q_1) := ⟨_, rfl⟩
  have hP : va_P (dC, dI) vwCl [(h0, .inr (5, fs_3)), (q_1, .inl (cA_2, 8, .inr (.inr (.inr (.inr (fun _ => none))))))] H := by rw [efs_3]; exact hP
  have hD : va_D A [(h0, .inr (5, fs_3)), (q_1, .inl (cA_2, 8, .inr (.inr (.inr (.inr (fun _ => none))))))] := by rw [efs_3]; exact hD
  have hf7_h0 : fs_3[7]? = some (.int 0) := by rw [efs_3, List.getElem?_set_ne (by decide)]; exact hf7_h0
  have hf8_h0 : fs_3[8]? = some (.int 0) := by rw [efs_3, List.getElem?_set_ne (by decide)]; exact hf8_h0
  have hf9_h0 : fs_3[9]? = some (.int 0) := by rw [efs_3, List.getElem?_set_ne (by decide)]; exact hf9_h0
  have hf10_h0 : fs_3[10]? = some (.int 0) := by rw [efs_3, List.getElem?_set_ne (by decide)]; exact hf10_h0
  have hf11_h0 : fs_3[11]? = some (.int 0) := by rw [efs_3, List.getElem?_set_ne (by decide)]; exact hf11_h0
  have hf12_h0 : fs_3[12]? = some (.int 0) := by rw [efs_3, List.getElem?_set_ne (by decide)]; exact hf12_h0
  have hf13_h0 : fs_3[13]? = some (.int 0) := by rw [efs_3, List.getElem?_set_ne (by decide)]; exact hf13_h0
  have hf14_h0 : fs_3[14]? = some (.int 0) := by rw [efs_3, List.getElem?_set_ne (by decide)]; exact hf14_h0
  have hf0_h0 : fs_3[0]? = some (.ref q_1) := by rw [efs_3]; exact List.getElem?_set_self (by rw [hlen_h0]; decide)
  have hlen_h0 : fs_3.length = 17 := by rw [efs_3, List.length_set]; exact hlen_h0
  refine lv_aload_n hx hb dX5_init_13 rfl (lv_at hl 0 rfl) ?_
  refine lv_bipush (v := 40) hx hb dX5_init_14 (by decide) ?_
  refine va_newq (N' := 40) hx hb hown (hts _ wm_123) hex.2.1 hK hP hD hS hA (by decide) rfl (Nat.le_of_ble_eq_true rfl) (Nat.le_of_ble_eq_true rfl) (Nat.le_of_ble_eq_true rfl) dX5_init_16 (fun q_4 cA_5 H hK hP hD hS => ?_)
  have hK : va_K (dC, dI) vwCl [(cA_2, .object RX2), (cA_5, .object RX0)] s := hK
  have hP : va_P (dC, dI) vwCl [(h0, .inr (5, fs_3)), (q_1, .inl (cA_2, 8, .inr (.inr (.inr (.inr (fun _ => none)))))), (q_4, .inl (cA_5, 40, .inr (.inr (.inr (.inr (fun _ => none))))))] H := hP
  have hD : va_D A [(h0, .inr (5, fs_3)), (q_1, .inl (cA_2, 8, .inr (.inr (.inr (.inr (fun _ => none)))))), (q_4, .inl (cA_5, 40, .inr (.inr (.inr (.inr (fun _ => none))))))] := hD
  refine va_putF (D := (dC, dI)) (ci := 5) (v := .ref q_4) (ty := .array (.object "NoticeMarket$Campaign")) (C := RX5) (T := TX5) (N := 17) hx hb hts uB5 tyX5 tyX5_ok nmX5 hown hK hP hD hS 0 rfl rfl 1 (by decide) (hts _ wm_122) (fun _ h9 => h9) rfl hin rfl (by decide +kernel) rfl rfl (by rw [hlen_h0]; decide) dX5_init_19 (fun H locs hP hD hS => ?_)
  obtain ⟨fs_6, efs_6⟩ : ∃ z9, z9 = (fs_3).set 1 (.ref q_4) := ⟨_, rfl⟩
  have hP : va_P (dC, dI) vwCl [(h0, .inr (5, fs_6)), (q_1, .inl (cA_2, 8, .inr (.inr (.inr (.inr (fun _ => none)))))), (q_4, .inl (cA_5, 40, .inr (.inr (.inr (.inr (fun _ => none))))))] H := by rw [efs_6]; exact hP
  have hD : va_D A [(h0, .inr (5, fs_6)), (q_1, .inl (cA_2, 8, .inr (.inr (.inr (.inr (fun _ => none)))))), (q_4, .inl (cA_5, 40, .inr (.inr (.inr (.inr (fun _ => none))))))] := by rw [efs_6]; exact hD
  have hf7_h0 : fs_6[7]? = some (.int 0) := by rw [efs_6, List.getElem?_set_ne (by decide)]; exact hf7_h0
  have hf8_h0 : fs_6[8]? = some (.int 0) := by rw [efs_6, List.getElem?_set_ne (by decide)]; exact hf8_h0
  have hf9_h0 : fs_6[9]? = some (.int 0) := by rw [efs_6, List.getElem?_set_ne (by decide)]; exact hf9_h0
  have hf10_h0 : fs_6[10]? = some (.int 0) := by rw [efs_6, List.getElem?_set_ne (by decide)]; exact hf10_h0
  have hf11_h0 : fs_6[11]? = some (.int 0) := by rw [efs_6, List.getElem?_set_ne (by decide)]; exact hf11_h0
  have hf12_h0 : fs_6[12]? = some (.int 0) := by rw [efs_6, List.getElem?_set_ne (by decide)]; exact hf12_h0
  have hf13_h0 : fs_6[13]? = some (.int 0) := by rw [efs_6, List.getElem?_set_ne (by decide)]; exact hf13_h0
  have hf14_h0 : fs_6[14]? = some (.int 0) := by rw [efs_6, List.getElem?_set_ne (by decide)]; exact hf14_h0
  have hf0_h0 : fs_6[0]? = some (.ref q_1) := by rw [efs_6, List.getElem?_set_ne (by decide)]; exact hf0_h0
  have hf1_h0 : fs_6[1]? = some (.ref q_4) := by rw [efs_6]; exact List.getElem?_set_self (by rw [hlen_h0]; decide)
  have hlen_h0 : fs_6.length = 17 := by rw [efs_6, List.length_set]; exact hlen_h0
  refine lv_aload_n hx hb dX5_init_22 rfl (lv_at hl 0 rfl) ?_
  refine lv_sipush (v := 1000) hx hb dX5_init_23 (by decide) ?_
  refine va_newq (N' := 1000) hx hb hown (hts _ wm_151) hex.2.2.1 hK hP hD hS hA (by decide) rfl (Nat.le_of_ble_eq_true rfl) (Nat.le_of_ble_eq_true rfl) (Nat.le_of_ble_eq_true rfl) dX5_init_26 (fun q_7 cA_8 H hK hP hD hS => ?_)
  have hK : va_K (dC, dI) vwCl [(cA_2, .object RX2), (cA_5, .object RX0), (cA_8, .object RX3)] s := hK
  have hP : va_P (dC, dI) vwCl [(h0, .inr (5, fs_6)), (q_1, .inl (cA_2, 8, .inr (.inr (.inr (.inr (fun _ => none)))))), (q_4, .inl (cA_5, 40, .inr (.inr (.inr (.inr (fun _ => none)))))), (q_7, .inl (cA_8, 1000, .inr (.inr (.inr (.inr (fun _ => none))))))] H := hP
  have hD : va_D A [(h0, .inr (5, fs_6)), (q_1, .inl (cA_2, 8, .inr (.inr (.inr (.inr (fun _ => none)))))), (q_4, .inl (cA_5, 40, .inr (.inr (.inr (.inr (fun _ => none)))))), (q_7, .inl (cA_8, 1000, .inr (.inr (.inr (.inr (fun _ => none))))))] := hD
  refine va_putF (D := (dC, dI)) (ci := 5) (v := .ref q_7) (ty := .array (.object "NoticeMarket$Sale")) (C := RX5) (T := TX5) (N := 17) hx hb hts uB5 tyX5 tyX5_ok nmX5 hown hK hP hD hS 0 rfl rfl 2 (by decide) (hts _ wm_152) (fun _ h9 => h9) rfl hin rfl (by decide +kernel) rfl rfl (by rw [hlen_h0]; decide) dX5_init_29 (fun H locs hP hD hS => ?_)
  obtain ⟨fs_9, efs_9⟩ : ∃ z9, z9 = (fs_6).set 2 (.ref q_7) := ⟨_, rfl⟩
  have hP : va_P (dC, dI) vwCl [(h0, .inr (5, fs_9)), (q_1, .inl (cA_2, 8, .inr (.inr (.inr (.inr (fun _ => none)))))), (q_4, .inl (cA_5, 40, .inr (.inr (.inr (.inr (fun _ => none)))))), (q_7, .inl (cA_8, 1000, .inr (.inr (.inr (.inr (fun _ => none))))))] H := by rw [efs_9]; exact hP
  have hD : va_D A [(h0, .inr (5, fs_9)), (q_1, .inl (cA_2, 8, .inr (.inr (.inr (.inr (fun _ => none)))))), (q_4, .inl (cA_5, 40, .inr (.inr (.inr (.inr (fun _ => none)))))), (q_7, .inl (cA_8, 1000, .inr (.inr (.inr (.inr (fun _ => none))))))] := by rw [efs_9]; exact hD
  have hf7_h0 : fs_9[7]? = some (.int 0) := by rw [efs_9, List.getElem?_set_ne (by decide)]; exact hf7_h0
  have hf8_h0 : fs_9[8]? = some (.int 0) := by rw [efs_9, List.getElem?_set_ne (by decide)]; exact hf8_h0
  have hf9_h0 : fs_9[9]? = some (.int 0) := by rw [efs_9, List.getElem?_set_ne (by decide)]; exact hf9_h0
  have hf10_h0 : fs_9[10]? = some (.int 0) := by rw [efs_9, List.getElem?_set_ne (by decide)]; exact hf10_h0
  have hf11_h0 : fs_9[11]? = some (.int 0) := by rw [efs_9, List.getElem?_set_ne (by decide)]; exact hf11_h0
  have hf12_h0 : fs_9[12]? = some (.int 0) := by rw [efs_9, List.getElem?_set_ne (by decide)]; exact hf12_h0
  have hf13_h0 : fs_9[13]? = some (.int 0) := by rw [efs_9, List.getElem?_set_ne (by decide)]; exact hf13_h0
  have hf14_h0 : fs_9[14]? = some (.int 0) := by rw [efs_9, List.getElem?_set_ne (by decide)]; exact hf14_h0
  have hf0_h0 : fs_9[0]? = some (.ref q_1) := by rw [efs_9, List.getElem?_set_ne (by decide)]; exact hf0_h0
  have hf1_h0 : fs_9[1]? = some (.ref q_4) := by rw [efs_9, List.getElem?_set_ne (by decide)]; exact hf1_h0
  have hlen_h0 : fs_9.length = 17 := by rw [efs_9, List.length_set]; exact hlen_h0
  have hK := hK.sub (tys' := [(cA_2, .object RX2), (cA_5, .object RX0)]) [0, 1] rfl
  have hP := hP.sub (ws' := [(h0, .inr (5, fs_9)), (q_1, .inl (cA_2, 8, .inr (.inr (.inr (.inr (fun _ => none)))))), (q_4, .inl (cA_5, 40, .inr (.inr (.inr (.inr (fun _ => none))))))]) [0, 1, 2] rfl
  have hD := hD.sub (ws' := [(h0, .inr (5, fs_9)), (q_1, .inl (cA_2, 8, .inr (.inr (.inr (.inr (fun _ => none)))))), (q_4, .inl (cA_5, 40, .inr (.inr (.inr (.inr (fun _ => none))))))]) [0, 1, 2] (by decide) rfl
  refine lv_aload_n hx hb dX5_init_32 rfl (lv_at hl 0 rfl) ?_
  refine lv_bipush (v := 100) hx hb dX5_init_33 (by decide) ?_
  refine va_newa (atype := .int) (N' := 100) (a0 := (100, .inl (fun _ => 0))) hx hb (hts _ wm_80) rfl hK hP hD hS hA (fun _ => rfl) (by decide) rfl (Nat.le_of_ble_eq_true rfl) (Nat.le_of_ble_eq_true rfl) (Nat.le_of_ble_eq_true rfl) dX5_init_35 (fun q_10 cA_11 H hK hP hD hS => ?_)
  have hK : va_K (dC, dI) vwCl [(cA_2, .object RX2), (cA_5, .object RX0), (cA_11, .int)] s := hK
  have hP : va_P (dC, dI) vwCl [(h0, .inr (5, fs_9)), (q_1, .inl (cA_2, 8, .inr (.inr (.inr (.inr (fun _ => none)))))), (q_4, .inl (cA_5, 40, .inr (.inr (.inr (.inr (fun _ => none)))))), (q_10, .inl (cA_11, 100, .inl (fun _ => 0)))] H := hP
  have hD : va_D A [(h0, .inr (5, fs_9)), (q_1, .inl (cA_2, 8, .inr (.inr (.inr (.inr (fun _ => none)))))), (q_4, .inl (cA_5, 40, .inr (.inr (.inr (.inr (fun _ => none)))))), (q_10, .inl (cA_11, 100, .inl (fun _ => 0)))] := hD
  refine va_putF (D := (dC, dI)) (ci := 5) (v := .ref q_10) (ty := .array (.int)) (C := RX5) (T := TX5) (N := 17) hx hb hts uB5 tyX5 tyX5_ok nmX5 hown hK hP hD hS 0 rfl rfl 3 (by decide) (hts _ wm_75) (fun _ h9 => h9) rfl hin rfl (by decide +kernel) rfl rfl (by rw [hlen_h0]; decide) dX5_init_37 (fun H locs hP hD hS => ?_)
  obtain ⟨fs_12, efs_12⟩ : ∃ z9, z9 = (fs_9).set 3 (.ref q_10) := ⟨_, rfl⟩
  have hP : va_P (dC, dI) vwCl [(h0, .inr (5, fs_12)), (q_1, .inl (cA_2, 8, .inr (.inr (.inr (.inr (fun _ => none)))))), (q_4, .inl (cA_5, 40, .inr (.inr (.inr (.inr (fun _ => none)))))), (q_10, .inl (cA_11, 100, .inl (fun _ => 0)))] H := by rw [efs_12]; exact hP
  have hD : va_D A [(h0, .inr (5, fs_12)), (q_1, .inl (cA_2, 8, .inr (.inr (.inr (.inr (fun _ => none)))))), (q_4, .inl (cA_5, 40, .inr (.inr (.inr (.inr (fun _ => none)))))), (q_10, .inl (cA_11, 100, .inl (fun _ => 0)))] := by rw [efs_12]; exact hD
  have hf7_h0 : fs_12[7]? = some (.int 0) := by rw [efs_12, List.getElem?_set_ne (by decide)]; exact hf7_h0
  have hf8_h0 : fs_12[8]? = some (.int 0) := by rw [efs_12, List.getElem?_set_ne (by decide)]; exact hf8_h0
  have hf9_h0 : fs_12[9]? = some (.int 0) := by rw [efs_12, List.getElem?_set_ne (by decide)]; exact hf9_h0
  have hf10_h0 : fs_12[10]? = some (.int 0) := by rw [efs_12, List.getElem?_set_ne (by decide)]; exact hf10_h0
  have hf11_h0 : fs_12[11]? = some (.int 0) := by rw [efs_12, List.getElem?_set_ne (by decide)]; exact hf11_h0
  have hf12_h0 : fs_12[12]? = some (.int 0) := by rw [efs_12, List.getElem?_set_ne (by decide)]; exact hf12_h0
  have hf13_h0 : fs_12[13]? = some (.int 0) := by rw [efs_12, List.getElem?_set_ne (by decide)]; exact hf13_h0
  have hf14_h0 : fs_12[14]? = some (.int 0) := by rw [efs_12, List.getElem?_set_ne (by decide)]; exact hf14_h0
  have hf0_h0 : fs_12[0]? = some (.ref q_1) := by rw [efs_12, List.getElem?_set_ne (by decide)]; exact hf0_h0
  have hf1_h0 : fs_12[1]? = some (.ref q_4) := by rw [efs_12, List.getElem?_set_ne (by decide)]; exact hf1_h0
  have hf3_h0 : fs_12[3]? = some (.ref q_10) := by rw [efs_12]; exact List.getElem?_set_self (by rw [hlen_h0]; decide)
  have hlen_h0 : fs_12.length = 17 := by rw [efs_12, List.length_set]; exact hlen_h0
  refine lv_aload_n hx hb dX5_init_40 rfl (lv_at hl 0 rfl) ?_
  refine va_new (ci := 1) (fs := [.null, .null, .null, .null, .null, .int 0, .int 0, .long 0, .long 0]) (C := RX1) (T := TX1) (N := 9) hx hb hts uB1 tyX1 tyX1_ok hown (hts _ wm_153) (hts _ wm_154) (hts _ wm_155) hK hP hD hS hA rfl (by decide +kernel) (Nat.le_of_ble_eq_true rfl) (Nat.le_of_ble_eq_true rfl) dX5_init_41 (fun q_13 H hP hD hS => ?_)
  have hP : va_P (dC, dI) vwCl [(h0, .inr (5, fs_12)), (q_1, .inl (cA_2, 8, .inr (.inr (.inr (.inr (fun _ => none)))))), (q_4, .inl (cA_5, 40, .inr (.inr (.inr (.inr (fun _ => none)))))), (q_10, .inl (cA_11, 100, .inl (fun _ => 0))), (q_13, .inr (1, [.null, .null, .null, .null, .null, .int 0, .int 0, .long 0, .long 0]))] H := hP
  have hD : va_D A [(h0, .inr (5, fs_12)), (q_1, .inl (cA_2, 8, .inr (.inr (.inr (.inr (fun _ => none)))))), (q_4, .inl (cA_5, 40, .inr (.inr (.inr (.inr (fun _ => none)))))), (q_10, .inl (cA_11, 100, .inl (fun _ => 0))), (q_13, .inr (1, [.null, .null, .null, .null, .null, .int 0, .int 0, .long 0, .long 0]))] := hD
  refine lv_dup hx hb dX5_init_44 rfl ?_
  refine k_OIN (ci := 1) (q0 := 4) (tc := []) (ex := exG) ⟨hx, hb, hml, hown, hts⟩ (o_Giver l dC dI H.size q_13 [.null, .null, .null, .null, .null, .int 0, .int 0, .long 0, .long 0] rfl) 0 hex.2.2.2.2 wm_156 wm_155 wm_157 rfl (by decide +kernel) ⟨Nat.le_of_ble_eq_true rfl, Nat.le_of_ble_eq_true rfl⟩ (hK.sub (tys' := []) [] rfl) (exG_ok hex.2.2.2.1) rfl rfl hl.1 rfl (Nat.le_of_ble_eq_true rfl) dX5_init_45 ⟨Nat.le_of_ble_eq_true rfl, Nat.le_of_ble_eq_true rfl⟩ hP hD hS hA (fun fs_14 H locs efs_14 hP hD hS => ?_)
  have hP : va_P (dC, dI) vwCl [(h0, .inr (5, fs_12)), (q_1, .inl (cA_2, 8, .inr (.inr (.inr (.inr (fun _ => none)))))), (q_4, .inl (cA_5, 40, .inr (.inr (.inr (.inr (fun _ => none)))))), (q_10, .inl (cA_11, 100, .inl (fun _ => 0))), (q_13, .inr (1, fs_14))] H := hP
  have hD : va_D A [(h0, .inr (5, fs_12)), (q_1, .inl (cA_2, 8, .inr (.inr (.inr (.inr (fun _ => none)))))), (q_4, .inl (cA_5, 40, .inr (.inr (.inr (.inr (fun _ => none)))))), (q_10, .inl (cA_11, 100, .inl (fun _ => 0))), (q_13, .inr (1, fs_14))] := hD
  refine va_putF (D := (dC, dI)) (ci := 5) (v := .ref q_13) (ty := .object "NoticeMarket$Giver") (C := RX5) (T := TX5) (N := 17) hx hb hts uB5 tyX5 tyX5_ok nmX5 hown hK hP hD hS 0 rfl rfl 4 (by decide) (hts _ wm_158) (fun _ h9 => h9) rfl hin rfl (by decide +kernel) rfl rfl (by rw [hlen_h0]; decide) dX5_init_48 (fun H locs hP hD hS => ?_)
  obtain ⟨fs_15, efs_15⟩ : ∃ z9, z9 = (fs_12).set 4 (.ref q_13) := ⟨_, rfl⟩
  have hP : va_P (dC, dI) vwCl [(h0, .inr (5, fs_15)), (q_1, .inl (cA_2, 8, .inr (.inr (.inr (.inr (fun _ => none)))))), (q_4, .inl (cA_5, 40, .inr (.inr (.inr (.inr (fun _ => none)))))), (q_10, .inl (cA_11, 100, .inl (fun _ => 0))), (q_13, .inr (1, fs_14))] H := by rw [efs_15]; exact hP
  have hD : va_D A [(h0, .inr (5, fs_15)), (q_1, .inl (cA_2, 8, .inr (.inr (.inr (.inr (fun _ => none)))))), (q_4, .inl (cA_5, 40, .inr (.inr (.inr (.inr (fun _ => none)))))), (q_10, .inl (cA_11, 100, .inl (fun _ => 0))), (q_13, .inr (1, fs_14))] := by rw [efs_15]; exact hD
  have hf7_h0 : fs_15[7]? = some (.int 0) := by rw [efs_15, List.getElem?_set_ne (by decide)]; exact hf7_h0
  have hf8_h0 : fs_15[8]? = some (.int 0) := by rw [efs_15, List.getElem?_set_ne (by decide)]; exact hf8_h0
  have hf9_h0 : fs_15[9]? = some (.int 0) := by rw [efs_15, List.getElem?_set_ne (by decide)]; exact hf9_h0
  have hf10_h0 : fs_15[10]? = some (.int 0) := by rw [efs_15, List.getElem?_set_ne (by decide)]; exact hf10_h0
  have hf11_h0 : fs_15[11]? = some (.int 0) := by rw [efs_15, List.getElem?_set_ne (by decide)]; exact hf11_h0
  have hf12_h0 : fs_15[12]? = some (.int 0) := by rw [efs_15, List.getElem?_set_ne (by decide)]; exact hf12_h0
  have hf13_h0 : fs_15[13]? = some (.int 0) := by rw [efs_15, List.getElem?_set_ne (by decide)]; exact hf13_h0
  have hf14_h0 : fs_15[14]? = some (.int 0) := by rw [efs_15, List.getElem?_set_ne (by decide)]; exact hf14_h0
  have hf0_h0 : fs_15[0]? = some (.ref q_1) := by rw [efs_15, List.getElem?_set_ne (by decide)]; exact hf0_h0
  have hf1_h0 : fs_15[1]? = some (.ref q_4) := by rw [efs_15, List.getElem?_set_ne (by decide)]; exact hf1_h0
  have hf3_h0 : fs_15[3]? = some (.ref q_10) := by rw [efs_15, List.getElem?_set_ne (by decide)]; exact hf3_h0
  have hlen_h0 : fs_15.length = 17 := by rw [efs_15, List.length_set]; exact hlen_h0
  have hP := hP.sub (ws' := [(h0, .inr (5, fs_15)), (q_1, .inl (cA_2, 8, .inr (.inr (.inr (.inr (fun _ => none)))))), (q_4, .inl (cA_5, 40, .inr (.inr (.inr (.inr (fun _ => none)))))), (q_10, .inl (cA_11, 100, .inl (fun _ => 0)))]) [0, 1, 2, 3] rfl
  have hD := hD.sub (ws' := [(h0, .inr (5, fs_15)), (q_1, .inl (cA_2, 8, .inr (.inr (.inr (.inr (fun _ => none)))))), (q_4, .inl (cA_5, 40, .inr (.inr (.inr (.inr (fun _ => none)))))), (q_10, .inl (cA_11, 100, .inl (fun _ => 0)))]) [0, 1, 2, 3] (by decide) rfl
  refine lv_aload_n hx hb dX5_init_51 rfl (lv_at hl 0 rfl) ?_
  refine lv_iconst (v := 4) hx hb dX5_init_52 (by decide) ?_
  refine va_newa (atype := .int) (N' := 4) (a0 := (4, .inl (fun _ => 0))) hx hb (hts _ wm_80) rfl hK hP hD hS hA (fun _ => rfl) (by decide) rfl (Nat.le_of_ble_eq_true rfl) (Nat.le_of_ble_eq_true rfl) (Nat.le_of_ble_eq_true rfl) dX5_init_53 (fun q_16 cA_17 H hK hP hD hS => ?_)
  have hK : va_K (dC, dI) vwCl [(cA_2, .object RX2), (cA_5, .object RX0), (cA_11, .int), (cA_17, .int)] s := hK
  have hP : va_P (dC, dI) vwCl [(h0, .inr (5, fs_15)), (q_1, .inl (cA_2, 8, .inr (.inr (.inr (.inr (fun _ => none)))))), (q_4, .inl (cA_5, 40, .inr (.inr (.inr (.inr (fun _ => none)))))), (q_10, .inl (cA_11, 100, .inl (fun _ => 0))), (q_16, .inl (cA_17, 4, .inl (fun _ => 0)))] H := hP
  have hD : va_D A [(h0, .inr (5, fs_15)), (q_1, .inl (cA_2, 8, .inr (.inr (.inr (.inr (fun _ => none)))))), (q_4, .inl (cA_5, 40, .inr (.inr (.inr (.inr (fun _ => none)))))), (q_10, .inl (cA_11, 100, .inl (fun _ => 0))), (q_16, .inl (cA_17, 4, .inl (fun _ => 0)))] := hD
  refine va_putF (D := (dC, dI)) (ci := 5) (v := .ref q_16) (ty := .array (.int)) (C := RX5) (T := TX5) (N := 17) hx hb hts uB5 tyX5 tyX5_ok nmX5 hown hK hP hD hS 0 rfl rfl 5 (by decide) (hts _ wm_159) (fun _ h9 => h9) rfl hin rfl (by decide +kernel) rfl rfl (by rw [hlen_h0]; decide) dX5_init_55 (fun H locs hP hD hS => ?_)
  obtain ⟨fs_18, efs_18⟩ : ∃ z9, z9 = (fs_15).set 5 (.ref q_16) := ⟨_, rfl⟩
  have hP : va_P (dC, dI) vwCl [(h0, .inr (5, fs_18)), (q_1, .inl (cA_2, 8, .inr (.inr (.inr (.inr (fun _ => none)))))), (q_4, .inl (cA_5, 40, .inr (.inr (.inr (.inr (fun _ => none)))))), (q_10, .inl (cA_11, 100, .inl (fun _ => 0))), (q_16, .inl (cA_17, 4, .inl (fun _ => 0)))] H := by rw [efs_18]; exact hP
  have hD : va_D A [(h0, .inr (5, fs_18)), (q_1, .inl (cA_2, 8, .inr (.inr (.inr (.inr (fun _ => none)))))), (q_4, .inl (cA_5, 40, .inr (.inr (.inr (.inr (fun _ => none)))))), (q_10, .inl (cA_11, 100, .inl (fun _ => 0))), (q_16, .inl (cA_17, 4, .inl (fun _ => 0)))] := by rw [efs_18]; exact hD
  have hf7_h0 : fs_18[7]? = some (.int 0) := by rw [efs_18, List.getElem?_set_ne (by decide)]; exact hf7_h0
  have hf8_h0 : fs_18[8]? = some (.int 0) := by rw [efs_18, List.getElem?_set_ne (by decide)]; exact hf8_h0
  have hf9_h0 : fs_18[9]? = some (.int 0) := by rw [efs_18, List.getElem?_set_ne (by decide)]; exact hf9_h0
  have hf10_h0 : fs_18[10]? = some (.int 0) := by rw [efs_18, List.getElem?_set_ne (by decide)]; exact hf10_h0
  have hf11_h0 : fs_18[11]? = some (.int 0) := by rw [efs_18, List.getElem?_set_ne (by decide)]; exact hf11_h0
  have hf12_h0 : fs_18[12]? = some (.int 0) := by rw [efs_18, List.getElem?_set_ne (by decide)]; exact hf12_h0
  have hf13_h0 : fs_18[13]? = some (.int 0) := by rw [efs_18, List.getElem?_set_ne (by decide)]; exact hf13_h0
  have hf14_h0 : fs_18[14]? = some (.int 0) := by rw [efs_18, List.getElem?_set_ne (by decide)]; exact hf14_h0
  have hf0_h0 : fs_18[0]? = some (.ref q_1) := by rw [efs_18, List.getElem?_set_ne (by decide)]; exact hf0_h0
  have hf1_h0 : fs_18[1]? = some (.ref q_4) := by rw [efs_18, List.getElem?_set_ne (by decide)]; exact hf1_h0
  have hf3_h0 : fs_18[3]? = some (.ref q_10) := by rw [efs_18, List.getElem?_set_ne (by decide)]; exact hf3_h0
  have hlen_h0 : fs_18.length = 17 := by rw [efs_18, List.length_set]; exact hlen_h0
  have hK := hK.sub (tys' := [(cA_2, .object RX2), (cA_5, .object RX0), (cA_11, .int)]) [0, 1, 2] rfl
  have hP := hP.sub (ws' := [(h0, .inr (5, fs_18)), (q_1, .inl (cA_2, 8, .inr (.inr (.inr (.inr (fun _ => none)))))), (q_4, .inl (cA_5, 40, .inr (.inr (.inr (.inr (fun _ => none)))))), (q_10, .inl (cA_11, 100, .inl (fun _ => 0)))]) [0, 1, 2, 3] rfl
  have hD := hD.sub (ws' := [(h0, .inr (5, fs_18)), (q_1, .inl (cA_2, 8, .inr (.inr (.inr (.inr (fun _ => none)))))), (q_4, .inl (cA_5, 40, .inr (.inr (.inr (.inr (fun _ => none)))))), (q_10, .inl (cA_11, 100, .inl (fun _ => 0)))]) [0, 1, 2, 3] (by decide) rfl
  refine lv_aload_n hx hb dX5_init_58 rfl (lv_at hl 0 rfl) ?_
  refine lv_iconst (v := 4) hx hb dX5_init_59 (by decide) ?_
  refine va_newa (atype := .int) (N' := 4) (a0 := (4, .inl (fun _ => 0))) hx hb (hts _ wm_80) rfl hK hP hD hS hA (fun _ => rfl) (by decide) rfl (Nat.le_of_ble_eq_true rfl) (Nat.le_of_ble_eq_true rfl) (Nat.le_of_ble_eq_true rfl) dX5_init_60 (fun q_19 cA_20 H hK hP hD hS => ?_)
  have hK : va_K (dC, dI) vwCl [(cA_2, .object RX2), (cA_5, .object RX0), (cA_11, .int), (cA_20, .int)] s := hK
  have hP : va_P (dC, dI) vwCl [(h0, .inr (5, fs_18)), (q_1, .inl (cA_2, 8, .inr (.inr (.inr (.inr (fun _ => none)))))), (q_4, .inl (cA_5, 40, .inr (.inr (.inr (.inr (fun _ => none)))))), (q_10, .inl (cA_11, 100, .inl (fun _ => 0))), (q_19, .inl (cA_20, 4, .inl (fun _ => 0)))] H := hP
  have hD : va_D A [(h0, .inr (5, fs_18)), (q_1, .inl (cA_2, 8, .inr (.inr (.inr (.inr (fun _ => none)))))), (q_4, .inl (cA_5, 40, .inr (.inr (.inr (.inr (fun _ => none)))))), (q_10, .inl (cA_11, 100, .inl (fun _ => 0))), (q_19, .inl (cA_20, 4, .inl (fun _ => 0)))] := hD
  refine va_putF (D := (dC, dI)) (ci := 5) (v := .ref q_19) (ty := .array (.int)) (C := RX5) (T := TX5) (N := 17) hx hb hts uB5 tyX5 tyX5_ok nmX5 hown hK hP hD hS 0 rfl rfl 6 (by decide) (hts _ wm_160) (fun _ h9 => h9) rfl hin rfl (by decide +kernel) rfl rfl (by rw [hlen_h0]; decide) dX5_init_62 (fun H locs hP hD hS => ?_)
  obtain ⟨fs_21, efs_21⟩ : ∃ z9, z9 = (fs_18).set 6 (.ref q_19) := ⟨_, rfl⟩
  have hP : va_P (dC, dI) vwCl [(h0, .inr (5, fs_21)), (q_1, .inl (cA_2, 8, .inr (.inr (.inr (.inr (fun _ => none)))))), (q_4, .inl (cA_5, 40, .inr (.inr (.inr (.inr (fun _ => none)))))), (q_10, .inl (cA_11, 100, .inl (fun _ => 0))), (q_19, .inl (cA_20, 4, .inl (fun _ => 0)))] H := by rw [efs_21]; exact hP
  have hD : va_D A [(h0, .inr (5, fs_21)), (q_1, .inl (cA_2, 8, .inr (.inr (.inr (.inr (fun _ => none)))))), (q_4, .inl (cA_5, 40, .inr (.inr (.inr (.inr (fun _ => none)))))), (q_10, .inl (cA_11, 100, .inl (fun _ => 0))), (q_19, .inl (cA_20, 4, .inl (fun _ => 0)))] := by rw [efs_21]; exact hD
  have hf7_h0 : fs_21[7]? = some (.int 0) := by rw [efs_21, List.getElem?_set_ne (by decide)]; exact hf7_h0
  have hf8_h0 : fs_21[8]? = some (.int 0) := by rw [efs_21, List.getElem?_set_ne (by decide)]; exact hf8_h0
  have hf9_h0 : fs_21[9]? = some (.int 0) := by rw [efs_21, List.getElem?_set_ne (by decide)]; exact hf9_h0
  have hf10_h0 : fs_21[10]? = some (.int 0) := by rw [efs_21, List.getElem?_set_ne (by decide)]; exact hf10_h0
  have hf11_h0 : fs_21[11]? = some (.int 0) := by rw [efs_21, List.getElem?_set_ne (by decide)]; exact hf11_h0
  have hf12_h0 : fs_21[12]? = some (.int 0) := by rw [efs_21, List.getElem?_set_ne (by decide)]; exact hf12_h0
  have hf13_h0 : fs_21[13]? = some (.int 0) := by rw [efs_21, List.getElem?_set_ne (by decide)]; exact hf13_h0
  have hf14_h0 : fs_21[14]? = some (.int 0) := by rw [efs_21, List.getElem?_set_ne (by decide)]; exact hf14_h0
  have hf0_h0 : fs_21[0]? = some (.ref q_1) := by rw [efs_21, List.getElem?_set_ne (by decide)]; exact hf0_h0
  have hf1_h0 : fs_21[1]? = some (.ref q_4) := by rw [efs_21, List.getElem?_set_ne (by decide)]; exact hf1_h0
  have hf3_h0 : fs_21[3]? = some (.ref q_10) := by rw [efs_21, List.getElem?_set_ne (by decide)]; exact hf3_h0
  have hlen_h0 : fs_21.length = 17 := by rw [efs_21, List.length_set]; exact hlen_h0
  have hK := hK.sub (tys' := [(cA_2, .object RX2), (cA_5, .object RX0), (cA_11, .int)]) [0, 1, 2] rfl
  have hP := hP.sub (ws' := [(h0, .inr (5, fs_21)), (q_1, .inl (cA_2, 8, .inr (.inr (.inr (.inr (fun _ => none)))))), (q_4, .inl (cA_5, 40, .inr (.inr (.inr (.inr (fun _ => none)))))), (q_10, .inl (cA_11, 100, .inl (fun _ => 0)))]) [0, 1, 2, 3] rfl
  have hD := hD.sub (ws' := [(h0, .inr (5, fs_21)), (q_1, .inl (cA_2, 8, .inr (.inr (.inr (.inr (fun _ => none)))))), (q_4, .inl (cA_5, 40, .inr (.inr (.inr (.inr (fun _ => none)))))), (q_10, .inl (cA_11, 100, .inl (fun _ => 0)))]) [0, 1, 2, 3] (by decide) rfl
  refine lv_aload_n hx hb dX5_init_65 rfl (lv_at hl 0 rfl) ?_
  refine lv_bipush (v := 50) hx hb dX5_init_66 (by decide) ?_
  refine va_put (D := (dC, dI)) (ci := 5) (v := .int 50) (ty := .int) (C := RX5) (T := TX5) (N := 17) hx hb hts uB5 tyX5 tyX5_ok nmX5 hown hK hP hD hS 0 rfl rfl 15 (by decide) (hts _ wm_51) (fun _ h9 => h9) rfl (by decide +kernel) rfl rfl (by rw [hlen_h0]; decide) dX5_init_68 (fun H locs hP hD hS => ?_)
  obtain ⟨fs_22, efs_22⟩ : ∃ z9, z9 = (fs_21).set 15 (.int 50) := ⟨_, rfl⟩
  have hP : va_P (dC, dI) vwCl [(h0, .inr (5, fs_22)), (q_1, .inl (cA_2, 8, .inr (.inr (.inr (.inr (fun _ => none)))))), (q_4, .inl (cA_5, 40, .inr (.inr (.inr (.inr (fun _ => none)))))), (q_10, .inl (cA_11, 100, .inl (fun _ => 0)))] H := by rw [efs_22]; exact hP
  have hD : va_D A [(h0, .inr (5, fs_22)), (q_1, .inl (cA_2, 8, .inr (.inr (.inr (.inr (fun _ => none)))))), (q_4, .inl (cA_5, 40, .inr (.inr (.inr (.inr (fun _ => none)))))), (q_10, .inl (cA_11, 100, .inl (fun _ => 0)))] := by rw [efs_22]; exact hD
  have hf7_h0 : fs_22[7]? = some (.int 0) := by rw [efs_22, List.getElem?_set_ne (by decide)]; exact hf7_h0
  have hf8_h0 : fs_22[8]? = some (.int 0) := by rw [efs_22, List.getElem?_set_ne (by decide)]; exact hf8_h0
  have hf9_h0 : fs_22[9]? = some (.int 0) := by rw [efs_22, List.getElem?_set_ne (by decide)]; exact hf9_h0
  have hf10_h0 : fs_22[10]? = some (.int 0) := by rw [efs_22, List.getElem?_set_ne (by decide)]; exact hf10_h0
  have hf11_h0 : fs_22[11]? = some (.int 0) := by rw [efs_22, List.getElem?_set_ne (by decide)]; exact hf11_h0
  have hf12_h0 : fs_22[12]? = some (.int 0) := by rw [efs_22, List.getElem?_set_ne (by decide)]; exact hf12_h0
  have hf13_h0 : fs_22[13]? = some (.int 0) := by rw [efs_22, List.getElem?_set_ne (by decide)]; exact hf13_h0
  have hf14_h0 : fs_22[14]? = some (.int 0) := by rw [efs_22, List.getElem?_set_ne (by decide)]; exact hf14_h0
  have hf0_h0 : fs_22[0]? = some (.ref q_1) := by rw [efs_22, List.getElem?_set_ne (by decide)]; exact hf0_h0
  have hf1_h0 : fs_22[1]? = some (.ref q_4) := by rw [efs_22, List.getElem?_set_ne (by decide)]; exact hf1_h0
  have hf3_h0 : fs_22[3]? = some (.ref q_10) := by rw [efs_22, List.getElem?_set_ne (by decide)]; exact hf3_h0
  have hf15_h0 : fs_22[15]? = some (.int 50) := by rw [efs_22]; exact List.getElem?_set_self (by rw [hlen_h0]; decide)
  have hlen_h0 : fs_22.length = 17 := by rw [efs_22, List.length_set]; exact hlen_h0
  refine lv_aload_n hx hb dX5_init_71 rfl (lv_at hl 0 rfl) ?_
  refine lv_sipush (v := 10000) hx hb dX5_init_72 (by decide) ?_
  refine va_put (D := (dC, dI)) (ci := 5) (v := .int 10000) (ty := .int) (C := RX5) (T := TX5) (N := 17) hx hb hts uB5 tyX5 tyX5_ok nmX5 hown hK hP hD hS 0 rfl rfl 16 (by decide) (hts _ wm_58) (fun _ h9 => h9) rfl (by decide +kernel) rfl rfl (by rw [hlen_h0]; decide) dX5_init_75 (fun H locs hP hD hS => ?_)
  obtain ⟨fs_23, efs_23⟩ : ∃ z9, z9 = (fs_22).set 16 (.int 10000) := ⟨_, rfl⟩
  have hP : va_P (dC, dI) vwCl [(h0, .inr (5, fs_23)), (q_1, .inl (cA_2, 8, .inr (.inr (.inr (.inr (fun _ => none)))))), (q_4, .inl (cA_5, 40, .inr (.inr (.inr (.inr (fun _ => none)))))), (q_10, .inl (cA_11, 100, .inl (fun _ => 0)))] H := by rw [efs_23]; exact hP
  have hD : va_D A [(h0, .inr (5, fs_23)), (q_1, .inl (cA_2, 8, .inr (.inr (.inr (.inr (fun _ => none)))))), (q_4, .inl (cA_5, 40, .inr (.inr (.inr (.inr (fun _ => none)))))), (q_10, .inl (cA_11, 100, .inl (fun _ => 0)))] := by rw [efs_23]; exact hD
  have hf7_h0 : fs_23[7]? = some (.int 0) := by rw [efs_23, List.getElem?_set_ne (by decide)]; exact hf7_h0
  have hf8_h0 : fs_23[8]? = some (.int 0) := by rw [efs_23, List.getElem?_set_ne (by decide)]; exact hf8_h0
  have hf9_h0 : fs_23[9]? = some (.int 0) := by rw [efs_23, List.getElem?_set_ne (by decide)]; exact hf9_h0
  have hf10_h0 : fs_23[10]? = some (.int 0) := by rw [efs_23, List.getElem?_set_ne (by decide)]; exact hf10_h0
  have hf11_h0 : fs_23[11]? = some (.int 0) := by rw [efs_23, List.getElem?_set_ne (by decide)]; exact hf11_h0
  have hf12_h0 : fs_23[12]? = some (.int 0) := by rw [efs_23, List.getElem?_set_ne (by decide)]; exact hf12_h0
  have hf13_h0 : fs_23[13]? = some (.int 0) := by rw [efs_23, List.getElem?_set_ne (by decide)]; exact hf13_h0
  have hf14_h0 : fs_23[14]? = some (.int 0) := by rw [efs_23, List.getElem?_set_ne (by decide)]; exact hf14_h0
  have hf0_h0 : fs_23[0]? = some (.ref q_1) := by rw [efs_23, List.getElem?_set_ne (by decide)]; exact hf0_h0
  have hf1_h0 : fs_23[1]? = some (.ref q_4) := by rw [efs_23, List.getElem?_set_ne (by decide)]; exact hf1_h0
  have hf3_h0 : fs_23[3]? = some (.ref q_10) := by rw [efs_23, List.getElem?_set_ne (by decide)]; exact hf3_h0
  have hf15_h0 : fs_23[15]? = some (.int 50) := by rw [efs_23, List.getElem?_set_ne (by decide)]; exact hf15_h0
  have hf16_h0 : fs_23[16]? = some (.int 10000) := by rw [efs_23]; exact List.getElem?_set_self (by rw [hlen_h0]; decide)
  have hlen_h0 : fs_23.length = 17 := by rw [efs_23, List.length_set]; exact hlen_h0
  exact W.vret hx hb hr (fun t ht hW => ⟨⟨(fs_23, q_1, q_4, q_10, cA_2, cA_5, cA_11), rfl, ⟨hlen_h0, hf0_h0, hf1_h0, hf3_h0, hf7_h0, hf8_h0, hf9_h0, hf10_h0, hf11_h0, hf12_h0, hf13_h0, hf14_h0, hf15_h0, hf16_h0⟩, by show va_P (dC, dI) vwCl [(h0, .inr (5, fs_23)), (q_1, .inl (cA_2, 8, .inr (.inr (.inr (.inr (fun _ => none)))))), (q_4, .inl (cA_5, 40, .inr (.inr (.inr (.inr (fun _ => none)))))), (q_10, .inl (cA_11, 100, .inl (fun _ => 0)))] t.heap; rw [ht]; exact hP, va_K.moved hW.alike hK, hD⟩, hS.F ht⟩) hS.2.2 dX5_init_78
set_option maxHeartbeats 8000000 in
set_option maxRecDepth 100000 in
theorem n_M (l : Launch) (dC : Nat → ClassId) (dI : Nat → Nat → Nat) (sz : Nat) (h0 : Nat) (fs : List Value) (hf1_h0 : fs[1]? = some (.int 0)) (hf2_h0 : fs[2]? = some (.int 0)) (hf3_h0 : fs[3]? = some (.int 0)) (hf5_h0 : fs[5]? = some (.int 0)) (hf9_h0 : fs[9]? = some (.int 0)) (hf25_h0 : fs[25]? = some (.int 0)) (hlen_h0 : fs.length = 51) : mN (S := List Value × Nat × Nat × Nat × Nat × Nat × Nat × Nat × Nat × Nat × Nat × Nat × Nat × ClassId) l yX6_init cX6_init 1 1 38 11577 (dC, dI) h0 6 fs sz (fun _ => True) [.ref h0] (fun u => match u with | (f, q_places, q_sizes, q_marks, q_sort, q_pays, q_must, q_never, q_bid, q_cap, q_span, q_throttle, q_promised, _) => f.length = 51 ∧ f[6]? = some (.ref q_places) ∧ f[7]? = some (.ref q_sizes) ∧ f[8]? = some (.ref q_marks) ∧ f[10]? = some (.ref q_sort) ∧ f[11]? = some (.ref q_pays) ∧ f[12]? = some (.ref q_must) ∧ f[13]? = some (.ref q_never) ∧ f[14]? = some (.ref q_bid) ∧ f[17]? = some (.ref q_cap) ∧ f[18]? = some (.ref q_span) ∧ f[19]? = some (.ref q_throttle) ∧ f[22]? = some (.ref q_promised) ∧ f[1]? = some (.int 0) ∧ f[2]? = some (.int 0) ∧ f[3]? = some (.int 0) ∧ f[5]? = some (.int 0) ∧ f[9]? = some (.int 0) ∧ f[25]? = some (.int 0)) (fun u => match u with | (f, q_places, q_sizes, q_marks, q_sort, q_pays, q_must, q_never, q_bid, q_cap, q_span, q_throttle, q_promised, cI) => [(h0, .inr (6, f)), (q_places, .inl (cI, 8, .inl (fun _ => 0))), (q_sizes, .inl (cI, 32, .inl (fun _ => 0))), (q_marks, .inl (cI, 100, .inl (fun _ => 0))), (q_sort, .inl (cI, 40, .inl (fun _ => 0))), (q_pays, .inl (cI, 40, .inl (fun _ => 0))), (q_must, .inl (cI, 40, .inl (fun _ => 0))), (q_never, .inl (cI, 40, .inl (fun _ => 0))), (q_bid, .inl (cI, 40, .inl (fun _ => 0))), (q_cap, .inl (cI, 40, .inl (fun _ => 0))), (q_span, .inl (cI, 40, .inl (fun _ => 0))), (q_throttle, .inl (cI, 40, .inl (fun _ => 0))), (q_promised, .inl (cI, 40, .inl (fun _ => 0)))]) (fun u => match u with | (_, _, _, _, _, _, _, _, _, _, _, _, _, cI) => [(cI, .int)]) := by
  refine Met.ofW (cc := cX6_init) (maxL := 1) (ret := none) (by decide) rfl ?_
  intro p e s m args below meth c s₁ B hml hv
  obtain ⟨rfl, hsz, hP, hK, hD0, hex⟩ := hv
  subst hsz
  have hx := B.exec
  have hb := B.bytes
  have hr := B.returns
  have hlocks := B.notSynchronized
  have hts0 := atoms_spec (ws := Cond.code yX6_init cX6_init 1 none :: lw_B) B.pre
  have hts : ∀ w ∈ lw_B, w.before _ s = true := fun w h => hts0 w (List.mem_cons_of_mem _ h)
  have hown : s.vm.findClass RX6 = some m.cls := findClass_of_methodNamed B.named
  have hin : meth.name = "<init>" := (name_of_methodNamed B.named B.method).1
  have hD := hD0.self (sz := s.heap.size)
  generalize hAe : va_A [(h0, .inr (6, fs))] s.heap.size = A at hD ⊢
  have hA : ∀ q : Nat, s.heap.size ≤ q → A q := fun q h => by rw [← hAe]; exact Or.inr h
  have hS : va_S A s.heap s.heap [] := va_S.rf
  have hl := lv_entry ([.ref h0]) (n := 1) (Nat.le_of_ble_eq_true rfl)
  rw [lg_entry_eq]
  generalize (lg_sl ([.ref h0]) ++ List.replicate (1 - (lg_sl ([.ref h0])).length) Slot.unset).toArray = ls at hl ⊢
  have hl : lv_has ls 1 [(0, .ref h0)] := hl
  refine lv_aload_n hx hb dX6_init_0 rfl (lv_at hl 0 rfl) ?_
  refine W.objInit hx hb hown (hts _ wm_161) (hts _ wm_78) (hts _ wm_79) rfl (by rw [hml]; exact hl.1) rfl dX6_init_1 (Nat.le_of_ble_eq_true rfl) (Nat.le_of_ble_eq_true rfl) ?_
  refine W.eq (g2 := F0 m 4 ls []) rfl ?_
  refine lv_aload_n hx hb dX6_init_4 rfl (lv_at hl 0 rfl) ?_
  refine lv_bipush (v := 50) hx hb dX6_init_5 (by decide) ?_
  refine va_put (D := (dC, dI)) (ci := 6) (v := .int 50) (ty := .int) (C := RX6) (T := TX6) (N := 51) hx hb hts uB6 tyX6 tyX6_ok nmX6 hown hK hP hD hS 0 rfl rfl 4 (by decide) (hts _ wm_53) (fun _ h9 => h9) rfl (by decide +kernel) rfl rfl (by rw [hlen_h0]; decide) dX6_init_7 (fun H locs hP hD hS => ?_)
  obtain ⟨fs_1, efs_1⟩ : ∃ z9, z9 = (fs).set 4 (.int 50) := ⟨_, rfl⟩
  have hP : va_P (dC, dI) vwCl [(h0, .inr (6, fs_1))] H := by rw [efs_1]; exact hP
  have hD : va_D A [(h0, .inr (6, fs_1))] := by rw [efs_1]; exact hD
  have hf1_h0 : fs_1[1]? = some (.int 0) := by rw [efs_1, List.getElem?_set_ne (by decide)]; exact hf1_h0
  have hf2_h0 : fs_1[2]? = some (.int 0) := by rw [efs_1, List.getElem?_set_ne (by decide)]; exact hf2_h0
  have hf3_h0 : fs_1[3]? = some (.int 0) := by rw [efs_1, List.getElem?_set_ne (by decide)]; exact hf3_h0
  have hf5_h0 : fs_1[5]? = some (.int 0) := by rw [efs_1, List.getElem?_set_ne (by decide)]; exact hf5_h0
  have hf9_h0 : fs_1[9]? = some (.int 0) := by rw [efs_1, List.getElem?_set_ne (by decide)]; exact hf9_h0
  have hf25_h0 : fs_1[25]? = some (.int 0) := by rw [efs_1, List.getElem?_set_ne (by decide)]; exact hf25_h0
  have hlen_h0 : fs_1.length = 51 := by rw [efs_1, List.length_set]; exact hlen_h0
  refine lv_aload_n hx hb dX6_init_10 rfl (lv_at hl 0 rfl) ?_
  refine lv_bipush (v := 8) hx hb dX6_init_11 (by decide) ?_
  refine va_newa (atype := .int) (N' := 8) (a0 := (8, .inl (fun _ => 0))) hx hb (hts _ wm_80) rfl hK hP hD hS hA (fun _ => rfl) (by decide) rfl (Nat.le_of_ble_eq_true rfl) (Nat.le_of_ble_eq_true rfl) (Nat.le_of_ble_eq_true rfl) dX6_init_13 (fun q_2 cA_3 H hK hP hD hS => ?_)
  have hK : va_K (dC, dI) vwCl [(cA_3, .int)] s := hK
  have hP : va_P (dC, dI) vwCl [(h0, .inr (6, fs_1)), (q_2, .inl (cA_3, 8, .inl (fun _ => 0)))] H := hP
  have hD : va_D A [(h0, .inr (6, fs_1)), (q_2, .inl (cA_3, 8, .inl (fun _ => 0)))] := hD
  refine va_putF (D := (dC, dI)) (ci := 6) (v := .ref q_2) (ty := .array (.int)) (C := RX6) (T := TX6) (N := 51) hx hb hts uB6 tyX6 tyX6_ok nmX6 hown hK hP hD hS 0 rfl rfl 6 (by decide) (hts _ wm_139) (fun _ h9 => h9) rfl hin rfl (by decide +kernel) rfl rfl (by rw [hlen_h0]; decide) dX6_init_15 (fun H locs hP hD hS => ?_)
  obtain ⟨fs_4, efs_4⟩ : ∃ z9, z9 = (fs_1).set 6 (.ref q_2) := ⟨_, rfl⟩
  have hP : va_P (dC, dI) vwCl [(h0, .inr (6, fs_4)), (q_2, .inl (cA_3, 8, .inl (fun _ => 0)))] H := by rw [efs_4]; exact hP
  have hD : va_D A [(h0, .inr (6, fs_4)), (q_2, .inl (cA_3, 8, .inl (fun _ => 0)))] := by rw [efs_4]; exact hD
  have hf1_h0 : fs_4[1]? = some (.int 0) := by rw [efs_4, List.getElem?_set_ne (by decide)]; exact hf1_h0
  have hf2_h0 : fs_4[2]? = some (.int 0) := by rw [efs_4, List.getElem?_set_ne (by decide)]; exact hf2_h0
  have hf3_h0 : fs_4[3]? = some (.int 0) := by rw [efs_4, List.getElem?_set_ne (by decide)]; exact hf3_h0
  have hf5_h0 : fs_4[5]? = some (.int 0) := by rw [efs_4, List.getElem?_set_ne (by decide)]; exact hf5_h0
  have hf9_h0 : fs_4[9]? = some (.int 0) := by rw [efs_4, List.getElem?_set_ne (by decide)]; exact hf9_h0
  have hf25_h0 : fs_4[25]? = some (.int 0) := by rw [efs_4, List.getElem?_set_ne (by decide)]; exact hf25_h0
  have hf6_h0 : fs_4[6]? = some (.ref q_2) := by rw [efs_4]; exact List.getElem?_set_self (by rw [hlen_h0]; decide)
  have hlen_h0 : fs_4.length = 51 := by rw [efs_4, List.length_set]; exact hlen_h0
  refine lv_aload_n hx hb dX6_init_18 rfl (lv_at hl 0 rfl) ?_
  refine lv_bipush (v := 32) hx hb dX6_init_19 (by decide) ?_
  refine va_newa (atype := .int) (N' := 32) (a0 := (32, .inl (fun _ => 0))) hx hb (hts _ wm_80) rfl hK hP hD hS hA (fun _ => rfl) (by decide) rfl (Nat.le_of_ble_eq_true rfl) (Nat.le_of_ble_eq_true rfl) (Nat.le_of_ble_eq_true rfl) dX6_init_21 (fun q_5 cA_6 H hK hP hD hS => ?_)
  have hK : va_K (dC, dI) vwCl [(cA_3, .int), (cA_6, .int)] s := hK
  have hP : va_P (dC, dI) vwCl [(h0, .inr (6, fs_4)), (q_2, .inl (cA_3, 8, .inl (fun _ => 0))), (q_5, .inl (cA_6, 32, .inl (fun _ => 0)))] H := hP
  have hD : va_D A [(h0, .inr (6, fs_4)), (q_2, .inl (cA_3, 8, .inl (fun _ => 0))), (q_5, .inl (cA_6, 32, .inl (fun _ => 0)))] := hD
  refine va_putF (D := (dC, dI)) (ci := 6) (v := .ref q_5) (ty := .array (.int)) (C := RX6) (T := TX6) (N := 51) hx hb hts uB6 tyX6 tyX6_ok nmX6 hown hK hP hD hS 0 rfl rfl 7 (by decide) (hts _ wm_140) (fun _ h9 => h9) rfl hin rfl (by decide +kernel) rfl rfl (by rw [hlen_h0]; decide) dX6_init_23 (fun H locs hP hD hS => ?_)
  obtain ⟨fs_7, efs_7⟩ : ∃ z9, z9 = (fs_4).set 7 (.ref q_5) := ⟨_, rfl⟩
  have hP : va_P (dC, dI) vwCl [(h0, .inr (6, fs_7)), (q_2, .inl (cA_3, 8, .inl (fun _ => 0))), (q_5, .inl (cA_6, 32, .inl (fun _ => 0)))] H := by rw [efs_7]; exact hP
  have hD : va_D A [(h0, .inr (6, fs_7)), (q_2, .inl (cA_3, 8, .inl (fun _ => 0))), (q_5, .inl (cA_6, 32, .inl (fun _ => 0)))] := by rw [efs_7]; exact hD
  have hf1_h0 : fs_7[1]? = some (.int 0) := by rw [efs_7, List.getElem?_set_ne (by decide)]; exact hf1_h0
  have hf2_h0 : fs_7[2]? = some (.int 0) := by rw [efs_7, List.getElem?_set_ne (by decide)]; exact hf2_h0
  have hf3_h0 : fs_7[3]? = some (.int 0) := by rw [efs_7, List.getElem?_set_ne (by decide)]; exact hf3_h0
  have hf5_h0 : fs_7[5]? = some (.int 0) := by rw [efs_7, List.getElem?_set_ne (by decide)]; exact hf5_h0
  have hf9_h0 : fs_7[9]? = some (.int 0) := by rw [efs_7, List.getElem?_set_ne (by decide)]; exact hf9_h0
  have hf25_h0 : fs_7[25]? = some (.int 0) := by rw [efs_7, List.getElem?_set_ne (by decide)]; exact hf25_h0
  have hf6_h0 : fs_7[6]? = some (.ref q_2) := by rw [efs_7, List.getElem?_set_ne (by decide)]; exact hf6_h0
  have hf7_h0 : fs_7[7]? = some (.ref q_5) := by rw [efs_7]; exact List.getElem?_set_self (by rw [hlen_h0]; decide)
  have hlen_h0 : fs_7.length = 51 := by rw [efs_7, List.length_set]; exact hlen_h0
  obtain rfl : cA_3 = cA_6 := (k_same hK (i := 0) (j := 1) rfl rfl).symm
  have hK := hK.sub (tys' := [(cA_3, .int)]) [0] rfl
  refine lv_aload_n hx hb dX6_init_26 rfl (lv_at hl 0 rfl) ?_
  refine lv_bipush (v := 100) hx hb dX6_init_27 (by decide) ?_
  refine va_newa (atype := .int) (N' := 100) (a0 := (100, .inl (fun _ => 0))) hx hb (hts _ wm_80) rfl hK hP hD hS hA (fun _ => rfl) (by decide) rfl (Nat.le_of_ble_eq_true rfl) (Nat.le_of_ble_eq_true rfl) (Nat.le_of_ble_eq_true rfl) dX6_init_29 (fun q_8 cA_9 H hK hP hD hS => ?_)
  have hK : va_K (dC, dI) vwCl [(cA_3, .int), (cA_9, .int)] s := hK
  have hP : va_P (dC, dI) vwCl [(h0, .inr (6, fs_7)), (q_2, .inl (cA_3, 8, .inl (fun _ => 0))), (q_5, .inl (cA_3, 32, .inl (fun _ => 0))), (q_8, .inl (cA_9, 100, .inl (fun _ => 0)))] H := hP
  have hD : va_D A [(h0, .inr (6, fs_7)), (q_2, .inl (cA_3, 8, .inl (fun _ => 0))), (q_5, .inl (cA_3, 32, .inl (fun _ => 0))), (q_8, .inl (cA_9, 100, .inl (fun _ => 0)))] := hD
  refine va_putF (D := (dC, dI)) (ci := 6) (v := .ref q_8) (ty := .array (.int)) (C := RX6) (T := TX6) (N := 51) hx hb hts uB6 tyX6 tyX6_ok nmX6 hown hK hP hD hS 0 rfl rfl 8 (by decide) (hts _ wm_76) (fun _ h9 => h9) rfl hin rfl (by decide +kernel) rfl rfl (by rw [hlen_h0]; decide) dX6_init_31 (fun H locs hP hD hS => ?_)
  obtain ⟨fs_10, efs_10⟩ : ∃ z9, z9 = (fs_7).set 8 (.ref q_8) := ⟨_, rfl⟩
  have hP : va_P (dC, dI) vwCl [(h0, .inr (6, fs_10)), (q_2, .inl (cA_3, 8, .inl (fun _ => 0))), (q_5, .inl (cA_3, 32, .inl (fun _ => 0))), (q_8, .inl (cA_9, 100, .inl (fun _ => 0)))] H := by rw [efs_10]; exact hP
  have hD : va_D A [(h0, .inr (6, fs_10)), (q_2, .inl (cA_3, 8, .inl (fun _ => 0))), (q_5, .inl (cA_3, 32, .inl (fun _ => 0))), (q_8, .inl (cA_9, 100, .inl (fun _ => 0)))] := by rw [efs_10]; exact hD
  have hf1_h0 : fs_10[1]? = some (.int 0) := by rw [efs_10, List.getElem?_set_ne (by decide)]; exact hf1_h0
  have hf2_h0 : fs_10[2]? = some (.int 0) := by rw [efs_10, List.getElem?_set_ne (by decide)]; exact hf2_h0
  have hf3_h0 : fs_10[3]? = some (.int 0) := by rw [efs_10, List.getElem?_set_ne (by decide)]; exact hf3_h0
  have hf5_h0 : fs_10[5]? = some (.int 0) := by rw [efs_10, List.getElem?_set_ne (by decide)]; exact hf5_h0
  have hf9_h0 : fs_10[9]? = some (.int 0) := by rw [efs_10, List.getElem?_set_ne (by decide)]; exact hf9_h0
  have hf25_h0 : fs_10[25]? = some (.int 0) := by rw [efs_10, List.getElem?_set_ne (by decide)]; exact hf25_h0
  have hf6_h0 : fs_10[6]? = some (.ref q_2) := by rw [efs_10, List.getElem?_set_ne (by decide)]; exact hf6_h0
  have hf7_h0 : fs_10[7]? = some (.ref q_5) := by rw [efs_10, List.getElem?_set_ne (by decide)]; exact hf7_h0
  have hf8_h0 : fs_10[8]? = some (.ref q_8) := by rw [efs_10]; exact List.getElem?_set_self (by rw [hlen_h0]; decide)
  have hlen_h0 : fs_10.length = 51 := by rw [efs_10, List.length_set]; exact hlen_h0
  obtain rfl : cA_3 = cA_9 := (k_same hK (i := 0) (j := 1) rfl rfl).symm
  have hK := hK.sub (tys' := [(cA_3, .int)]) [0] rfl
  refine lv_aload_n hx hb dX6_init_34 rfl (lv_at hl 0 rfl) ?_
  refine lv_bipush (v := 40) hx hb dX6_init_35 (by decide) ?_
  refine va_newa (atype := .int) (N' := 40) (a0 := (40, .inl (fun _ => 0))) hx hb (hts _ wm_80) rfl hK hP hD hS hA (fun _ => rfl) (by decide) rfl (Nat.le_of_ble_eq_true rfl) (Nat.le_of_ble_eq_true rfl) (Nat.le_of_ble_eq_true rfl) dX6_init_37 (fun q_11 cA_12 H hK hP hD hS => ?_)
  have hK : va_K (dC, dI) vwCl [(cA_3, .int), (cA_12, .int)] s := hK
  have hP : va_P (dC, dI) vwCl [(h0, .inr (6, fs_10)), (q_2, .inl (cA_3, 8, .inl (fun _ => 0))), (q_5, .inl (cA_3, 32, .inl (fun _ => 0))), (q_8, .inl (cA_3, 100, .inl (fun _ => 0))), (q_11, .inl (cA_12, 40, .inl (fun _ => 0)))] H := hP
  have hD : va_D A [(h0, .inr (6, fs_10)), (q_2, .inl (cA_3, 8, .inl (fun _ => 0))), (q_5, .inl (cA_3, 32, .inl (fun _ => 0))), (q_8, .inl (cA_3, 100, .inl (fun _ => 0))), (q_11, .inl (cA_12, 40, .inl (fun _ => 0)))] := hD
  refine va_putF (D := (dC, dI)) (ci := 6) (v := .ref q_11) (ty := .array (.int)) (C := RX6) (T := TX6) (N := 51) hx hb hts uB6 tyX6 tyX6_ok nmX6 hown hK hP hD hS 0 rfl rfl 10 (by decide) (hts _ wm_130) (fun _ h9 => h9) rfl hin rfl (by decide +kernel) rfl rfl (by rw [hlen_h0]; decide) dX6_init_39 (fun H locs hP hD hS => ?_)
  obtain ⟨fs_13, efs_13⟩ : ∃ z9, z9 = (fs_10).set 10 (.ref q_11) := ⟨_, rfl⟩
  have hP : va_P (dC, dI) vwCl [(h0, .inr (6, fs_13)), (q_2, .inl (cA_3, 8, .inl (fun _ => 0))), (q_5, .inl (cA_3, 32, .inl (fun _ => 0))), (q_8, .inl (cA_3, 100, .inl (fun _ => 0))), (q_11, .inl (cA_12, 40, .inl (fun _ => 0)))] H := by rw [efs_13]; exact hP
  have hD : va_D A [(h0, .inr (6, fs_13)), (q_2, .inl (cA_3, 8, .inl (fun _ => 0))), (q_5, .inl (cA_3, 32, .inl (fun _ => 0))), (q_8, .inl (cA_3, 100, .inl (fun _ => 0))), (q_11, .inl (cA_12, 40, .inl (fun _ => 0)))] := by rw [efs_13]; exact hD
  have hf1_h0 : fs_13[1]? = some (.int 0) := by rw [efs_13, List.getElem?_set_ne (by decide)]; exact hf1_h0
  have hf2_h0 : fs_13[2]? = some (.int 0) := by rw [efs_13, List.getElem?_set_ne (by decide)]; exact hf2_h0
  have hf3_h0 : fs_13[3]? = some (.int 0) := by rw [efs_13, List.getElem?_set_ne (by decide)]; exact hf3_h0
  have hf5_h0 : fs_13[5]? = some (.int 0) := by rw [efs_13, List.getElem?_set_ne (by decide)]; exact hf5_h0
  have hf9_h0 : fs_13[9]? = some (.int 0) := by rw [efs_13, List.getElem?_set_ne (by decide)]; exact hf9_h0
  have hf25_h0 : fs_13[25]? = some (.int 0) := by rw [efs_13, List.getElem?_set_ne (by decide)]; exact hf25_h0
  have hf6_h0 : fs_13[6]? = some (.ref q_2) := by rw [efs_13, List.getElem?_set_ne (by decide)]; exact hf6_h0
  have hf7_h0 : fs_13[7]? = some (.ref q_5) := by rw [efs_13, List.getElem?_set_ne (by decide)]; exact hf7_h0
  have hf8_h0 : fs_13[8]? = some (.ref q_8) := by rw [efs_13, List.getElem?_set_ne (by decide)]; exact hf8_h0
  have hf10_h0 : fs_13[10]? = some (.ref q_11) := by rw [efs_13]; exact List.getElem?_set_self (by rw [hlen_h0]; decide)
  have hlen_h0 : fs_13.length = 51 := by rw [efs_13, List.length_set]; exact hlen_h0
  obtain rfl : cA_3 = cA_12 := (k_same hK (i := 0) (j := 1) rfl rfl).symm
  have hK := hK.sub (tys' := [(cA_3, .int)]) [0] rfl
  refine lv_aload_n hx hb dX6_init_42 rfl (lv_at hl 0 rfl) ?_
  refine lv_bipush (v := 40) hx hb dX6_init_43 (by decide) ?_
  refine va_newa (atype := .int) (N' := 40) (a0 := (40, .inl (fun _ => 0))) hx hb (hts _ wm_80) rfl hK hP hD hS hA (fun _ => rfl) (by decide) rfl (Nat.le_of_ble_eq_true rfl) (Nat.le_of_ble_eq_true rfl) (Nat.le_of_ble_eq_true rfl) dX6_init_45 (fun q_14 cA_15 H hK hP hD hS => ?_)
  have hK : va_K (dC, dI) vwCl [(cA_3, .int), (cA_15, .int)] s := hK
  have hP : va_P (dC, dI) vwCl [(h0, .inr (6, fs_13)), (q_2, .inl (cA_3, 8, .inl (fun _ => 0))), (q_5, .inl (cA_3, 32, .inl (fun _ => 0))), (q_8, .inl (cA_3, 100, .inl (fun _ => 0))), (q_11, .inl (cA_3, 40, .inl (fun _ => 0))), (q_14, .inl (cA_15, 40, .inl (fun _ => 0)))] H := hP
  have hD : va_D A [(h0, .inr (6, fs_13)), (q_2, .inl (cA_3, 8, .inl (fun _ => 0))), (q_5, .inl (cA_3, 32, .inl (fun _ => 0))), (q_8, .inl (cA_3, 100, .inl (fun _ => 0))), (q_11, .inl (cA_3, 40, .inl (fun _ => 0))), (q_14, .inl (cA_15, 40, .inl (fun _ => 0)))] := hD
  refine va_putF (D := (dC, dI)) (ci := 6) (v := .ref q_14) (ty := .array (.int)) (C := RX6) (T := TX6) (N := 51) hx hb hts uB6 tyX6 tyX6_ok nmX6 hown hK hP hD hS 0 rfl rfl 11 (by decide) (hts _ wm_131) (fun _ h9 => h9) rfl hin rfl (by decide +kernel) rfl rfl (by rw [hlen_h0]; decide) dX6_init_47 (fun H locs hP hD hS => ?_)
  obtain ⟨fs_16, efs_16⟩ : ∃ z9, z9 = (fs_13).set 11 (.ref q_14) := ⟨_, rfl⟩
  have hP : va_P (dC, dI) vwCl [(h0, .inr (6, fs_16)), (q_2, .inl (cA_3, 8, .inl (fun _ => 0))), (q_5, .inl (cA_3, 32, .inl (fun _ => 0))), (q_8, .inl (cA_3, 100, .inl (fun _ => 0))), (q_11, .inl (cA_3, 40, .inl (fun _ => 0))), (q_14, .inl (cA_15, 40, .inl (fun _ => 0)))] H := by rw [efs_16]; exact hP
  have hD : va_D A [(h0, .inr (6, fs_16)), (q_2, .inl (cA_3, 8, .inl (fun _ => 0))), (q_5, .inl (cA_3, 32, .inl (fun _ => 0))), (q_8, .inl (cA_3, 100, .inl (fun _ => 0))), (q_11, .inl (cA_3, 40, .inl (fun _ => 0))), (q_14, .inl (cA_15, 40, .inl (fun _ => 0)))] := by rw [efs_16]; exact hD
  have hf1_h0 : fs_16[1]? = some (.int 0) := by rw [efs_16, List.getElem?_set_ne (by decide)]; exact hf1_h0
  have hf2_h0 : fs_16[2]? = some (.int 0) := by rw [efs_16, List.getElem?_set_ne (by decide)]; exact hf2_h0
  have hf3_h0 : fs_16[3]? = some (.int 0) := by rw [efs_16, List.getElem?_set_ne (by decide)]; exact hf3_h0
  have hf5_h0 : fs_16[5]? = some (.int 0) := by rw [efs_16, List.getElem?_set_ne (by decide)]; exact hf5_h0
  have hf9_h0 : fs_16[9]? = some (.int 0) := by rw [efs_16, List.getElem?_set_ne (by decide)]; exact hf9_h0
  have hf25_h0 : fs_16[25]? = some (.int 0) := by rw [efs_16, List.getElem?_set_ne (by decide)]; exact hf25_h0
  have hf6_h0 : fs_16[6]? = some (.ref q_2) := by rw [efs_16, List.getElem?_set_ne (by decide)]; exact hf6_h0
  have hf7_h0 : fs_16[7]? = some (.ref q_5) := by rw [efs_16, List.getElem?_set_ne (by decide)]; exact hf7_h0
  have hf8_h0 : fs_16[8]? = some (.ref q_8) := by rw [efs_16, List.getElem?_set_ne (by decide)]; exact hf8_h0
  have hf10_h0 : fs_16[10]? = some (.ref q_11) := by rw [efs_16, List.getElem?_set_ne (by decide)]; exact hf10_h0
  have hf11_h0 : fs_16[11]? = some (.ref q_14) := by rw [efs_16]; exact List.getElem?_set_self (by rw [hlen_h0]; decide)
  have hlen_h0 : fs_16.length = 51 := by rw [efs_16, List.length_set]; exact hlen_h0
  obtain rfl : cA_3 = cA_15 := (k_same hK (i := 0) (j := 1) rfl rfl).symm
  have hK := hK.sub (tys' := [(cA_3, .int)]) [0] rfl
  refine lv_aload_n hx hb dX6_init_50 rfl (lv_at hl 0 rfl) ?_
  refine lv_bipush (v := 40) hx hb dX6_init_51 (by decide) ?_
  refine va_newa (atype := .int) (N' := 40) (a0 := (40, .inl (fun _ => 0))) hx hb (hts _ wm_80) rfl hK hP hD hS hA (fun _ => rfl) (by decide) rfl (Nat.le_of_ble_eq_true rfl) (Nat.le_of_ble_eq_true rfl) (Nat.le_of_ble_eq_true rfl) dX6_init_53 (fun q_17 cA_18 H hK hP hD hS => ?_)
  have hK : va_K (dC, dI) vwCl [(cA_3, .int), (cA_18, .int)] s := hK
  have hP : va_P (dC, dI) vwCl [(h0, .inr (6, fs_16)), (q_2, .inl (cA_3, 8, .inl (fun _ => 0))), (q_5, .inl (cA_3, 32, .inl (fun _ => 0))), (q_8, .inl (cA_3, 100, .inl (fun _ => 0))), (q_11, .inl (cA_3, 40, .inl (fun _ => 0))), (q_14, .inl (cA_3, 40, .inl (fun _ => 0))), (q_17, .inl (cA_18, 40, .inl (fun _ => 0)))] H := hP
  have hD : va_D A [(h0, .inr (6, fs_16)), (q_2, .inl (cA_3, 8, .inl (fun _ => 0))), (q_5, .inl (cA_3, 32, .inl (fun _ => 0))), (q_8, .inl (cA_3, 100, .inl (fun _ => 0))), (q_11, .inl (cA_3, 40, .inl (fun _ => 0))), (q_14, .inl (cA_3, 40, .inl (fun _ => 0))), (q_17, .inl (cA_18, 40, .inl (fun _ => 0)))] := hD
  refine va_putF (D := (dC, dI)) (ci := 6) (v := .ref q_17) (ty := .array (.int)) (C := RX6) (T := TX6) (N := 51) hx hb hts uB6 tyX6 tyX6_ok nmX6 hown hK hP hD hS 0 rfl rfl 12 (by decide) (hts _ wm_132) (fun _ h9 => h9) rfl hin rfl (by decide +kernel) rfl rfl (by rw [hlen_h0]; decide) dX6_init_55 (fun H locs hP hD hS => ?_)
  obtain ⟨fs_19, efs_19⟩ : ∃ z9, z9 = (fs_16).set 12 (.ref q_17) := ⟨_, rfl⟩
  have hP : va_P (dC, dI) vwCl [(h0, .inr (6, fs_19)), (q_2, .inl (cA_3, 8, .inl (fun _ => 0))), (q_5, .inl (cA_3, 32, .inl (fun _ => 0))), (q_8, .inl (cA_3, 100, .inl (fun _ => 0))), (q_11, .inl (cA_3, 40, .inl (fun _ => 0))), (q_14, .inl (cA_3, 40, .inl (fun _ => 0))), (q_17, .inl (cA_18, 40, .inl (fun _ => 0)))] H := by rw [efs_19]; exact hP
  have hD : va_D A [(h0, .inr (6, fs_19)), (q_2, .inl (cA_3, 8, .inl (fun _ => 0))), (q_5, .inl (cA_3, 32, .inl (fun _ => 0))), (q_8, .inl (cA_3, 100, .inl (fun _ => 0))), (q_11, .inl (cA_3, 40, .inl (fun _ => 0))), (q_14, .inl (cA_3, 40, .inl (fun _ => 0))), (q_17, .inl (cA_18, 40, .inl (fun _ => 0)))] := by rw [efs_19]; exact hD
  have hf1_h0 : fs_19[1]? = some (.int 0) := by rw [efs_19, List.getElem?_set_ne (by decide)]; exact hf1_h0
  have hf2_h0 : fs_19[2]? = some (.int 0) := by rw [efs_19, List.getElem?_set_ne (by decide)]; exact hf2_h0
  have hf3_h0 : fs_19[3]? = some (.int 0) := by rw [efs_19, List.getElem?_set_ne (by decide)]; exact hf3_h0
  have hf5_h0 : fs_19[5]? = some (.int 0) := by rw [efs_19, List.getElem?_set_ne (by decide)]; exact hf5_h0
  have hf9_h0 : fs_19[9]? = some (.int 0) := by rw [efs_19, List.getElem?_set_ne (by decide)]; exact hf9_h0
  have hf25_h0 : fs_19[25]? = some (.int 0) := by rw [efs_19, List.getElem?_set_ne (by decide)]; exact hf25_h0
  have hf6_h0 : fs_19[6]? = some (.ref q_2) := by rw [efs_19, List.getElem?_set_ne (by decide)]; exact hf6_h0
  have hf7_h0 : fs_19[7]? = some (.ref q_5) := by rw [efs_19, List.getElem?_set_ne (by decide)]; exact hf7_h0
  have hf8_h0 : fs_19[8]? = some (.ref q_8) := by rw [efs_19, List.getElem?_set_ne (by decide)]; exact hf8_h0
  have hf10_h0 : fs_19[10]? = some (.ref q_11) := by rw [efs_19, List.getElem?_set_ne (by decide)]; exact hf10_h0
  have hf11_h0 : fs_19[11]? = some (.ref q_14) := by rw [efs_19, List.getElem?_set_ne (by decide)]; exact hf11_h0
  have hf12_h0 : fs_19[12]? = some (.ref q_17) := by rw [efs_19]; exact List.getElem?_set_self (by rw [hlen_h0]; decide)
  have hlen_h0 : fs_19.length = 51 := by rw [efs_19, List.length_set]; exact hlen_h0
  obtain rfl : cA_3 = cA_18 := (k_same hK (i := 0) (j := 1) rfl rfl).symm
  have hK := hK.sub (tys' := [(cA_3, .int)]) [0] rfl
  refine lv_aload_n hx hb dX6_init_58 rfl (lv_at hl 0 rfl) ?_
  refine lv_bipush (v := 40) hx hb dX6_init_59 (by decide) ?_
  refine va_newa (atype := .int) (N' := 40) (a0 := (40, .inl (fun _ => 0))) hx hb (hts _ wm_80) rfl hK hP hD hS hA (fun _ => rfl) (by decide) rfl (Nat.le_of_ble_eq_true rfl) (Nat.le_of_ble_eq_true rfl) (Nat.le_of_ble_eq_true rfl) dX6_init_61 (fun q_20 cA_21 H hK hP hD hS => ?_)
  have hK : va_K (dC, dI) vwCl [(cA_3, .int), (cA_21, .int)] s := hK
  have hP : va_P (dC, dI) vwCl [(h0, .inr (6, fs_19)), (q_2, .inl (cA_3, 8, .inl (fun _ => 0))), (q_5, .inl (cA_3, 32, .inl (fun _ => 0))), (q_8, .inl (cA_3, 100, .inl (fun _ => 0))), (q_11, .inl (cA_3, 40, .inl (fun _ => 0))), (q_14, .inl (cA_3, 40, .inl (fun _ => 0))), (q_17, .inl (cA_3, 40, .inl (fun _ => 0))), (q_20, .inl (cA_21, 40, .inl (fun _ => 0)))] H := hP
  have hD : va_D A [(h0, .inr (6, fs_19)), (q_2, .inl (cA_3, 8, .inl (fun _ => 0))), (q_5, .inl (cA_3, 32, .inl (fun _ => 0))), (q_8, .inl (cA_3, 100, .inl (fun _ => 0))), (q_11, .inl (cA_3, 40, .inl (fun _ => 0))), (q_14, .inl (cA_3, 40, .inl (fun _ => 0))), (q_17, .inl (cA_3, 40, .inl (fun _ => 0))), (q_20, .inl (cA_21, 40, .inl (fun _ => 0)))] := hD
  refine va_putF (D := (dC, dI)) (ci := 6) (v := .ref q_20) (ty := .array (.int)) (C := RX6) (T := TX6) (N := 51) hx hb hts uB6 tyX6 tyX6_ok nmX6 hown hK hP hD hS 0 rfl rfl 13 (by decide) (hts _ wm_133) (fun _ h9 => h9) rfl hin rfl (by decide +kernel) rfl rfl (by rw [hlen_h0]; decide) dX6_init_63 (fun H locs hP hD hS => ?_)
  obtain ⟨fs_22, efs_22⟩ : ∃ z9, z9 = (fs_19).set 13 (.ref q_20) := ⟨_, rfl⟩
  have hP : va_P (dC, dI) vwCl [(h0, .inr (6, fs_22)), (q_2, .inl (cA_3, 8, .inl (fun _ => 0))), (q_5, .inl (cA_3, 32, .inl (fun _ => 0))), (q_8, .inl (cA_3, 100, .inl (fun _ => 0))), (q_11, .inl (cA_3, 40, .inl (fun _ => 0))), (q_14, .inl (cA_3, 40, .inl (fun _ => 0))), (q_17, .inl (cA_3, 40, .inl (fun _ => 0))), (q_20, .inl (cA_21, 40, .inl (fun _ => 0)))] H := by rw [efs_22]; exact hP
  have hD : va_D A [(h0, .inr (6, fs_22)), (q_2, .inl (cA_3, 8, .inl (fun _ => 0))), (q_5, .inl (cA_3, 32, .inl (fun _ => 0))), (q_8, .inl (cA_3, 100, .inl (fun _ => 0))), (q_11, .inl (cA_3, 40, .inl (fun _ => 0))), (q_14, .inl (cA_3, 40, .inl (fun _ => 0))), (q_17, .inl (cA_3, 40, .inl (fun _ => 0))), (q_20, .inl (cA_21, 40, .inl (fun _ => 0)))] := by rw [efs_22]; exact hD
  have hf1_h0 : fs_22[1]? = some (.int 0) := by rw [efs_22, List.getElem?_set_ne (by decide)]; exact hf1_h0
  have hf2_h0 : fs_22[2]? = some (.int 0) := by rw [efs_22, List.getElem?_set_ne (by decide)]; exact hf2_h0
  have hf3_h0 : fs_22[3]? = some (.int 0) := by rw [efs_22, List.getElem?_set_ne (by decide)]; exact hf3_h0
  have hf5_h0 : fs_22[5]? = some (.int 0) := by rw [efs_22, List.getElem?_set_ne (by decide)]; exact hf5_h0
  have hf9_h0 : fs_22[9]? = some (.int 0) := by rw [efs_22, List.getElem?_set_ne (by decide)]; exact hf9_h0
  have hf25_h0 : fs_22[25]? = some (.int 0) := by rw [efs_22, List.getElem?_set_ne (by decide)]; exact hf25_h0
  have hf6_h0 : fs_22[6]? = some (.ref q_2) := by rw [efs_22, List.getElem?_set_ne (by decide)]; exact hf6_h0
  have hf7_h0 : fs_22[7]? = some (.ref q_5) := by rw [efs_22, List.getElem?_set_ne (by decide)]; exact hf7_h0
  have hf8_h0 : fs_22[8]? = some (.ref q_8) := by rw [efs_22, List.getElem?_set_ne (by decide)]; exact hf8_h0
  have hf10_h0 : fs_22[10]? = some (.ref q_11) := by rw [efs_22, List.getElem?_set_ne (by decide)]; exact hf10_h0
  have hf11_h0 : fs_22[11]? = some (.ref q_14) := by rw [efs_22, List.getElem?_set_ne (by decide)]; exact hf11_h0
  have hf12_h0 : fs_22[12]? = some (.ref q_17) := by rw [efs_22, List.getElem?_set_ne (by decide)]; exact hf12_h0
  have hf13_h0 : fs_22[13]? = some (.ref q_20) := by rw [efs_22]; exact List.getElem?_set_self (by rw [hlen_h0]; decide)
  have hlen_h0 : fs_22.length = 51 := by rw [efs_22, List.length_set]; exact hlen_h0
  obtain rfl : cA_3 = cA_21 := (k_same hK (i := 0) (j := 1) rfl rfl).symm
  have hK := hK.sub (tys' := [(cA_3, .int)]) [0] rfl
  refine lv_aload_n hx hb dX6_init_66 rfl (lv_at hl 0 rfl) ?_
  refine lv_bipush (v := 40) hx hb dX6_init_67 (by decide) ?_
  refine va_newa (atype := .int) (N' := 40) (a0 := (40, .inl (fun _ => 0))) hx hb (hts _ wm_80) rfl hK hP hD hS hA (fun _ => rfl) (by decide) rfl (Nat.le_of_ble_eq_true rfl) (Nat.le_of_ble_eq_true rfl) (Nat.le_of_ble_eq_true rfl) dX6_init_69 (fun q_23 cA_24 H hK hP hD hS => ?_)
  have hK : va_K (dC, dI) vwCl [(cA_3, .int), (cA_24, .int)] s := hK
  have hP : va_P (dC, dI) vwCl [(h0, .inr (6, fs_22)), (q_2, .inl (cA_3, 8, .inl (fun _ => 0))), (q_5, .inl (cA_3, 32, .inl (fun _ => 0))), (q_8, .inl (cA_3, 100, .inl (fun _ => 0))), (q_11, .inl (cA_3, 40, .inl (fun _ => 0))), (q_14, .inl (cA_3, 40, .inl (fun _ => 0))), (q_17, .inl (cA_3, 40, .inl (fun _ => 0))), (q_20, .inl (cA_3, 40, .inl (fun _ => 0))), (q_23, .inl (cA_24, 40, .inl (fun _ => 0)))] H := hP
  have hD : va_D A [(h0, .inr (6, fs_22)), (q_2, .inl (cA_3, 8, .inl (fun _ => 0))), (q_5, .inl (cA_3, 32, .inl (fun _ => 0))), (q_8, .inl (cA_3, 100, .inl (fun _ => 0))), (q_11, .inl (cA_3, 40, .inl (fun _ => 0))), (q_14, .inl (cA_3, 40, .inl (fun _ => 0))), (q_17, .inl (cA_3, 40, .inl (fun _ => 0))), (q_20, .inl (cA_3, 40, .inl (fun _ => 0))), (q_23, .inl (cA_24, 40, .inl (fun _ => 0)))] := hD
  refine va_putF (D := (dC, dI)) (ci := 6) (v := .ref q_23) (ty := .array (.int)) (C := RX6) (T := TX6) (N := 51) hx hb hts uB6 tyX6 tyX6_ok nmX6 hown hK hP hD hS 0 rfl rfl 14 (by decide) (hts _ wm_134) (fun _ h9 => h9) rfl hin rfl (by decide +kernel) rfl rfl (by rw [hlen_h0]; decide) dX6_init_71 (fun H locs hP hD hS => ?_)
  obtain ⟨fs_25, efs_25⟩ : ∃ z9, z9 = (fs_22).set 14 (.ref q_23) := ⟨_, rfl⟩
  have hP : va_P (dC, dI) vwCl [(h0, .inr (6, fs_25)), (q_2, .inl (cA_3, 8, .inl (fun _ => 0))), (q_5, .inl (cA_3, 32, .inl (fun _ => 0))), (q_8, .inl (cA_3, 100, .inl (fun _ => 0))), (q_11, .inl (cA_3, 40, .inl (fun _ => 0))), (q_14, .inl (cA_3, 40, .inl (fun _ => 0))), (q_17, .inl (cA_3, 40, .inl (fun _ => 0))), (q_20, .inl (cA_3, 40, .inl (fun _ => 0))), (q_23, .inl (cA_24, 40, .inl (fun _ => 0)))] H := by rw [efs_25]; exact hP
  have hD : va_D A [(h0, .inr (6, fs_25)), (q_2, .inl (cA_3, 8, .inl (fun _ => 0))), (q_5, .inl (cA_3, 32, .inl (fun _ => 0))), (q_8, .inl (cA_3, 100, .inl (fun _ => 0))), (q_11, .inl (cA_3, 40, .inl (fun _ => 0))), (q_14, .inl (cA_3, 40, .inl (fun _ => 0))), (q_17, .inl (cA_3, 40, .inl (fun _ => 0))), (q_20, .inl (cA_3, 40, .inl (fun _ => 0))), (q_23, .inl (cA_24, 40, .inl (fun _ => 0)))] := by rw [efs_25]; exact hD
  have hf1_h0 : fs_25[1]? = some (.int 0) := by rw [efs_25, List.getElem?_set_ne (by decide)]; exact hf1_h0
  have hf2_h0 : fs_25[2]? = some (.int 0) := by rw [efs_25, List.getElem?_set_ne (by decide)]; exact hf2_h0
  have hf3_h0 : fs_25[3]? = some (.int 0) := by rw [efs_25, List.getElem?_set_ne (by decide)]; exact hf3_h0
  have hf5_h0 : fs_25[5]? = some (.int 0) := by rw [efs_25, List.getElem?_set_ne (by decide)]; exact hf5_h0
  have hf9_h0 : fs_25[9]? = some (.int 0) := by rw [efs_25, List.getElem?_set_ne (by decide)]; exact hf9_h0
  have hf25_h0 : fs_25[25]? = some (.int 0) := by rw [efs_25, List.getElem?_set_ne (by decide)]; exact hf25_h0
  have hf6_h0 : fs_25[6]? = some (.ref q_2) := by rw [efs_25, List.getElem?_set_ne (by decide)]; exact hf6_h0
  have hf7_h0 : fs_25[7]? = some (.ref q_5) := by rw [efs_25, List.getElem?_set_ne (by decide)]; exact hf7_h0
  have hf8_h0 : fs_25[8]? = some (.ref q_8) := by rw [efs_25, List.getElem?_set_ne (by decide)]; exact hf8_h0
  have hf10_h0 : fs_25[10]? = some (.ref q_11) := by rw [efs_25, List.getElem?_set_ne (by decide)]; exact hf10_h0
  have hf11_h0 : fs_25[11]? = some (.ref q_14) := by rw [efs_25, List.getElem?_set_ne (by decide)]; exact hf11_h0
  have hf12_h0 : fs_25[12]? = some (.ref q_17) := by rw [efs_25, List.getElem?_set_ne (by decide)]; exact hf12_h0
  have hf13_h0 : fs_25[13]? = some (.ref q_20) := by rw [efs_25, List.getElem?_set_ne (by decide)]; exact hf13_h0
  have hf14_h0 : fs_25[14]? = some (.ref q_23) := by rw [efs_25]; exact List.getElem?_set_self (by rw [hlen_h0]; decide)
  have hlen_h0 : fs_25.length = 51 := by rw [efs_25, List.length_set]; exact hlen_h0
  obtain rfl : cA_3 = cA_24 := (k_same hK (i := 0) (j := 1) rfl rfl).symm
  have hK := hK.sub (tys' := [(cA_3, .int)]) [0] rfl
  refine lv_aload_n hx hb dX6_init_74 rfl (lv_at hl 0 rfl) ?_
  refine lv_bipush (v := 40) hx hb dX6_init_75 (by decide) ?_
  refine va_newa (atype := .int) (N' := 40) (a0 := (40, .inl (fun _ => 0))) hx hb (hts _ wm_80) rfl hK hP hD hS hA (fun _ => rfl) (by decide) rfl (Nat.le_of_ble_eq_true rfl) (Nat.le_of_ble_eq_true rfl) (Nat.le_of_ble_eq_true rfl) dX6_init_77 (fun q_26 cA_27 H hK hP hD hS => ?_)
  have hK : va_K (dC, dI) vwCl [(cA_3, .int), (cA_27, .int)] s := hK
  have hP : va_P (dC, dI) vwCl [(h0, .inr (6, fs_25)), (q_2, .inl (cA_3, 8, .inl (fun _ => 0))), (q_5, .inl (cA_3, 32, .inl (fun _ => 0))), (q_8, .inl (cA_3, 100, .inl (fun _ => 0))), (q_11, .inl (cA_3, 40, .inl (fun _ => 0))), (q_14, .inl (cA_3, 40, .inl (fun _ => 0))), (q_17, .inl (cA_3, 40, .inl (fun _ => 0))), (q_20, .inl (cA_3, 40, .inl (fun _ => 0))), (q_23, .inl (cA_3, 40, .inl (fun _ => 0))), (q_26, .inl (cA_27, 40, .inl (fun _ => 0)))] H := hP
  have hD : va_D A [(h0, .inr (6, fs_25)), (q_2, .inl (cA_3, 8, .inl (fun _ => 0))), (q_5, .inl (cA_3, 32, .inl (fun _ => 0))), (q_8, .inl (cA_3, 100, .inl (fun _ => 0))), (q_11, .inl (cA_3, 40, .inl (fun _ => 0))), (q_14, .inl (cA_3, 40, .inl (fun _ => 0))), (q_17, .inl (cA_3, 40, .inl (fun _ => 0))), (q_20, .inl (cA_3, 40, .inl (fun _ => 0))), (q_23, .inl (cA_3, 40, .inl (fun _ => 0))), (q_26, .inl (cA_27, 40, .inl (fun _ => 0)))] := hD
  refine va_putF (D := (dC, dI)) (ci := 6) (v := .ref q_26) (ty := .array (.int)) (C := RX6) (T := TX6) (N := 51) hx hb hts uB6 tyX6 tyX6_ok nmX6 hown hK hP hD hS 0 rfl rfl 15 (by decide) (hts _ wm_162) (fun _ h9 => h9) rfl hin rfl (by decide +kernel) rfl rfl (by rw [hlen_h0]; decide) dX6_init_79 (fun H locs hP hD hS => ?_)
  obtain ⟨fs_28, efs_28⟩ : ∃ z9, z9 = (fs_25).set 15 (.ref q_26) := ⟨_, rfl⟩
  have hP : va_P (dC, dI) vwCl [(h0, .inr (6, fs_28)), (q_2, .inl (cA_3, 8, .inl (fun _ => 0))), (q_5, .inl (cA_3, 32, .inl (fun _ => 0))), (q_8, .inl (cA_3, 100, .inl (fun _ => 0))), (q_11, .inl (cA_3, 40, .inl (fun _ => 0))), (q_14, .inl (cA_3, 40, .inl (fun _ => 0))), (q_17, .inl (cA_3, 40, .inl (fun _ => 0))), (q_20, .inl (cA_3, 40, .inl (fun _ => 0))), (q_23, .inl (cA_3, 40, .inl (fun _ => 0))), (q_26, .inl (cA_27, 40, .inl (fun _ => 0)))] H := by rw [efs_28]; exact hP
  have hD : va_D A [(h0, .inr (6, fs_28)), (q_2, .inl (cA_3, 8, .inl (fun _ => 0))), (q_5, .inl (cA_3, 32, .inl (fun _ => 0))), (q_8, .inl (cA_3, 100, .inl (fun _ => 0))), (q_11, .inl (cA_3, 40, .inl (fun _ => 0))), (q_14, .inl (cA_3, 40, .inl (fun _ => 0))), (q_17, .inl (cA_3, 40, .inl (fun _ => 0))), (q_20, .inl (cA_3, 40, .inl (fun _ => 0))), (q_23, .inl (cA_3, 40, .inl (fun _ => 0))), (q_26, .inl (cA_27, 40, .inl (fun _ => 0)))] := by rw [efs_28]; exact hD
  have hf1_h0 : fs_28[1]? = some (.int 0) := by rw [efs_28, List.getElem?_set_ne (by decide)]; exact hf1_h0
  have hf2_h0 : fs_28[2]? = some (.int 0) := by rw [efs_28, List.getElem?_set_ne (by decide)]; exact hf2_h0
  have hf3_h0 : fs_28[3]? = some (.int 0) := by rw [efs_28, List.getElem?_set_ne (by decide)]; exact hf3_h0
  have hf5_h0 : fs_28[5]? = some (.int 0) := by rw [efs_28, List.getElem?_set_ne (by decide)]; exact hf5_h0
  have hf9_h0 : fs_28[9]? = some (.int 0) := by rw [efs_28, List.getElem?_set_ne (by decide)]; exact hf9_h0
  have hf25_h0 : fs_28[25]? = some (.int 0) := by rw [efs_28, List.getElem?_set_ne (by decide)]; exact hf25_h0
  have hf6_h0 : fs_28[6]? = some (.ref q_2) := by rw [efs_28, List.getElem?_set_ne (by decide)]; exact hf6_h0
  have hf7_h0 : fs_28[7]? = some (.ref q_5) := by rw [efs_28, List.getElem?_set_ne (by decide)]; exact hf7_h0
  have hf8_h0 : fs_28[8]? = some (.ref q_8) := by rw [efs_28, List.getElem?_set_ne (by decide)]; exact hf8_h0
  have hf10_h0 : fs_28[10]? = some (.ref q_11) := by rw [efs_28, List.getElem?_set_ne (by decide)]; exact hf10_h0
  have hf11_h0 : fs_28[11]? = some (.ref q_14) := by rw [efs_28, List.getElem?_set_ne (by decide)]; exact hf11_h0
  have hf12_h0 : fs_28[12]? = some (.ref q_17) := by rw [efs_28, List.getElem?_set_ne (by decide)]; exact hf12_h0
  have hf13_h0 : fs_28[13]? = some (.ref q_20) := by rw [efs_28, List.getElem?_set_ne (by decide)]; exact hf13_h0
  have hf14_h0 : fs_28[14]? = some (.ref q_23) := by rw [efs_28, List.getElem?_set_ne (by decide)]; exact hf14_h0
  have hlen_h0 : fs_28.length = 51 := by rw [efs_28, List.length_set]; exact hlen_h0
  have hK := hK.sub (tys' := [(cA_3, .int)]) [0] rfl
  have hP := hP.sub (ws' := [(h0, .inr (6, fs_28)), (q_2, .inl (cA_3, 8, .inl (fun _ => 0))), (q_5, .inl (cA_3, 32, .inl (fun _ => 0))), (q_8, .inl (cA_3, 100, .inl (fun _ => 0))), (q_11, .inl (cA_3, 40, .inl (fun _ => 0))), (q_14, .inl (cA_3, 40, .inl (fun _ => 0))), (q_17, .inl (cA_3, 40, .inl (fun _ => 0))), (q_20, .inl (cA_3, 40, .inl (fun _ => 0))), (q_23, .inl (cA_3, 40, .inl (fun _ => 0)))]) [0, 1, 2, 3, 4, 5, 6, 7, 8] rfl
  have hD := hD.sub (ws' := [(h0, .inr (6, fs_28)), (q_2, .inl (cA_3, 8, .inl (fun _ => 0))), (q_5, .inl (cA_3, 32, .inl (fun _ => 0))), (q_8, .inl (cA_3, 100, .inl (fun _ => 0))), (q_11, .inl (cA_3, 40, .inl (fun _ => 0))), (q_14, .inl (cA_3, 40, .inl (fun _ => 0))), (q_17, .inl (cA_3, 40, .inl (fun _ => 0))), (q_20, .inl (cA_3, 40, .inl (fun _ => 0))), (q_23, .inl (cA_3, 40, .inl (fun _ => 0)))]) [0, 1, 2, 3, 4, 5, 6, 7, 8] (by decide) rfl
  refine lv_aload_n hx hb dX6_init_82 rfl (lv_at hl 0 rfl) ?_
  refine lv_bipush (v := 40) hx hb dX6_init_83 (by decide) ?_
  refine va_newa (atype := .int) (N' := 40) (a0 := (40, .inl (fun _ => 0))) hx hb (hts _ wm_80) rfl hK hP hD hS hA (fun _ => rfl) (by decide) rfl (Nat.le_of_ble_eq_true rfl) (Nat.le_of_ble_eq_true rfl) (Nat.le_of_ble_eq_true rfl) dX6_init_85 (fun q_29 cA_30 H hK hP hD hS => ?_)
  have hK : va_K (dC, dI) vwCl [(cA_3, .int), (cA_30, .int)] s := hK
  have hP : va_P (dC, dI) vwCl [(h0, .inr (6, fs_28)), (q_2, .inl (cA_3, 8, .inl (fun _ => 0))), (q_5, .inl (cA_3, 32, .inl (fun _ => 0))), (q_8, .inl (cA_3, 100, .inl (fun _ => 0))), (q_11, .inl (cA_3, 40, .inl (fun _ => 0))), (q_14, .inl (cA_3, 40, .inl (fun _ => 0))), (q_17, .inl (cA_3, 40, .inl (fun _ => 0))), (q_20, .inl (cA_3, 40, .inl (fun _ => 0))), (q_23, .inl (cA_3, 40, .inl (fun _ => 0))), (q_29, .inl (cA_30, 40, .inl (fun _ => 0)))] H := hP
  have hD : va_D A [(h0, .inr (6, fs_28)), (q_2, .inl (cA_3, 8, .inl (fun _ => 0))), (q_5, .inl (cA_3, 32, .inl (fun _ => 0))), (q_8, .inl (cA_3, 100, .inl (fun _ => 0))), (q_11, .inl (cA_3, 40, .inl (fun _ => 0))), (q_14, .inl (cA_3, 40, .inl (fun _ => 0))), (q_17, .inl (cA_3, 40, .inl (fun _ => 0))), (q_20, .inl (cA_3, 40, .inl (fun _ => 0))), (q_23, .inl (cA_3, 40, .inl (fun _ => 0))), (q_29, .inl (cA_30, 40, .inl (fun _ => 0)))] := hD
  refine va_putF (D := (dC, dI)) (ci := 6) (v := .ref q_29) (ty := .array (.int)) (C := RX6) (T := TX6) (N := 51) hx hb hts uB6 tyX6 tyX6_ok nmX6 hown hK hP hD hS 0 rfl rfl 16 (by decide) (hts _ wm_163) (fun _ h9 => h9) rfl hin rfl (by decide +kernel) rfl rfl (by rw [hlen_h0]; decide) dX6_init_87 (fun H locs hP hD hS => ?_)
  obtain ⟨fs_31, efs_31⟩ : ∃ z9, z9 = (fs_28).set 16 (.ref q_29) := ⟨_, rfl⟩
  have hP : va_P (dC, dI) vwCl [(h0, .inr (6, fs_31)), (q_2, .inl (cA_3, 8, .inl (fun _ => 0))), (q_5, .inl (cA_3, 32, .inl (fun _ => 0))), (q_8, .inl (cA_3, 100, .inl (fun _ => 0))), (q_11, .inl (cA_3, 40, .inl (fun _ => 0))), (q_14, .inl (cA_3, 40, .inl (fun _ => 0))), (q_17, .inl (cA_3, 40, .inl (fun _ => 0))), (q_20, .inl (cA_3, 40, .inl (fun _ => 0))), (q_23, .inl (cA_3, 40, .inl (fun _ => 0))), (q_29, .inl (cA_30, 40, .inl (fun _ => 0)))] H := by rw [efs_31]; exact hP
  have hD : va_D A [(h0, .inr (6, fs_31)), (q_2, .inl (cA_3, 8, .inl (fun _ => 0))), (q_5, .inl (cA_3, 32, .inl (fun _ => 0))), (q_8, .inl (cA_3, 100, .inl (fun _ => 0))), (q_11, .inl (cA_3, 40, .inl (fun _ => 0))), (q_14, .inl (cA_3, 40, .inl (fun _ => 0))), (q_17, .inl (cA_3, 40, .inl (fun _ => 0))), (q_20, .inl (cA_3, 40, .inl (fun _ => 0))), (q_23, .inl (cA_3, 40, .inl (fun _ => 0))), (q_29, .inl (cA_30, 40, .inl (fun _ => 0)))] := by rw [efs_31]; exact hD
  have hf1_h0 : fs_31[1]? = some (.int 0) := by rw [efs_31, List.getElem?_set_ne (by decide)]; exact hf1_h0
  have hf2_h0 : fs_31[2]? = some (.int 0) := by rw [efs_31, List.getElem?_set_ne (by decide)]; exact hf2_h0
  have hf3_h0 : fs_31[3]? = some (.int 0) := by rw [efs_31, List.getElem?_set_ne (by decide)]; exact hf3_h0
  have hf5_h0 : fs_31[5]? = some (.int 0) := by rw [efs_31, List.getElem?_set_ne (by decide)]; exact hf5_h0
  have hf9_h0 : fs_31[9]? = some (.int 0) := by rw [efs_31, List.getElem?_set_ne (by decide)]; exact hf9_h0
  have hf25_h0 : fs_31[25]? = some (.int 0) := by rw [efs_31, List.getElem?_set_ne (by decide)]; exact hf25_h0
  have hf6_h0 : fs_31[6]? = some (.ref q_2) := by rw [efs_31, List.getElem?_set_ne (by decide)]; exact hf6_h0
  have hf7_h0 : fs_31[7]? = some (.ref q_5) := by rw [efs_31, List.getElem?_set_ne (by decide)]; exact hf7_h0
  have hf8_h0 : fs_31[8]? = some (.ref q_8) := by rw [efs_31, List.getElem?_set_ne (by decide)]; exact hf8_h0
  have hf10_h0 : fs_31[10]? = some (.ref q_11) := by rw [efs_31, List.getElem?_set_ne (by decide)]; exact hf10_h0
  have hf11_h0 : fs_31[11]? = some (.ref q_14) := by rw [efs_31, List.getElem?_set_ne (by decide)]; exact hf11_h0
  have hf12_h0 : fs_31[12]? = some (.ref q_17) := by rw [efs_31, List.getElem?_set_ne (by decide)]; exact hf12_h0
  have hf13_h0 : fs_31[13]? = some (.ref q_20) := by rw [efs_31, List.getElem?_set_ne (by decide)]; exact hf13_h0
  have hf14_h0 : fs_31[14]? = some (.ref q_23) := by rw [efs_31, List.getElem?_set_ne (by decide)]; exact hf14_h0
  have hlen_h0 : fs_31.length = 51 := by rw [efs_31, List.length_set]; exact hlen_h0
  have hK := hK.sub (tys' := [(cA_3, .int)]) [0] rfl
  have hP := hP.sub (ws' := [(h0, .inr (6, fs_31)), (q_2, .inl (cA_3, 8, .inl (fun _ => 0))), (q_5, .inl (cA_3, 32, .inl (fun _ => 0))), (q_8, .inl (cA_3, 100, .inl (fun _ => 0))), (q_11, .inl (cA_3, 40, .inl (fun _ => 0))), (q_14, .inl (cA_3, 40, .inl (fun _ => 0))), (q_17, .inl (cA_3, 40, .inl (fun _ => 0))), (q_20, .inl (cA_3, 40, .inl (fun _ => 0))), (q_23, .inl (cA_3, 40, .inl (fun _ => 0)))]) [0, 1, 2, 3, 4, 5, 6, 7, 8] rfl
  have hD := hD.sub (ws' := [(h0, .inr (6, fs_31)), (q_2, .inl (cA_3, 8, .inl (fun _ => 0))), (q_5, .inl (cA_3, 32, .inl (fun _ => 0))), (q_8, .inl (cA_3, 100, .inl (fun _ => 0))), (q_11, .inl (cA_3, 40, .inl (fun _ => 0))), (q_14, .inl (cA_3, 40, .inl (fun _ => 0))), (q_17, .inl (cA_3, 40, .inl (fun _ => 0))), (q_20, .inl (cA_3, 40, .inl (fun _ => 0))), (q_23, .inl (cA_3, 40, .inl (fun _ => 0)))]) [0, 1, 2, 3, 4, 5, 6, 7, 8] (by decide) rfl
  refine lv_aload_n hx hb dX6_init_90 rfl (lv_at hl 0 rfl) ?_
  refine lv_bipush (v := 40) hx hb dX6_init_91 (by decide) ?_
  refine va_newa (atype := .int) (N' := 40) (a0 := (40, .inl (fun _ => 0))) hx hb (hts _ wm_80) rfl hK hP hD hS hA (fun _ => rfl) (by decide) rfl (Nat.le_of_ble_eq_true rfl) (Nat.le_of_ble_eq_true rfl) (Nat.le_of_ble_eq_true rfl) dX6_init_93 (fun q_32 cA_33 H hK hP hD hS => ?_)
  have hK : va_K (dC, dI) vwCl [(cA_3, .int), (cA_33, .int)] s := hK
  have hP : va_P (dC, dI) vwCl [(h0, .inr (6, fs_31)), (q_2, .inl (cA_3, 8, .inl (fun _ => 0))), (q_5, .inl (cA_3, 32, .inl (fun _ => 0))), (q_8, .inl (cA_3, 100, .inl (fun _ => 0))), (q_11, .inl (cA_3, 40, .inl (fun _ => 0))), (q_14, .inl (cA_3, 40, .inl (fun _ => 0))), (q_17, .inl (cA_3, 40, .inl (fun _ => 0))), (q_20, .inl (cA_3, 40, .inl (fun _ => 0))), (q_23, .inl (cA_3, 40, .inl (fun _ => 0))), (q_32, .inl (cA_33, 40, .inl (fun _ => 0)))] H := hP
  have hD : va_D A [(h0, .inr (6, fs_31)), (q_2, .inl (cA_3, 8, .inl (fun _ => 0))), (q_5, .inl (cA_3, 32, .inl (fun _ => 0))), (q_8, .inl (cA_3, 100, .inl (fun _ => 0))), (q_11, .inl (cA_3, 40, .inl (fun _ => 0))), (q_14, .inl (cA_3, 40, .inl (fun _ => 0))), (q_17, .inl (cA_3, 40, .inl (fun _ => 0))), (q_20, .inl (cA_3, 40, .inl (fun _ => 0))), (q_23, .inl (cA_3, 40, .inl (fun _ => 0))), (q_32, .inl (cA_33, 40, .inl (fun _ => 0)))] := hD
  refine va_putF (D := (dC, dI)) (ci := 6) (v := .ref q_32) (ty := .array (.int)) (C := RX6) (T := TX6) (N := 51) hx hb hts uB6 tyX6 tyX6_ok nmX6 hown hK hP hD hS 0 rfl rfl 17 (by decide) (hts _ wm_135) (fun _ h9 => h9) rfl hin rfl (by decide +kernel) rfl rfl (by rw [hlen_h0]; decide) dX6_init_95 (fun H locs hP hD hS => ?_)
  obtain ⟨fs_34, efs_34⟩ : ∃ z9, z9 = (fs_31).set 17 (.ref q_32) := ⟨_, rfl⟩
  have hP : va_P (dC, dI) vwCl [(h0, .inr (6, fs_34)), (q_2, .inl (cA_3, 8, .inl (fun _ => 0))), (q_5, .inl (cA_3, 32, .inl (fun _ => 0))), (q_8, .inl (cA_3, 100, .inl (fun _ => 0))), (q_11, .inl (cA_3, 40, .inl (fun _ => 0))), (q_14, .inl (cA_3, 40, .inl (fun _ => 0))), (q_17, .inl (cA_3, 40, .inl (fun _ => 0))), (q_20, .inl (cA_3, 40, .inl (fun _ => 0))), (q_23, .inl (cA_3, 40, .inl (fun _ => 0))), (q_32, .inl (cA_33, 40, .inl (fun _ => 0)))] H := by rw [efs_34]; exact hP
  have hD : va_D A [(h0, .inr (6, fs_34)), (q_2, .inl (cA_3, 8, .inl (fun _ => 0))), (q_5, .inl (cA_3, 32, .inl (fun _ => 0))), (q_8, .inl (cA_3, 100, .inl (fun _ => 0))), (q_11, .inl (cA_3, 40, .inl (fun _ => 0))), (q_14, .inl (cA_3, 40, .inl (fun _ => 0))), (q_17, .inl (cA_3, 40, .inl (fun _ => 0))), (q_20, .inl (cA_3, 40, .inl (fun _ => 0))), (q_23, .inl (cA_3, 40, .inl (fun _ => 0))), (q_32, .inl (cA_33, 40, .inl (fun _ => 0)))] := by rw [efs_34]; exact hD
  have hf1_h0 : fs_34[1]? = some (.int 0) := by rw [efs_34, List.getElem?_set_ne (by decide)]; exact hf1_h0
  have hf2_h0 : fs_34[2]? = some (.int 0) := by rw [efs_34, List.getElem?_set_ne (by decide)]; exact hf2_h0
  have hf3_h0 : fs_34[3]? = some (.int 0) := by rw [efs_34, List.getElem?_set_ne (by decide)]; exact hf3_h0
  have hf5_h0 : fs_34[5]? = some (.int 0) := by rw [efs_34, List.getElem?_set_ne (by decide)]; exact hf5_h0
  have hf9_h0 : fs_34[9]? = some (.int 0) := by rw [efs_34, List.getElem?_set_ne (by decide)]; exact hf9_h0
  have hf25_h0 : fs_34[25]? = some (.int 0) := by rw [efs_34, List.getElem?_set_ne (by decide)]; exact hf25_h0
  have hf6_h0 : fs_34[6]? = some (.ref q_2) := by rw [efs_34, List.getElem?_set_ne (by decide)]; exact hf6_h0
  have hf7_h0 : fs_34[7]? = some (.ref q_5) := by rw [efs_34, List.getElem?_set_ne (by decide)]; exact hf7_h0
  have hf8_h0 : fs_34[8]? = some (.ref q_8) := by rw [efs_34, List.getElem?_set_ne (by decide)]; exact hf8_h0
  have hf10_h0 : fs_34[10]? = some (.ref q_11) := by rw [efs_34, List.getElem?_set_ne (by decide)]; exact hf10_h0
  have hf11_h0 : fs_34[11]? = some (.ref q_14) := by rw [efs_34, List.getElem?_set_ne (by decide)]; exact hf11_h0
  have hf12_h0 : fs_34[12]? = some (.ref q_17) := by rw [efs_34, List.getElem?_set_ne (by decide)]; exact hf12_h0
  have hf13_h0 : fs_34[13]? = some (.ref q_20) := by rw [efs_34, List.getElem?_set_ne (by decide)]; exact hf13_h0
  have hf14_h0 : fs_34[14]? = some (.ref q_23) := by rw [efs_34, List.getElem?_set_ne (by decide)]; exact hf14_h0
  have hf17_h0 : fs_34[17]? = some (.ref q_32) := by rw [efs_34]; exact List.getElem?_set_self (by rw [hlen_h0]; decide)
  have hlen_h0 : fs_34.length = 51 := by rw [efs_34, List.length_set]; exact hlen_h0
  obtain rfl : cA_3 = cA_33 := (k_same hK (i := 0) (j := 1) rfl rfl).symm
  have hK := hK.sub (tys' := [(cA_3, .int)]) [0] rfl
  refine lv_aload_n hx hb dX6_init_98 rfl (lv_at hl 0 rfl) ?_
  refine lv_bipush (v := 40) hx hb dX6_init_99 (by decide) ?_
  refine va_newa (atype := .int) (N' := 40) (a0 := (40, .inl (fun _ => 0))) hx hb (hts _ wm_80) rfl hK hP hD hS hA (fun _ => rfl) (by decide) rfl (Nat.le_of_ble_eq_true rfl) (Nat.le_of_ble_eq_true rfl) (Nat.le_of_ble_eq_true rfl) dX6_init_101 (fun q_35 cA_36 H hK hP hD hS => ?_)
  have hK : va_K (dC, dI) vwCl [(cA_3, .int), (cA_36, .int)] s := hK
  have hP : va_P (dC, dI) vwCl [(h0, .inr (6, fs_34)), (q_2, .inl (cA_3, 8, .inl (fun _ => 0))), (q_5, .inl (cA_3, 32, .inl (fun _ => 0))), (q_8, .inl (cA_3, 100, .inl (fun _ => 0))), (q_11, .inl (cA_3, 40, .inl (fun _ => 0))), (q_14, .inl (cA_3, 40, .inl (fun _ => 0))), (q_17, .inl (cA_3, 40, .inl (fun _ => 0))), (q_20, .inl (cA_3, 40, .inl (fun _ => 0))), (q_23, .inl (cA_3, 40, .inl (fun _ => 0))), (q_32, .inl (cA_3, 40, .inl (fun _ => 0))), (q_35, .inl (cA_36, 40, .inl (fun _ => 0)))] H := hP
  have hD : va_D A [(h0, .inr (6, fs_34)), (q_2, .inl (cA_3, 8, .inl (fun _ => 0))), (q_5, .inl (cA_3, 32, .inl (fun _ => 0))), (q_8, .inl (cA_3, 100, .inl (fun _ => 0))), (q_11, .inl (cA_3, 40, .inl (fun _ => 0))), (q_14, .inl (cA_3, 40, .inl (fun _ => 0))), (q_17, .inl (cA_3, 40, .inl (fun _ => 0))), (q_20, .inl (cA_3, 40, .inl (fun _ => 0))), (q_23, .inl (cA_3, 40, .inl (fun _ => 0))), (q_32, .inl (cA_3, 40, .inl (fun _ => 0))), (q_35, .inl (cA_36, 40, .inl (fun _ => 0)))] := hD
  refine va_putF (D := (dC, dI)) (ci := 6) (v := .ref q_35) (ty := .array (.int)) (C := RX6) (T := TX6) (N := 51) hx hb hts uB6 tyX6 tyX6_ok nmX6 hown hK hP hD hS 0 rfl rfl 18 (by decide) (hts _ wm_136) (fun _ h9 => h9) rfl hin rfl (by decide +kernel) rfl rfl (by rw [hlen_h0]; decide) dX6_init_103 (fun H locs hP hD hS => ?_)
  obtain ⟨fs_37, efs_37⟩ : ∃ z9, z9 = (fs_34).set 18 (.ref q_35) := ⟨_, rfl⟩
  have hP : va_P (dC, dI) vwCl [(h0, .inr (6, fs_37)), (q_2, .inl (cA_3, 8, .inl (fun _ => 0))), (q_5, .inl (cA_3, 32, .inl (fun _ => 0))), (q_8, .inl (cA_3, 100, .inl (fun _ => 0))), (q_11, .inl (cA_3, 40, .inl (fun _ => 0))), (q_14, .inl (cA_3, 40, .inl (fun _ => 0))), (q_17, .inl (cA_3, 40, .inl (fun _ => 0))), (q_20, .inl (cA_3, 40, .inl (fun _ => 0))), (q_23, .inl (cA_3, 40, .inl (fun _ => 0))), (q_32, .inl (cA_3, 40, .inl (fun _ => 0))), (q_35, .inl (cA_36, 40, .inl (fun _ => 0)))] H := by rw [efs_37]; exact hP
  have hD : va_D A [(h0, .inr (6, fs_37)), (q_2, .inl (cA_3, 8, .inl (fun _ => 0))), (q_5, .inl (cA_3, 32, .inl (fun _ => 0))), (q_8, .inl (cA_3, 100, .inl (fun _ => 0))), (q_11, .inl (cA_3, 40, .inl (fun _ => 0))), (q_14, .inl (cA_3, 40, .inl (fun _ => 0))), (q_17, .inl (cA_3, 40, .inl (fun _ => 0))), (q_20, .inl (cA_3, 40, .inl (fun _ => 0))), (q_23, .inl (cA_3, 40, .inl (fun _ => 0))), (q_32, .inl (cA_3, 40, .inl (fun _ => 0))), (q_35, .inl (cA_36, 40, .inl (fun _ => 0)))] := by rw [efs_37]; exact hD
  have hf1_h0 : fs_37[1]? = some (.int 0) := by rw [efs_37, List.getElem?_set_ne (by decide)]; exact hf1_h0
  have hf2_h0 : fs_37[2]? = some (.int 0) := by rw [efs_37, List.getElem?_set_ne (by decide)]; exact hf2_h0
  have hf3_h0 : fs_37[3]? = some (.int 0) := by rw [efs_37, List.getElem?_set_ne (by decide)]; exact hf3_h0
  have hf5_h0 : fs_37[5]? = some (.int 0) := by rw [efs_37, List.getElem?_set_ne (by decide)]; exact hf5_h0
  have hf9_h0 : fs_37[9]? = some (.int 0) := by rw [efs_37, List.getElem?_set_ne (by decide)]; exact hf9_h0
  have hf25_h0 : fs_37[25]? = some (.int 0) := by rw [efs_37, List.getElem?_set_ne (by decide)]; exact hf25_h0
  have hf6_h0 : fs_37[6]? = some (.ref q_2) := by rw [efs_37, List.getElem?_set_ne (by decide)]; exact hf6_h0
  have hf7_h0 : fs_37[7]? = some (.ref q_5) := by rw [efs_37, List.getElem?_set_ne (by decide)]; exact hf7_h0
  have hf8_h0 : fs_37[8]? = some (.ref q_8) := by rw [efs_37, List.getElem?_set_ne (by decide)]; exact hf8_h0
  have hf10_h0 : fs_37[10]? = some (.ref q_11) := by rw [efs_37, List.getElem?_set_ne (by decide)]; exact hf10_h0
  have hf11_h0 : fs_37[11]? = some (.ref q_14) := by rw [efs_37, List.getElem?_set_ne (by decide)]; exact hf11_h0
  have hf12_h0 : fs_37[12]? = some (.ref q_17) := by rw [efs_37, List.getElem?_set_ne (by decide)]; exact hf12_h0
  have hf13_h0 : fs_37[13]? = some (.ref q_20) := by rw [efs_37, List.getElem?_set_ne (by decide)]; exact hf13_h0
  have hf14_h0 : fs_37[14]? = some (.ref q_23) := by rw [efs_37, List.getElem?_set_ne (by decide)]; exact hf14_h0
  have hf17_h0 : fs_37[17]? = some (.ref q_32) := by rw [efs_37, List.getElem?_set_ne (by decide)]; exact hf17_h0
  have hf18_h0 : fs_37[18]? = some (.ref q_35) := by rw [efs_37]; exact List.getElem?_set_self (by rw [hlen_h0]; decide)
  have hlen_h0 : fs_37.length = 51 := by rw [efs_37, List.length_set]; exact hlen_h0
  obtain rfl : cA_3 = cA_36 := (k_same hK (i := 0) (j := 1) rfl rfl).symm
  have hK := hK.sub (tys' := [(cA_3, .int)]) [0] rfl
  refine lv_aload_n hx hb dX6_init_106 rfl (lv_at hl 0 rfl) ?_
  refine lv_bipush (v := 40) hx hb dX6_init_107 (by decide) ?_
  refine va_newa (atype := .int) (N' := 40) (a0 := (40, .inl (fun _ => 0))) hx hb (hts _ wm_80) rfl hK hP hD hS hA (fun _ => rfl) (by decide) rfl (Nat.le_of_ble_eq_true rfl) (Nat.le_of_ble_eq_true rfl) (Nat.le_of_ble_eq_true rfl) dX6_init_109 (fun q_38 cA_39 H hK hP hD hS => ?_)
  have hK : va_K (dC, dI) vwCl [(cA_3, .int), (cA_39, .int)] s := hK
  have hP : va_P (dC, dI) vwCl [(h0, .inr (6, fs_37)), (q_2, .inl (cA_3, 8, .inl (fun _ => 0))), (q_5, .inl (cA_3, 32, .inl (fun _ => 0))), (q_8, .inl (cA_3, 100, .inl (fun _ => 0))), (q_11, .inl (cA_3, 40, .inl (fun _ => 0))), (q_14, .inl (cA_3, 40, .inl (fun _ => 0))), (q_17, .inl (cA_3, 40, .inl (fun _ => 0))), (q_20, .inl (cA_3, 40, .inl (fun _ => 0))), (q_23, .inl (cA_3, 40, .inl (fun _ => 0))), (q_32, .inl (cA_3, 40, .inl (fun _ => 0))), (q_35, .inl (cA_3, 40, .inl (fun _ => 0))), (q_38, .inl (cA_39, 40, .inl (fun _ => 0)))] H := hP
  have hD : va_D A [(h0, .inr (6, fs_37)), (q_2, .inl (cA_3, 8, .inl (fun _ => 0))), (q_5, .inl (cA_3, 32, .inl (fun _ => 0))), (q_8, .inl (cA_3, 100, .inl (fun _ => 0))), (q_11, .inl (cA_3, 40, .inl (fun _ => 0))), (q_14, .inl (cA_3, 40, .inl (fun _ => 0))), (q_17, .inl (cA_3, 40, .inl (fun _ => 0))), (q_20, .inl (cA_3, 40, .inl (fun _ => 0))), (q_23, .inl (cA_3, 40, .inl (fun _ => 0))), (q_32, .inl (cA_3, 40, .inl (fun _ => 0))), (q_35, .inl (cA_3, 40, .inl (fun _ => 0))), (q_38, .inl (cA_39, 40, .inl (fun _ => 0)))] := hD
  refine va_putF (D := (dC, dI)) (ci := 6) (v := .ref q_38) (ty := .array (.int)) (C := RX6) (T := TX6) (N := 51) hx hb hts uB6 tyX6 tyX6_ok nmX6 hown hK hP hD hS 0 rfl rfl 19 (by decide) (hts _ wm_137) (fun _ h9 => h9) rfl hin rfl (by decide +kernel) rfl rfl (by rw [hlen_h0]; decide) dX6_init_111 (fun H locs hP hD hS => ?_)
  obtain ⟨fs_40, efs_40⟩ : ∃ z9, z9 = (fs_37).set 19 (.ref q_38) := ⟨_, rfl⟩
  have hP : va_P (dC, dI) vwCl [(h0, .inr (6, fs_40)), (q_2, .inl (cA_3, 8, .inl (fun _ => 0))), (q_5, .inl (cA_3, 32, .inl (fun _ => 0))), (q_8, .inl (cA_3, 100, .inl (fun _ => 0))), (q_11, .inl (cA_3, 40, .inl (fun _ => 0))), (q_14, .inl (cA_3, 40, .inl (fun _ => 0))), (q_17, .inl (cA_3, 40, .inl (fun _ => 0))), (q_20, .inl (cA_3, 40, .inl (fun _ => 0))), (q_23, .inl (cA_3, 40, .inl (fun _ => 0))), (q_32, .inl (cA_3, 40, .inl (fun _ => 0))), (q_35, .inl (cA_3, 40, .inl (fun _ => 0))), (q_38, .inl (cA_39, 40, .inl (fun _ => 0)))] H := by rw [efs_40]; exact hP
  have hD : va_D A [(h0, .inr (6, fs_40)), (q_2, .inl (cA_3, 8, .inl (fun _ => 0))), (q_5, .inl (cA_3, 32, .inl (fun _ => 0))), (q_8, .inl (cA_3, 100, .inl (fun _ => 0))), (q_11, .inl (cA_3, 40, .inl (fun _ => 0))), (q_14, .inl (cA_3, 40, .inl (fun _ => 0))), (q_17, .inl (cA_3, 40, .inl (fun _ => 0))), (q_20, .inl (cA_3, 40, .inl (fun _ => 0))), (q_23, .inl (cA_3, 40, .inl (fun _ => 0))), (q_32, .inl (cA_3, 40, .inl (fun _ => 0))), (q_35, .inl (cA_3, 40, .inl (fun _ => 0))), (q_38, .inl (cA_39, 40, .inl (fun _ => 0)))] := by rw [efs_40]; exact hD
  have hf1_h0 : fs_40[1]? = some (.int 0) := by rw [efs_40, List.getElem?_set_ne (by decide)]; exact hf1_h0
  have hf2_h0 : fs_40[2]? = some (.int 0) := by rw [efs_40, List.getElem?_set_ne (by decide)]; exact hf2_h0
  have hf3_h0 : fs_40[3]? = some (.int 0) := by rw [efs_40, List.getElem?_set_ne (by decide)]; exact hf3_h0
  have hf5_h0 : fs_40[5]? = some (.int 0) := by rw [efs_40, List.getElem?_set_ne (by decide)]; exact hf5_h0
  have hf9_h0 : fs_40[9]? = some (.int 0) := by rw [efs_40, List.getElem?_set_ne (by decide)]; exact hf9_h0
  have hf25_h0 : fs_40[25]? = some (.int 0) := by rw [efs_40, List.getElem?_set_ne (by decide)]; exact hf25_h0
  have hf6_h0 : fs_40[6]? = some (.ref q_2) := by rw [efs_40, List.getElem?_set_ne (by decide)]; exact hf6_h0
  have hf7_h0 : fs_40[7]? = some (.ref q_5) := by rw [efs_40, List.getElem?_set_ne (by decide)]; exact hf7_h0
  have hf8_h0 : fs_40[8]? = some (.ref q_8) := by rw [efs_40, List.getElem?_set_ne (by decide)]; exact hf8_h0
  have hf10_h0 : fs_40[10]? = some (.ref q_11) := by rw [efs_40, List.getElem?_set_ne (by decide)]; exact hf10_h0
  have hf11_h0 : fs_40[11]? = some (.ref q_14) := by rw [efs_40, List.getElem?_set_ne (by decide)]; exact hf11_h0
  have hf12_h0 : fs_40[12]? = some (.ref q_17) := by rw [efs_40, List.getElem?_set_ne (by decide)]; exact hf12_h0
  have hf13_h0 : fs_40[13]? = some (.ref q_20) := by rw [efs_40, List.getElem?_set_ne (by decide)]; exact hf13_h0
  have hf14_h0 : fs_40[14]? = some (.ref q_23) := by rw [efs_40, List.getElem?_set_ne (by decide)]; exact hf14_h0
  have hf17_h0 : fs_40[17]? = some (.ref q_32) := by rw [efs_40, List.getElem?_set_ne (by decide)]; exact hf17_h0
  have hf18_h0 : fs_40[18]? = some (.ref q_35) := by rw [efs_40, List.getElem?_set_ne (by decide)]; exact hf18_h0
  have hf19_h0 : fs_40[19]? = some (.ref q_38) := by rw [efs_40]; exact List.getElem?_set_self (by rw [hlen_h0]; decide)
  have hlen_h0 : fs_40.length = 51 := by rw [efs_40, List.length_set]; exact hlen_h0
  obtain rfl : cA_3 = cA_39 := (k_same hK (i := 0) (j := 1) rfl rfl).symm
  have hK := hK.sub (tys' := [(cA_3, .int)]) [0] rfl
  refine lv_aload_n hx hb dX6_init_114 rfl (lv_at hl 0 rfl) ?_
  refine lv_bipush (v := 40) hx hb dX6_init_115 (by decide) ?_
  refine va_newa (atype := .boolean) (N' := 40) (a0 := (40, .inl (fun _ => 0))) hx hb (hts _ wm_164) rfl hK hP hD hS hA (fun _ => rfl) (by decide) rfl (Nat.le_of_ble_eq_true rfl) (Nat.le_of_ble_eq_true rfl) (Nat.le_of_ble_eq_true rfl) dX6_init_117 (fun q_41 cA_42 H hK hP hD hS => ?_)
  have hK : va_K (dC, dI) vwCl [(cA_3, .int), (cA_42, .boolean)] s := hK
  have hP : va_P (dC, dI) vwCl [(h0, .inr (6, fs_40)), (q_2, .inl (cA_3, 8, .inl (fun _ => 0))), (q_5, .inl (cA_3, 32, .inl (fun _ => 0))), (q_8, .inl (cA_3, 100, .inl (fun _ => 0))), (q_11, .inl (cA_3, 40, .inl (fun _ => 0))), (q_14, .inl (cA_3, 40, .inl (fun _ => 0))), (q_17, .inl (cA_3, 40, .inl (fun _ => 0))), (q_20, .inl (cA_3, 40, .inl (fun _ => 0))), (q_23, .inl (cA_3, 40, .inl (fun _ => 0))), (q_32, .inl (cA_3, 40, .inl (fun _ => 0))), (q_35, .inl (cA_3, 40, .inl (fun _ => 0))), (q_38, .inl (cA_3, 40, .inl (fun _ => 0))), (q_41, .inl (cA_42, 40, .inl (fun _ => 0)))] H := hP
  have hD : va_D A [(h0, .inr (6, fs_40)), (q_2, .inl (cA_3, 8, .inl (fun _ => 0))), (q_5, .inl (cA_3, 32, .inl (fun _ => 0))), (q_8, .inl (cA_3, 100, .inl (fun _ => 0))), (q_11, .inl (cA_3, 40, .inl (fun _ => 0))), (q_14, .inl (cA_3, 40, .inl (fun _ => 0))), (q_17, .inl (cA_3, 40, .inl (fun _ => 0))), (q_20, .inl (cA_3, 40, .inl (fun _ => 0))), (q_23, .inl (cA_3, 40, .inl (fun _ => 0))), (q_32, .inl (cA_3, 40, .inl (fun _ => 0))), (q_35, .inl (cA_3, 40, .inl (fun _ => 0))), (q_38, .inl (cA_3, 40, .inl (fun _ => 0))), (q_41, .inl (cA_42, 40, .inl (fun _ => 0)))] := hD
  refine va_putF (D := (dC, dI)) (ci := 6) (v := .ref q_41) (ty := .array (.boolean)) (C := RX6) (T := TX6) (N := 51) hx hb hts uB6 tyX6 tyX6_ok nmX6 hown hK hP hD hS 0 rfl rfl 20 (by decide) (hts _ wm_165) (fun _ h9 => h9) rfl hin rfl (by decide +kernel) rfl rfl (by rw [hlen_h0]; decide) dX6_init_119 (fun H locs hP hD hS => ?_)
  obtain ⟨fs_43, efs_43⟩ : ∃ z9, z9 = (fs_40).set 20 (.ref q_41) := ⟨_, rfl⟩
  have hP : va_P (dC, dI) vwCl [(h0, .inr (6, fs_43)), (q_2, .inl (cA_3, 8, .inl (fun _ => 0))), (q_5, .inl (cA_3, 32, .inl (fun _ => 0))), (q_8, .inl (cA_3, 100, .inl (fun _ => 0))), (q_11, .inl (cA_3, 40, .inl (fun _ => 0))), (q_14, .inl (cA_3, 40, .inl (fun _ => 0))), (q_17, .inl (cA_3, 40, .inl (fun _ => 0))), (q_20, .inl (cA_3, 40, .inl (fun _ => 0))), (q_23, .inl (cA_3, 40, .inl (fun _ => 0))), (q_32, .inl (cA_3, 40, .inl (fun _ => 0))), (q_35, .inl (cA_3, 40, .inl (fun _ => 0))), (q_38, .inl (cA_3, 40, .inl (fun _ => 0))), (q_41, .inl (cA_42, 40, .inl (fun _ => 0)))] H := by rw [efs_43]; exact hP
  have hD : va_D A [(h0, .inr (6, fs_43)), (q_2, .inl (cA_3, 8, .inl (fun _ => 0))), (q_5, .inl (cA_3, 32, .inl (fun _ => 0))), (q_8, .inl (cA_3, 100, .inl (fun _ => 0))), (q_11, .inl (cA_3, 40, .inl (fun _ => 0))), (q_14, .inl (cA_3, 40, .inl (fun _ => 0))), (q_17, .inl (cA_3, 40, .inl (fun _ => 0))), (q_20, .inl (cA_3, 40, .inl (fun _ => 0))), (q_23, .inl (cA_3, 40, .inl (fun _ => 0))), (q_32, .inl (cA_3, 40, .inl (fun _ => 0))), (q_35, .inl (cA_3, 40, .inl (fun _ => 0))), (q_38, .inl (cA_3, 40, .inl (fun _ => 0))), (q_41, .inl (cA_42, 40, .inl (fun _ => 0)))] := by rw [efs_43]; exact hD
  have hf1_h0 : fs_43[1]? = some (.int 0) := by rw [efs_43, List.getElem?_set_ne (by decide)]; exact hf1_h0
  have hf2_h0 : fs_43[2]? = some (.int 0) := by rw [efs_43, List.getElem?_set_ne (by decide)]; exact hf2_h0
  have hf3_h0 : fs_43[3]? = some (.int 0) := by rw [efs_43, List.getElem?_set_ne (by decide)]; exact hf3_h0
  have hf5_h0 : fs_43[5]? = some (.int 0) := by rw [efs_43, List.getElem?_set_ne (by decide)]; exact hf5_h0
  have hf9_h0 : fs_43[9]? = some (.int 0) := by rw [efs_43, List.getElem?_set_ne (by decide)]; exact hf9_h0
  have hf25_h0 : fs_43[25]? = some (.int 0) := by rw [efs_43, List.getElem?_set_ne (by decide)]; exact hf25_h0
  have hf6_h0 : fs_43[6]? = some (.ref q_2) := by rw [efs_43, List.getElem?_set_ne (by decide)]; exact hf6_h0
  have hf7_h0 : fs_43[7]? = some (.ref q_5) := by rw [efs_43, List.getElem?_set_ne (by decide)]; exact hf7_h0
  have hf8_h0 : fs_43[8]? = some (.ref q_8) := by rw [efs_43, List.getElem?_set_ne (by decide)]; exact hf8_h0
  have hf10_h0 : fs_43[10]? = some (.ref q_11) := by rw [efs_43, List.getElem?_set_ne (by decide)]; exact hf10_h0
  have hf11_h0 : fs_43[11]? = some (.ref q_14) := by rw [efs_43, List.getElem?_set_ne (by decide)]; exact hf11_h0
  have hf12_h0 : fs_43[12]? = some (.ref q_17) := by rw [efs_43, List.getElem?_set_ne (by decide)]; exact hf12_h0
  have hf13_h0 : fs_43[13]? = some (.ref q_20) := by rw [efs_43, List.getElem?_set_ne (by decide)]; exact hf13_h0
  have hf14_h0 : fs_43[14]? = some (.ref q_23) := by rw [efs_43, List.getElem?_set_ne (by decide)]; exact hf14_h0
  have hf17_h0 : fs_43[17]? = some (.ref q_32) := by rw [efs_43, List.getElem?_set_ne (by decide)]; exact hf17_h0
  have hf18_h0 : fs_43[18]? = some (.ref q_35) := by rw [efs_43, List.getElem?_set_ne (by decide)]; exact hf18_h0
  have hf19_h0 : fs_43[19]? = some (.ref q_38) := by rw [efs_43, List.getElem?_set_ne (by decide)]; exact hf19_h0
  have hlen_h0 : fs_43.length = 51 := by rw [efs_43, List.length_set]; exact hlen_h0
  have hK := hK.sub (tys' := [(cA_3, .int)]) [0] rfl
  have hP := hP.sub (ws' := [(h0, .inr (6, fs_43)), (q_2, .inl (cA_3, 8, .inl (fun _ => 0))), (q_5, .inl (cA_3, 32, .inl (fun _ => 0))), (q_8, .inl (cA_3, 100, .inl (fun _ => 0))), (q_11, .inl (cA_3, 40, .inl (fun _ => 0))), (q_14, .inl (cA_3, 40, .inl (fun _ => 0))), (q_17, .inl (cA_3, 40, .inl (fun _ => 0))), (q_20, .inl (cA_3, 40, .inl (fun _ => 0))), (q_23, .inl (cA_3, 40, .inl (fun _ => 0))), (q_32, .inl (cA_3, 40, .inl (fun _ => 0))), (q_35, .inl (cA_3, 40, .inl (fun _ => 0))), (q_38, .inl (cA_3, 40, .inl (fun _ => 0)))]) [0, 1, 2, 3, 4, 5, 6, 7, 8, 9, 10, 11] rfl
  have hD := hD.sub (ws' := [(h0, .inr (6, fs_43)), (q_2, .inl (cA_3, 8, .inl (fun _ => 0))), (q_5, .inl (cA_3, 32, .inl (fun _ => 0))), (q_8, .inl (cA_3, 100, .inl (fun _ => 0))), (q_11, .inl (cA_3, 40, .inl (fun _ => 0))), (q_14, .inl (cA_3, 40, .inl (fun _ => 0))), (q_17, .inl (cA_3, 40, .inl (fun _ => 0))), (q_20, .inl (cA_3, 40, .inl (fun _ => 0))), (q_23, .inl (cA_3, 40, .inl (fun _ => 0))), (q_32, .inl (cA_3, 40, .inl (fun _ => 0))), (q_35, .inl (cA_3, 40, .inl (fun _ => 0))), (q_38, .inl (cA_3, 40, .inl (fun _ => 0)))]) [0, 1, 2, 3, 4, 5, 6, 7, 8, 9, 10, 11] (by decide) rfl
  refine lv_aload_n hx hb dX6_init_122 rfl (lv_at hl 0 rfl) ?_
  refine lv_sipush (v := 1600) hx hb dX6_init_123 (by decide) ?_
  refine va_newa (atype := .boolean) (N' := 1600) (a0 := (1600, .inl (fun _ => 0))) hx hb (hts _ wm_164) rfl hK hP hD hS hA (fun _ => rfl) (by decide) rfl (Nat.le_of_ble_eq_true rfl) (Nat.le_of_ble_eq_true rfl) (Nat.le_of_ble_eq_true rfl) dX6_init_126 (fun q_44 cA_45 H hK hP hD hS => ?_)
  have hK : va_K (dC, dI) vwCl [(cA_3, .int), (cA_45, .boolean)] s := hK
  have hP : va_P (dC, dI) vwCl [(h0, .inr (6, fs_43)), (q_2, .inl (cA_3, 8, .inl (fun _ => 0))), (q_5, .inl (cA_3, 32, .inl (fun _ => 0))), (q_8, .inl (cA_3, 100, .inl (fun _ => 0))), (q_11, .inl (cA_3, 40, .inl (fun _ => 0))), (q_14, .inl (cA_3, 40, .inl (fun _ => 0))), (q_17, .inl (cA_3, 40, .inl (fun _ => 0))), (q_20, .inl (cA_3, 40, .inl (fun _ => 0))), (q_23, .inl (cA_3, 40, .inl (fun _ => 0))), (q_32, .inl (cA_3, 40, .inl (fun _ => 0))), (q_35, .inl (cA_3, 40, .inl (fun _ => 0))), (q_38, .inl (cA_3, 40, .inl (fun _ => 0))), (q_44, .inl (cA_45, 1600, .inl (fun _ => 0)))] H := hP
  have hD : va_D A [(h0, .inr (6, fs_43)), (q_2, .inl (cA_3, 8, .inl (fun _ => 0))), (q_5, .inl (cA_3, 32, .inl (fun _ => 0))), (q_8, .inl (cA_3, 100, .inl (fun _ => 0))), (q_11, .inl (cA_3, 40, .inl (fun _ => 0))), (q_14, .inl (cA_3, 40, .inl (fun _ => 0))), (q_17, .inl (cA_3, 40, .inl (fun _ => 0))), (q_20, .inl (cA_3, 40, .inl (fun _ => 0))), (q_23, .inl (cA_3, 40, .inl (fun _ => 0))), (q_32, .inl (cA_3, 40, .inl (fun _ => 0))), (q_35, .inl (cA_3, 40, .inl (fun _ => 0))), (q_38, .inl (cA_3, 40, .inl (fun _ => 0))), (q_44, .inl (cA_45, 1600, .inl (fun _ => 0)))] := hD
  refine va_putF (D := (dC, dI)) (ci := 6) (v := .ref q_44) (ty := .array (.boolean)) (C := RX6) (T := TX6) (N := 51) hx hb hts uB6 tyX6 tyX6_ok nmX6 hown hK hP hD hS 0 rfl rfl 21 (by decide) (hts _ wm_166) (fun _ h9 => h9) rfl hin rfl (by decide +kernel) rfl rfl (by rw [hlen_h0]; decide) dX6_init_128 (fun H locs hP hD hS => ?_)
  obtain ⟨fs_46, efs_46⟩ : ∃ z9, z9 = (fs_43).set 21 (.ref q_44) := ⟨_, rfl⟩
  have hP : va_P (dC, dI) vwCl [(h0, .inr (6, fs_46)), (q_2, .inl (cA_3, 8, .inl (fun _ => 0))), (q_5, .inl (cA_3, 32, .inl (fun _ => 0))), (q_8, .inl (cA_3, 100, .inl (fun _ => 0))), (q_11, .inl (cA_3, 40, .inl (fun _ => 0))), (q_14, .inl (cA_3, 40, .inl (fun _ => 0))), (q_17, .inl (cA_3, 40, .inl (fun _ => 0))), (q_20, .inl (cA_3, 40, .inl (fun _ => 0))), (q_23, .inl (cA_3, 40, .inl (fun _ => 0))), (q_32, .inl (cA_3, 40, .inl (fun _ => 0))), (q_35, .inl (cA_3, 40, .inl (fun _ => 0))), (q_38, .inl (cA_3, 40, .inl (fun _ => 0))), (q_44, .inl (cA_45, 1600, .inl (fun _ => 0)))] H := by rw [efs_46]; exact hP
  have hD : va_D A [(h0, .inr (6, fs_46)), (q_2, .inl (cA_3, 8, .inl (fun _ => 0))), (q_5, .inl (cA_3, 32, .inl (fun _ => 0))), (q_8, .inl (cA_3, 100, .inl (fun _ => 0))), (q_11, .inl (cA_3, 40, .inl (fun _ => 0))), (q_14, .inl (cA_3, 40, .inl (fun _ => 0))), (q_17, .inl (cA_3, 40, .inl (fun _ => 0))), (q_20, .inl (cA_3, 40, .inl (fun _ => 0))), (q_23, .inl (cA_3, 40, .inl (fun _ => 0))), (q_32, .inl (cA_3, 40, .inl (fun _ => 0))), (q_35, .inl (cA_3, 40, .inl (fun _ => 0))), (q_38, .inl (cA_3, 40, .inl (fun _ => 0))), (q_44, .inl (cA_45, 1600, .inl (fun _ => 0)))] := by rw [efs_46]; exact hD
  have hf1_h0 : fs_46[1]? = some (.int 0) := by rw [efs_46, List.getElem?_set_ne (by decide)]; exact hf1_h0
  have hf2_h0 : fs_46[2]? = some (.int 0) := by rw [efs_46, List.getElem?_set_ne (by decide)]; exact hf2_h0
  have hf3_h0 : fs_46[3]? = some (.int 0) := by rw [efs_46, List.getElem?_set_ne (by decide)]; exact hf3_h0
  have hf5_h0 : fs_46[5]? = some (.int 0) := by rw [efs_46, List.getElem?_set_ne (by decide)]; exact hf5_h0
  have hf9_h0 : fs_46[9]? = some (.int 0) := by rw [efs_46, List.getElem?_set_ne (by decide)]; exact hf9_h0
  have hf25_h0 : fs_46[25]? = some (.int 0) := by rw [efs_46, List.getElem?_set_ne (by decide)]; exact hf25_h0
  have hf6_h0 : fs_46[6]? = some (.ref q_2) := by rw [efs_46, List.getElem?_set_ne (by decide)]; exact hf6_h0
  have hf7_h0 : fs_46[7]? = some (.ref q_5) := by rw [efs_46, List.getElem?_set_ne (by decide)]; exact hf7_h0
  have hf8_h0 : fs_46[8]? = some (.ref q_8) := by rw [efs_46, List.getElem?_set_ne (by decide)]; exact hf8_h0
  have hf10_h0 : fs_46[10]? = some (.ref q_11) := by rw [efs_46, List.getElem?_set_ne (by decide)]; exact hf10_h0
  have hf11_h0 : fs_46[11]? = some (.ref q_14) := by rw [efs_46, List.getElem?_set_ne (by decide)]; exact hf11_h0
  have hf12_h0 : fs_46[12]? = some (.ref q_17) := by rw [efs_46, List.getElem?_set_ne (by decide)]; exact hf12_h0
  have hf13_h0 : fs_46[13]? = some (.ref q_20) := by rw [efs_46, List.getElem?_set_ne (by decide)]; exact hf13_h0
  have hf14_h0 : fs_46[14]? = some (.ref q_23) := by rw [efs_46, List.getElem?_set_ne (by decide)]; exact hf14_h0
  have hf17_h0 : fs_46[17]? = some (.ref q_32) := by rw [efs_46, List.getElem?_set_ne (by decide)]; exact hf17_h0
  have hf18_h0 : fs_46[18]? = some (.ref q_35) := by rw [efs_46, List.getElem?_set_ne (by decide)]; exact hf18_h0
  have hf19_h0 : fs_46[19]? = some (.ref q_38) := by rw [efs_46, List.getElem?_set_ne (by decide)]; exact hf19_h0
  have hlen_h0 : fs_46.length = 51 := by rw [efs_46, List.length_set]; exact hlen_h0
  have hK := hK.sub (tys' := [(cA_3, .int)]) [0] rfl
  have hP := hP.sub (ws' := [(h0, .inr (6, fs_46)), (q_2, .inl (cA_3, 8, .inl (fun _ => 0))), (q_5, .inl (cA_3, 32, .inl (fun _ => 0))), (q_8, .inl (cA_3, 100, .inl (fun _ => 0))), (q_11, .inl (cA_3, 40, .inl (fun _ => 0))), (q_14, .inl (cA_3, 40, .inl (fun _ => 0))), (q_17, .inl (cA_3, 40, .inl (fun _ => 0))), (q_20, .inl (cA_3, 40, .inl (fun _ => 0))), (q_23, .inl (cA_3, 40, .inl (fun _ => 0))), (q_32, .inl (cA_3, 40, .inl (fun _ => 0))), (q_35, .inl (cA_3, 40, .inl (fun _ => 0))), (q_38, .inl (cA_3, 40, .inl (fun _ => 0)))]) [0, 1, 2, 3, 4, 5, 6, 7, 8, 9, 10, 11] rfl
  have hD := hD.sub (ws' := [(h0, .inr (6, fs_46)), (q_2, .inl (cA_3, 8, .inl (fun _ => 0))), (q_5, .inl (cA_3, 32, .inl (fun _ => 0))), (q_8, .inl (cA_3, 100, .inl (fun _ => 0))), (q_11, .inl (cA_3, 40, .inl (fun _ => 0))), (q_14, .inl (cA_3, 40, .inl (fun _ => 0))), (q_17, .inl (cA_3, 40, .inl (fun _ => 0))), (q_20, .inl (cA_3, 40, .inl (fun _ => 0))), (q_23, .inl (cA_3, 40, .inl (fun _ => 0))), (q_32, .inl (cA_3, 40, .inl (fun _ => 0))), (q_35, .inl (cA_3, 40, .inl (fun _ => 0))), (q_38, .inl (cA_3, 40, .inl (fun _ => 0)))]) [0, 1, 2, 3, 4, 5, 6, 7, 8, 9, 10, 11] (by decide) rfl
  refine lv_aload_n hx hb dX6_init_131 rfl (lv_at hl 0 rfl) ?_
  refine lv_bipush (v := 40) hx hb dX6_init_132 (by decide) ?_
  refine va_newa (atype := .int) (N' := 40) (a0 := (40, .inl (fun _ => 0))) hx hb (hts _ wm_80) rfl hK hP hD hS hA (fun _ => rfl) (by decide) rfl (Nat.le_of_ble_eq_true rfl) (Nat.le_of_ble_eq_true rfl) (Nat.le_of_ble_eq_true rfl) dX6_init_134 (fun q_47 cA_48 H hK hP hD hS => ?_)
  have hK : va_K (dC, dI) vwCl [(cA_3, .int), (cA_48, .int)] s := hK
  have hP : va_P (dC, dI) vwCl [(h0, .inr (6, fs_46)), (q_2, .inl (cA_3, 8, .inl (fun _ => 0))), (q_5, .inl (cA_3, 32, .inl (fun _ => 0))), (q_8, .inl (cA_3, 100, .inl (fun _ => 0))), (q_11, .inl (cA_3, 40, .inl (fun _ => 0))), (q_14, .inl (cA_3, 40, .inl (fun _ => 0))), (q_17, .inl (cA_3, 40, .inl (fun _ => 0))), (q_20, .inl (cA_3, 40, .inl (fun _ => 0))), (q_23, .inl (cA_3, 40, .inl (fun _ => 0))), (q_32, .inl (cA_3, 40, .inl (fun _ => 0))), (q_35, .inl (cA_3, 40, .inl (fun _ => 0))), (q_38, .inl (cA_3, 40, .inl (fun _ => 0))), (q_47, .inl (cA_48, 40, .inl (fun _ => 0)))] H := hP
  have hD : va_D A [(h0, .inr (6, fs_46)), (q_2, .inl (cA_3, 8, .inl (fun _ => 0))), (q_5, .inl (cA_3, 32, .inl (fun _ => 0))), (q_8, .inl (cA_3, 100, .inl (fun _ => 0))), (q_11, .inl (cA_3, 40, .inl (fun _ => 0))), (q_14, .inl (cA_3, 40, .inl (fun _ => 0))), (q_17, .inl (cA_3, 40, .inl (fun _ => 0))), (q_20, .inl (cA_3, 40, .inl (fun _ => 0))), (q_23, .inl (cA_3, 40, .inl (fun _ => 0))), (q_32, .inl (cA_3, 40, .inl (fun _ => 0))), (q_35, .inl (cA_3, 40, .inl (fun _ => 0))), (q_38, .inl (cA_3, 40, .inl (fun _ => 0))), (q_47, .inl (cA_48, 40, .inl (fun _ => 0)))] := hD
  refine va_putF (D := (dC, dI)) (ci := 6) (v := .ref q_47) (ty := .array (.int)) (C := RX6) (T := TX6) (N := 51) hx hb hts uB6 tyX6 tyX6_ok nmX6 hown hK hP hD hS 0 rfl rfl 22 (by decide) (hts _ wm_138) (fun _ h9 => h9) rfl hin rfl (by decide +kernel) rfl rfl (by rw [hlen_h0]; decide) dX6_init_136 (fun H locs hP hD hS => ?_)
  obtain ⟨fs_49, efs_49⟩ : ∃ z9, z9 = (fs_46).set 22 (.ref q_47) := ⟨_, rfl⟩
  have hP : va_P (dC, dI) vwCl [(h0, .inr (6, fs_49)), (q_2, .inl (cA_3, 8, .inl (fun _ => 0))), (q_5, .inl (cA_3, 32, .inl (fun _ => 0))), (q_8, .inl (cA_3, 100, .inl (fun _ => 0))), (q_11, .inl (cA_3, 40, .inl (fun _ => 0))), (q_14, .inl (cA_3, 40, .inl (fun _ => 0))), (q_17, .inl (cA_3, 40, .inl (fun _ => 0))), (q_20, .inl (cA_3, 40, .inl (fun _ => 0))), (q_23, .inl (cA_3, 40, .inl (fun _ => 0))), (q_32, .inl (cA_3, 40, .inl (fun _ => 0))), (q_35, .inl (cA_3, 40, .inl (fun _ => 0))), (q_38, .inl (cA_3, 40, .inl (fun _ => 0))), (q_47, .inl (cA_48, 40, .inl (fun _ => 0)))] H := by rw [efs_49]; exact hP
  have hD : va_D A [(h0, .inr (6, fs_49)), (q_2, .inl (cA_3, 8, .inl (fun _ => 0))), (q_5, .inl (cA_3, 32, .inl (fun _ => 0))), (q_8, .inl (cA_3, 100, .inl (fun _ => 0))), (q_11, .inl (cA_3, 40, .inl (fun _ => 0))), (q_14, .inl (cA_3, 40, .inl (fun _ => 0))), (q_17, .inl (cA_3, 40, .inl (fun _ => 0))), (q_20, .inl (cA_3, 40, .inl (fun _ => 0))), (q_23, .inl (cA_3, 40, .inl (fun _ => 0))), (q_32, .inl (cA_3, 40, .inl (fun _ => 0))), (q_35, .inl (cA_3, 40, .inl (fun _ => 0))), (q_38, .inl (cA_3, 40, .inl (fun _ => 0))), (q_47, .inl (cA_48, 40, .inl (fun _ => 0)))] := by rw [efs_49]; exact hD
  have hf1_h0 : fs_49[1]? = some (.int 0) := by rw [efs_49, List.getElem?_set_ne (by decide)]; exact hf1_h0
  have hf2_h0 : fs_49[2]? = some (.int 0) := by rw [efs_49, List.getElem?_set_ne (by decide)]; exact hf2_h0
  have hf3_h0 : fs_49[3]? = some (.int 0) := by rw [efs_49, List.getElem?_set_ne (by decide)]; exact hf3_h0
  have hf5_h0 : fs_49[5]? = some (.int 0) := by rw [efs_49, List.getElem?_set_ne (by decide)]; exact hf5_h0
  have hf9_h0 : fs_49[9]? = some (.int 0) := by rw [efs_49, List.getElem?_set_ne (by decide)]; exact hf9_h0
  have hf25_h0 : fs_49[25]? = some (.int 0) := by rw [efs_49, List.getElem?_set_ne (by decide)]; exact hf25_h0
  have hf6_h0 : fs_49[6]? = some (.ref q_2) := by rw [efs_49, List.getElem?_set_ne (by decide)]; exact hf6_h0
  have hf7_h0 : fs_49[7]? = some (.ref q_5) := by rw [efs_49, List.getElem?_set_ne (by decide)]; exact hf7_h0
  have hf8_h0 : fs_49[8]? = some (.ref q_8) := by rw [efs_49, List.getElem?_set_ne (by decide)]; exact hf8_h0
  have hf10_h0 : fs_49[10]? = some (.ref q_11) := by rw [efs_49, List.getElem?_set_ne (by decide)]; exact hf10_h0
  have hf11_h0 : fs_49[11]? = some (.ref q_14) := by rw [efs_49, List.getElem?_set_ne (by decide)]; exact hf11_h0
  have hf12_h0 : fs_49[12]? = some (.ref q_17) := by rw [efs_49, List.getElem?_set_ne (by decide)]; exact hf12_h0
  have hf13_h0 : fs_49[13]? = some (.ref q_20) := by rw [efs_49, List.getElem?_set_ne (by decide)]; exact hf13_h0
  have hf14_h0 : fs_49[14]? = some (.ref q_23) := by rw [efs_49, List.getElem?_set_ne (by decide)]; exact hf14_h0
  have hf17_h0 : fs_49[17]? = some (.ref q_32) := by rw [efs_49, List.getElem?_set_ne (by decide)]; exact hf17_h0
  have hf18_h0 : fs_49[18]? = some (.ref q_35) := by rw [efs_49, List.getElem?_set_ne (by decide)]; exact hf18_h0
  have hf19_h0 : fs_49[19]? = some (.ref q_38) := by rw [efs_49, List.getElem?_set_ne (by decide)]; exact hf19_h0
  have hf22_h0 : fs_49[22]? = some (.ref q_47) := by rw [efs_49]; exact List.getElem?_set_self (by rw [hlen_h0]; decide)
  have hlen_h0 : fs_49.length = 51 := by rw [efs_49, List.length_set]; exact hlen_h0
  obtain rfl : cA_3 = cA_48 := (k_same hK (i := 0) (j := 1) rfl rfl).symm
  have hK := hK.sub (tys' := [(cA_3, .int)]) [0] rfl
  refine lv_aload_n hx hb dX6_init_139 rfl (lv_at hl 0 rfl) ?_
  refine lv_bipush (v := 40) hx hb dX6_init_140 (by decide) ?_
  refine va_newa (atype := .int) (N' := 40) (a0 := (40, .inl (fun _ => 0))) hx hb (hts _ wm_80) rfl hK hP hD hS hA (fun _ => rfl) (by decide) rfl (Nat.le_of_ble_eq_true rfl) (Nat.le_of_ble_eq_true rfl) (Nat.le_of_ble_eq_true rfl) dX6_init_142 (fun q_50 cA_51 H hK hP hD hS => ?_)
  have hK : va_K (dC, dI) vwCl [(cA_3, .int), (cA_51, .int)] s := hK
  have hP : va_P (dC, dI) vwCl [(h0, .inr (6, fs_49)), (q_2, .inl (cA_3, 8, .inl (fun _ => 0))), (q_5, .inl (cA_3, 32, .inl (fun _ => 0))), (q_8, .inl (cA_3, 100, .inl (fun _ => 0))), (q_11, .inl (cA_3, 40, .inl (fun _ => 0))), (q_14, .inl (cA_3, 40, .inl (fun _ => 0))), (q_17, .inl (cA_3, 40, .inl (fun _ => 0))), (q_20, .inl (cA_3, 40, .inl (fun _ => 0))), (q_23, .inl (cA_3, 40, .inl (fun _ => 0))), (q_32, .inl (cA_3, 40, .inl (fun _ => 0))), (q_35, .inl (cA_3, 40, .inl (fun _ => 0))), (q_38, .inl (cA_3, 40, .inl (fun _ => 0))), (q_47, .inl (cA_3, 40, .inl (fun _ => 0))), (q_50, .inl (cA_51, 40, .inl (fun _ => 0)))] H := hP
  have hD : va_D A [(h0, .inr (6, fs_49)), (q_2, .inl (cA_3, 8, .inl (fun _ => 0))), (q_5, .inl (cA_3, 32, .inl (fun _ => 0))), (q_8, .inl (cA_3, 100, .inl (fun _ => 0))), (q_11, .inl (cA_3, 40, .inl (fun _ => 0))), (q_14, .inl (cA_3, 40, .inl (fun _ => 0))), (q_17, .inl (cA_3, 40, .inl (fun _ => 0))), (q_20, .inl (cA_3, 40, .inl (fun _ => 0))), (q_23, .inl (cA_3, 40, .inl (fun _ => 0))), (q_32, .inl (cA_3, 40, .inl (fun _ => 0))), (q_35, .inl (cA_3, 40, .inl (fun _ => 0))), (q_38, .inl (cA_3, 40, .inl (fun _ => 0))), (q_47, .inl (cA_3, 40, .inl (fun _ => 0))), (q_50, .inl (cA_51, 40, .inl (fun _ => 0)))] := hD
  refine va_putF (D := (dC, dI)) (ci := 6) (v := .ref q_50) (ty := .array (.int)) (C := RX6) (T := TX6) (N := 51) hx hb hts uB6 tyX6 tyX6_ok nmX6 hown hK hP hD hS 0 rfl rfl 23 (by decide) (hts _ wm_167) (fun _ h9 => h9) rfl hin rfl (by decide +kernel) rfl rfl (by rw [hlen_h0]; decide) dX6_init_144 (fun H locs hP hD hS => ?_)
  obtain ⟨fs_52, efs_52⟩ : ∃ z9, z9 = (fs_49).set 23 (.ref q_50) := ⟨_, rfl⟩
  have hP : va_P (dC, dI) vwCl [(h0, .inr (6, fs_52)), (q_2, .inl (cA_3, 8, .inl (fun _ => 0))), (q_5, .inl (cA_3, 32, .inl (fun _ => 0))), (q_8, .inl (cA_3, 100, .inl (fun _ => 0))), (q_11, .inl (cA_3, 40, .inl (fun _ => 0))), (q_14, .inl (cA_3, 40, .inl (fun _ => 0))), (q_17, .inl (cA_3, 40, .inl (fun _ => 0))), (q_20, .inl (cA_3, 40, .inl (fun _ => 0))), (q_23, .inl (cA_3, 40, .inl (fun _ => 0))), (q_32, .inl (cA_3, 40, .inl (fun _ => 0))), (q_35, .inl (cA_3, 40, .inl (fun _ => 0))), (q_38, .inl (cA_3, 40, .inl (fun _ => 0))), (q_47, .inl (cA_3, 40, .inl (fun _ => 0))), (q_50, .inl (cA_51, 40, .inl (fun _ => 0)))] H := by rw [efs_52]; exact hP
  have hD : va_D A [(h0, .inr (6, fs_52)), (q_2, .inl (cA_3, 8, .inl (fun _ => 0))), (q_5, .inl (cA_3, 32, .inl (fun _ => 0))), (q_8, .inl (cA_3, 100, .inl (fun _ => 0))), (q_11, .inl (cA_3, 40, .inl (fun _ => 0))), (q_14, .inl (cA_3, 40, .inl (fun _ => 0))), (q_17, .inl (cA_3, 40, .inl (fun _ => 0))), (q_20, .inl (cA_3, 40, .inl (fun _ => 0))), (q_23, .inl (cA_3, 40, .inl (fun _ => 0))), (q_32, .inl (cA_3, 40, .inl (fun _ => 0))), (q_35, .inl (cA_3, 40, .inl (fun _ => 0))), (q_38, .inl (cA_3, 40, .inl (fun _ => 0))), (q_47, .inl (cA_3, 40, .inl (fun _ => 0))), (q_50, .inl (cA_51, 40, .inl (fun _ => 0)))] := by rw [efs_52]; exact hD
  have hf1_h0 : fs_52[1]? = some (.int 0) := by rw [efs_52, List.getElem?_set_ne (by decide)]; exact hf1_h0
  have hf2_h0 : fs_52[2]? = some (.int 0) := by rw [efs_52, List.getElem?_set_ne (by decide)]; exact hf2_h0
  have hf3_h0 : fs_52[3]? = some (.int 0) := by rw [efs_52, List.getElem?_set_ne (by decide)]; exact hf3_h0
  have hf5_h0 : fs_52[5]? = some (.int 0) := by rw [efs_52, List.getElem?_set_ne (by decide)]; exact hf5_h0
  have hf9_h0 : fs_52[9]? = some (.int 0) := by rw [efs_52, List.getElem?_set_ne (by decide)]; exact hf9_h0
  have hf25_h0 : fs_52[25]? = some (.int 0) := by rw [efs_52, List.getElem?_set_ne (by decide)]; exact hf25_h0
  have hf6_h0 : fs_52[6]? = some (.ref q_2) := by rw [efs_52, List.getElem?_set_ne (by decide)]; exact hf6_h0
  have hf7_h0 : fs_52[7]? = some (.ref q_5) := by rw [efs_52, List.getElem?_set_ne (by decide)]; exact hf7_h0
  have hf8_h0 : fs_52[8]? = some (.ref q_8) := by rw [efs_52, List.getElem?_set_ne (by decide)]; exact hf8_h0
  have hf10_h0 : fs_52[10]? = some (.ref q_11) := by rw [efs_52, List.getElem?_set_ne (by decide)]; exact hf10_h0
  have hf11_h0 : fs_52[11]? = some (.ref q_14) := by rw [efs_52, List.getElem?_set_ne (by decide)]; exact hf11_h0
  have hf12_h0 : fs_52[12]? = some (.ref q_17) := by rw [efs_52, List.getElem?_set_ne (by decide)]; exact hf12_h0
  have hf13_h0 : fs_52[13]? = some (.ref q_20) := by rw [efs_52, List.getElem?_set_ne (by decide)]; exact hf13_h0
  have hf14_h0 : fs_52[14]? = some (.ref q_23) := by rw [efs_52, List.getElem?_set_ne (by decide)]; exact hf14_h0
  have hf17_h0 : fs_52[17]? = some (.ref q_32) := by rw [efs_52, List.getElem?_set_ne (by decide)]; exact hf17_h0
  have hf18_h0 : fs_52[18]? = some (.ref q_35) := by rw [efs_52, List.getElem?_set_ne (by decide)]; exact hf18_h0
  have hf19_h0 : fs_52[19]? = some (.ref q_38) := by rw [efs_52, List.getElem?_set_ne (by decide)]; exact hf19_h0
  have hf22_h0 : fs_52[22]? = some (.ref q_47) := by rw [efs_52, List.getElem?_set_ne (by decide)]; exact hf22_h0
  have hlen_h0 : fs_52.length = 51 := by rw [efs_52, List.length_set]; exact hlen_h0
  have hK := hK.sub (tys' := [(cA_3, .int)]) [0] rfl
  have hP := hP.sub (ws' := [(h0, .inr (6, fs_52)), (q_2, .inl (cA_3, 8, .inl (fun _ => 0))), (q_5, .inl (cA_3, 32, .inl (fun _ => 0))), (q_8, .inl (cA_3, 100, .inl (fun _ => 0))), (q_11, .inl (cA_3, 40, .inl (fun _ => 0))), (q_14, .inl (cA_3, 40, .inl (fun _ => 0))), (q_17, .inl (cA_3, 40, .inl (fun _ => 0))), (q_20, .inl (cA_3, 40, .inl (fun _ => 0))), (q_23, .inl (cA_3, 40, .inl (fun _ => 0))), (q_32, .inl (cA_3, 40, .inl (fun _ => 0))), (q_35, .inl (cA_3, 40, .inl (fun _ => 0))), (q_38, .inl (cA_3, 40, .inl (fun _ => 0))), (q_47, .inl (cA_3, 40, .inl (fun _ => 0)))]) [0, 1, 2, 3, 4, 5, 6, 7, 8, 9, 10, 11, 12] rfl
  have hD := hD.sub (ws' := [(h0, .inr (6, fs_52)), (q_2, .inl (cA_3, 8, .inl (fun _ => 0))), (q_5, .inl (cA_3, 32, .inl (fun _ => 0))), (q_8, .inl (cA_3, 100, .inl (fun _ => 0))), (q_11, .inl (cA_3, 40, .inl (fun _ => 0))), (q_14, .inl (cA_3, 40, .inl (fun _ => 0))), (q_17, .inl (cA_3, 40, .inl (fun _ => 0))), (q_20, .inl (cA_3, 40, .inl (fun _ => 0))), (q_23, .inl (cA_3, 40, .inl (fun _ => 0))), (q_32, .inl (cA_3, 40, .inl (fun _ => 0))), (q_35, .inl (cA_3, 40, .inl (fun _ => 0))), (q_38, .inl (cA_3, 40, .inl (fun _ => 0))), (q_47, .inl (cA_3, 40, .inl (fun _ => 0)))]) [0, 1, 2, 3, 4, 5, 6, 7, 8, 9, 10, 11, 12] (by decide) rfl
  refine lv_aload_n hx hb dX6_init_147 rfl (lv_at hl 0 rfl) ?_
  refine lv_bipush (v := 40) hx hb dX6_init_148 (by decide) ?_
  refine va_newa (atype := .int) (N' := 40) (a0 := (40, .inl (fun _ => 0))) hx hb (hts _ wm_80) rfl hK hP hD hS hA (fun _ => rfl) (by decide) rfl (Nat.le_of_ble_eq_true rfl) (Nat.le_of_ble_eq_true rfl) (Nat.le_of_ble_eq_true rfl) dX6_init_150 (fun q_53 cA_54 H hK hP hD hS => ?_)
  have hK : va_K (dC, dI) vwCl [(cA_3, .int), (cA_54, .int)] s := hK
  have hP : va_P (dC, dI) vwCl [(h0, .inr (6, fs_52)), (q_2, .inl (cA_3, 8, .inl (fun _ => 0))), (q_5, .inl (cA_3, 32, .inl (fun _ => 0))), (q_8, .inl (cA_3, 100, .inl (fun _ => 0))), (q_11, .inl (cA_3, 40, .inl (fun _ => 0))), (q_14, .inl (cA_3, 40, .inl (fun _ => 0))), (q_17, .inl (cA_3, 40, .inl (fun _ => 0))), (q_20, .inl (cA_3, 40, .inl (fun _ => 0))), (q_23, .inl (cA_3, 40, .inl (fun _ => 0))), (q_32, .inl (cA_3, 40, .inl (fun _ => 0))), (q_35, .inl (cA_3, 40, .inl (fun _ => 0))), (q_38, .inl (cA_3, 40, .inl (fun _ => 0))), (q_47, .inl (cA_3, 40, .inl (fun _ => 0))), (q_53, .inl (cA_54, 40, .inl (fun _ => 0)))] H := hP
  have hD : va_D A [(h0, .inr (6, fs_52)), (q_2, .inl (cA_3, 8, .inl (fun _ => 0))), (q_5, .inl (cA_3, 32, .inl (fun _ => 0))), (q_8, .inl (cA_3, 100, .inl (fun _ => 0))), (q_11, .inl (cA_3, 40, .inl (fun _ => 0))), (q_14, .inl (cA_3, 40, .inl (fun _ => 0))), (q_17, .inl (cA_3, 40, .inl (fun _ => 0))), (q_20, .inl (cA_3, 40, .inl (fun _ => 0))), (q_23, .inl (cA_3, 40, .inl (fun _ => 0))), (q_32, .inl (cA_3, 40, .inl (fun _ => 0))), (q_35, .inl (cA_3, 40, .inl (fun _ => 0))), (q_38, .inl (cA_3, 40, .inl (fun _ => 0))), (q_47, .inl (cA_3, 40, .inl (fun _ => 0))), (q_53, .inl (cA_54, 40, .inl (fun _ => 0)))] := hD
  refine va_putF (D := (dC, dI)) (ci := 6) (v := .ref q_53) (ty := .array (.int)) (C := RX6) (T := TX6) (N := 51) hx hb hts uB6 tyX6 tyX6_ok nmX6 hown hK hP hD hS 0 rfl rfl 24 (by decide) (hts _ wm_168) (fun _ h9 => h9) rfl hin rfl (by decide +kernel) rfl rfl (by rw [hlen_h0]; decide) dX6_init_152 (fun H locs hP hD hS => ?_)
  obtain ⟨fs_55, efs_55⟩ : ∃ z9, z9 = (fs_52).set 24 (.ref q_53) := ⟨_, rfl⟩
  have hP : va_P (dC, dI) vwCl [(h0, .inr (6, fs_55)), (q_2, .inl (cA_3, 8, .inl (fun _ => 0))), (q_5, .inl (cA_3, 32, .inl (fun _ => 0))), (q_8, .inl (cA_3, 100, .inl (fun _ => 0))), (q_11, .inl (cA_3, 40, .inl (fun _ => 0))), (q_14, .inl (cA_3, 40, .inl (fun _ => 0))), (q_17, .inl (cA_3, 40, .inl (fun _ => 0))), (q_20, .inl (cA_3, 40, .inl (fun _ => 0))), (q_23, .inl (cA_3, 40, .inl (fun _ => 0))), (q_32, .inl (cA_3, 40, .inl (fun _ => 0))), (q_35, .inl (cA_3, 40, .inl (fun _ => 0))), (q_38, .inl (cA_3, 40, .inl (fun _ => 0))), (q_47, .inl (cA_3, 40, .inl (fun _ => 0))), (q_53, .inl (cA_54, 40, .inl (fun _ => 0)))] H := by rw [efs_55]; exact hP
  have hD : va_D A [(h0, .inr (6, fs_55)), (q_2, .inl (cA_3, 8, .inl (fun _ => 0))), (q_5, .inl (cA_3, 32, .inl (fun _ => 0))), (q_8, .inl (cA_3, 100, .inl (fun _ => 0))), (q_11, .inl (cA_3, 40, .inl (fun _ => 0))), (q_14, .inl (cA_3, 40, .inl (fun _ => 0))), (q_17, .inl (cA_3, 40, .inl (fun _ => 0))), (q_20, .inl (cA_3, 40, .inl (fun _ => 0))), (q_23, .inl (cA_3, 40, .inl (fun _ => 0))), (q_32, .inl (cA_3, 40, .inl (fun _ => 0))), (q_35, .inl (cA_3, 40, .inl (fun _ => 0))), (q_38, .inl (cA_3, 40, .inl (fun _ => 0))), (q_47, .inl (cA_3, 40, .inl (fun _ => 0))), (q_53, .inl (cA_54, 40, .inl (fun _ => 0)))] := by rw [efs_55]; exact hD
  have hf1_h0 : fs_55[1]? = some (.int 0) := by rw [efs_55, List.getElem?_set_ne (by decide)]; exact hf1_h0
  have hf2_h0 : fs_55[2]? = some (.int 0) := by rw [efs_55, List.getElem?_set_ne (by decide)]; exact hf2_h0
  have hf3_h0 : fs_55[3]? = some (.int 0) := by rw [efs_55, List.getElem?_set_ne (by decide)]; exact hf3_h0
  have hf5_h0 : fs_55[5]? = some (.int 0) := by rw [efs_55, List.getElem?_set_ne (by decide)]; exact hf5_h0
  have hf9_h0 : fs_55[9]? = some (.int 0) := by rw [efs_55, List.getElem?_set_ne (by decide)]; exact hf9_h0
  have hf25_h0 : fs_55[25]? = some (.int 0) := by rw [efs_55, List.getElem?_set_ne (by decide)]; exact hf25_h0
  have hf6_h0 : fs_55[6]? = some (.ref q_2) := by rw [efs_55, List.getElem?_set_ne (by decide)]; exact hf6_h0
  have hf7_h0 : fs_55[7]? = some (.ref q_5) := by rw [efs_55, List.getElem?_set_ne (by decide)]; exact hf7_h0
  have hf8_h0 : fs_55[8]? = some (.ref q_8) := by rw [efs_55, List.getElem?_set_ne (by decide)]; exact hf8_h0
  have hf10_h0 : fs_55[10]? = some (.ref q_11) := by rw [efs_55, List.getElem?_set_ne (by decide)]; exact hf10_h0
  have hf11_h0 : fs_55[11]? = some (.ref q_14) := by rw [efs_55, List.getElem?_set_ne (by decide)]; exact hf11_h0
  have hf12_h0 : fs_55[12]? = some (.ref q_17) := by rw [efs_55, List.getElem?_set_ne (by decide)]; exact hf12_h0
  have hf13_h0 : fs_55[13]? = some (.ref q_20) := by rw [efs_55, List.getElem?_set_ne (by decide)]; exact hf13_h0
  have hf14_h0 : fs_55[14]? = some (.ref q_23) := by rw [efs_55, List.getElem?_set_ne (by decide)]; exact hf14_h0
  have hf17_h0 : fs_55[17]? = some (.ref q_32) := by rw [efs_55, List.getElem?_set_ne (by decide)]; exact hf17_h0
  have hf18_h0 : fs_55[18]? = some (.ref q_35) := by rw [efs_55, List.getElem?_set_ne (by decide)]; exact hf18_h0
  have hf19_h0 : fs_55[19]? = some (.ref q_38) := by rw [efs_55, List.getElem?_set_ne (by decide)]; exact hf19_h0
  have hf22_h0 : fs_55[22]? = some (.ref q_47) := by rw [efs_55, List.getElem?_set_ne (by decide)]; exact hf22_h0
  have hlen_h0 : fs_55.length = 51 := by rw [efs_55, List.length_set]; exact hlen_h0
  have hK := hK.sub (tys' := [(cA_3, .int)]) [0] rfl
  have hP := hP.sub (ws' := [(h0, .inr (6, fs_55)), (q_2, .inl (cA_3, 8, .inl (fun _ => 0))), (q_5, .inl (cA_3, 32, .inl (fun _ => 0))), (q_8, .inl (cA_3, 100, .inl (fun _ => 0))), (q_11, .inl (cA_3, 40, .inl (fun _ => 0))), (q_14, .inl (cA_3, 40, .inl (fun _ => 0))), (q_17, .inl (cA_3, 40, .inl (fun _ => 0))), (q_20, .inl (cA_3, 40, .inl (fun _ => 0))), (q_23, .inl (cA_3, 40, .inl (fun _ => 0))), (q_32, .inl (cA_3, 40, .inl (fun _ => 0))), (q_35, .inl (cA_3, 40, .inl (fun _ => 0))), (q_38, .inl (cA_3, 40, .inl (fun _ => 0))), (q_47, .inl (cA_3, 40, .inl (fun _ => 0)))]) [0, 1, 2, 3, 4, 5, 6, 7, 8, 9, 10, 11, 12] rfl
  have hD := hD.sub (ws' := [(h0, .inr (6, fs_55)), (q_2, .inl (cA_3, 8, .inl (fun _ => 0))), (q_5, .inl (cA_3, 32, .inl (fun _ => 0))), (q_8, .inl (cA_3, 100, .inl (fun _ => 0))), (q_11, .inl (cA_3, 40, .inl (fun _ => 0))), (q_14, .inl (cA_3, 40, .inl (fun _ => 0))), (q_17, .inl (cA_3, 40, .inl (fun _ => 0))), (q_20, .inl (cA_3, 40, .inl (fun _ => 0))), (q_23, .inl (cA_3, 40, .inl (fun _ => 0))), (q_32, .inl (cA_3, 40, .inl (fun _ => 0))), (q_35, .inl (cA_3, 40, .inl (fun _ => 0))), (q_38, .inl (cA_3, 40, .inl (fun _ => 0))), (q_47, .inl (cA_3, 40, .inl (fun _ => 0)))]) [0, 1, 2, 3, 4, 5, 6, 7, 8, 9, 10, 11, 12] (by decide) rfl
  refine lv_aload_n hx hb dX6_init_155 rfl (lv_at hl 0 rfl) ?_
  refine lv_sipush (v := 1000) hx hb dX6_init_156 (by decide) ?_
  refine va_newa (atype := .int) (N' := 1000) (a0 := (1000, .inl (fun _ => 0))) hx hb (hts _ wm_80) rfl hK hP hD hS hA (fun _ => rfl) (by decide) rfl (Nat.le_of_ble_eq_true rfl) (Nat.le_of_ble_eq_true rfl) (Nat.le_of_ble_eq_true rfl) dX6_init_159 (fun q_56 cA_57 H hK hP hD hS => ?_)
  have hK : va_K (dC, dI) vwCl [(cA_3, .int), (cA_57, .int)] s := hK
  have hP : va_P (dC, dI) vwCl [(h0, .inr (6, fs_55)), (q_2, .inl (cA_3, 8, .inl (fun _ => 0))), (q_5, .inl (cA_3, 32, .inl (fun _ => 0))), (q_8, .inl (cA_3, 100, .inl (fun _ => 0))), (q_11, .inl (cA_3, 40, .inl (fun _ => 0))), (q_14, .inl (cA_3, 40, .inl (fun _ => 0))), (q_17, .inl (cA_3, 40, .inl (fun _ => 0))), (q_20, .inl (cA_3, 40, .inl (fun _ => 0))), (q_23, .inl (cA_3, 40, .inl (fun _ => 0))), (q_32, .inl (cA_3, 40, .inl (fun _ => 0))), (q_35, .inl (cA_3, 40, .inl (fun _ => 0))), (q_38, .inl (cA_3, 40, .inl (fun _ => 0))), (q_47, .inl (cA_3, 40, .inl (fun _ => 0))), (q_56, .inl (cA_57, 1000, .inl (fun _ => 0)))] H := hP
  have hD : va_D A [(h0, .inr (6, fs_55)), (q_2, .inl (cA_3, 8, .inl (fun _ => 0))), (q_5, .inl (cA_3, 32, .inl (fun _ => 0))), (q_8, .inl (cA_3, 100, .inl (fun _ => 0))), (q_11, .inl (cA_3, 40, .inl (fun _ => 0))), (q_14, .inl (cA_3, 40, .inl (fun _ => 0))), (q_17, .inl (cA_3, 40, .inl (fun _ => 0))), (q_20, .inl (cA_3, 40, .inl (fun _ => 0))), (q_23, .inl (cA_3, 40, .inl (fun _ => 0))), (q_32, .inl (cA_3, 40, .inl (fun _ => 0))), (q_35, .inl (cA_3, 40, .inl (fun _ => 0))), (q_38, .inl (cA_3, 40, .inl (fun _ => 0))), (q_47, .inl (cA_3, 40, .inl (fun _ => 0))), (q_56, .inl (cA_57, 1000, .inl (fun _ => 0)))] := hD
  refine va_putF (D := (dC, dI)) (ci := 6) (v := .ref q_56) (ty := .array (.int)) (C := RX6) (T := TX6) (N := 51) hx hb hts uB6 tyX6 tyX6_ok nmX6 hown hK hP hD hS 0 rfl rfl 26 (by decide) (hts _ wm_169) (fun _ h9 => h9) rfl hin rfl (by decide +kernel) rfl rfl (by rw [hlen_h0]; decide) dX6_init_161 (fun H locs hP hD hS => ?_)
  obtain ⟨fs_58, efs_58⟩ : ∃ z9, z9 = (fs_55).set 26 (.ref q_56) := ⟨_, rfl⟩
  have hP : va_P (dC, dI) vwCl [(h0, .inr (6, fs_58)), (q_2, .inl (cA_3, 8, .inl (fun _ => 0))), (q_5, .inl (cA_3, 32, .inl (fun _ => 0))), (q_8, .inl (cA_3, 100, .inl (fun _ => 0))), (q_11, .inl (cA_3, 40, .inl (fun _ => 0))), (q_14, .inl (cA_3, 40, .inl (fun _ => 0))), (q_17, .inl (cA_3, 40, .inl (fun _ => 0))), (q_20, .inl (cA_3, 40, .inl (fun _ => 0))), (q_23, .inl (cA_3, 40, .inl (fun _ => 0))), (q_32, .inl (cA_3, 40, .inl (fun _ => 0))), (q_35, .inl (cA_3, 40, .inl (fun _ => 0))), (q_38, .inl (cA_3, 40, .inl (fun _ => 0))), (q_47, .inl (cA_3, 40, .inl (fun _ => 0))), (q_56, .inl (cA_57, 1000, .inl (fun _ => 0)))] H := by rw [efs_58]; exact hP
  have hD : va_D A [(h0, .inr (6, fs_58)), (q_2, .inl (cA_3, 8, .inl (fun _ => 0))), (q_5, .inl (cA_3, 32, .inl (fun _ => 0))), (q_8, .inl (cA_3, 100, .inl (fun _ => 0))), (q_11, .inl (cA_3, 40, .inl (fun _ => 0))), (q_14, .inl (cA_3, 40, .inl (fun _ => 0))), (q_17, .inl (cA_3, 40, .inl (fun _ => 0))), (q_20, .inl (cA_3, 40, .inl (fun _ => 0))), (q_23, .inl (cA_3, 40, .inl (fun _ => 0))), (q_32, .inl (cA_3, 40, .inl (fun _ => 0))), (q_35, .inl (cA_3, 40, .inl (fun _ => 0))), (q_38, .inl (cA_3, 40, .inl (fun _ => 0))), (q_47, .inl (cA_3, 40, .inl (fun _ => 0))), (q_56, .inl (cA_57, 1000, .inl (fun _ => 0)))] := by rw [efs_58]; exact hD
  have hf1_h0 : fs_58[1]? = some (.int 0) := by rw [efs_58, List.getElem?_set_ne (by decide)]; exact hf1_h0
  have hf2_h0 : fs_58[2]? = some (.int 0) := by rw [efs_58, List.getElem?_set_ne (by decide)]; exact hf2_h0
  have hf3_h0 : fs_58[3]? = some (.int 0) := by rw [efs_58, List.getElem?_set_ne (by decide)]; exact hf3_h0
  have hf5_h0 : fs_58[5]? = some (.int 0) := by rw [efs_58, List.getElem?_set_ne (by decide)]; exact hf5_h0
  have hf9_h0 : fs_58[9]? = some (.int 0) := by rw [efs_58, List.getElem?_set_ne (by decide)]; exact hf9_h0
  have hf25_h0 : fs_58[25]? = some (.int 0) := by rw [efs_58, List.getElem?_set_ne (by decide)]; exact hf25_h0
  have hf6_h0 : fs_58[6]? = some (.ref q_2) := by rw [efs_58, List.getElem?_set_ne (by decide)]; exact hf6_h0
  have hf7_h0 : fs_58[7]? = some (.ref q_5) := by rw [efs_58, List.getElem?_set_ne (by decide)]; exact hf7_h0
  have hf8_h0 : fs_58[8]? = some (.ref q_8) := by rw [efs_58, List.getElem?_set_ne (by decide)]; exact hf8_h0
  have hf10_h0 : fs_58[10]? = some (.ref q_11) := by rw [efs_58, List.getElem?_set_ne (by decide)]; exact hf10_h0
  have hf11_h0 : fs_58[11]? = some (.ref q_14) := by rw [efs_58, List.getElem?_set_ne (by decide)]; exact hf11_h0
  have hf12_h0 : fs_58[12]? = some (.ref q_17) := by rw [efs_58, List.getElem?_set_ne (by decide)]; exact hf12_h0
  have hf13_h0 : fs_58[13]? = some (.ref q_20) := by rw [efs_58, List.getElem?_set_ne (by decide)]; exact hf13_h0
  have hf14_h0 : fs_58[14]? = some (.ref q_23) := by rw [efs_58, List.getElem?_set_ne (by decide)]; exact hf14_h0
  have hf17_h0 : fs_58[17]? = some (.ref q_32) := by rw [efs_58, List.getElem?_set_ne (by decide)]; exact hf17_h0
  have hf18_h0 : fs_58[18]? = some (.ref q_35) := by rw [efs_58, List.getElem?_set_ne (by decide)]; exact hf18_h0
  have hf19_h0 : fs_58[19]? = some (.ref q_38) := by rw [efs_58, List.getElem?_set_ne (by decide)]; exact hf19_h0
  have hf22_h0 : fs_58[22]? = some (.ref q_47) := by rw [efs_58, List.getElem?_set_ne (by decide)]; exact hf22_h0
  have hlen_h0 : fs_58.length = 51 := by rw [efs_58, List.length_set]; exact hlen_h0
  have hK := hK.sub (tys' := [(cA_3, .int)]) [0] rfl
  have hP := hP.sub (ws' := [(h0, .inr (6, fs_58)), (q_2, .inl (cA_3, 8, .inl (fun _ => 0))), (q_5, .inl (cA_3, 32, .inl (fun _ => 0))), (q_8, .inl (cA_3, 100, .inl (fun _ => 0))), (q_11, .inl (cA_3, 40, .inl (fun _ => 0))), (q_14, .inl (cA_3, 40, .inl (fun _ => 0))), (q_17, .inl (cA_3, 40, .inl (fun _ => 0))), (q_20, .inl (cA_3, 40, .inl (fun _ => 0))), (q_23, .inl (cA_3, 40, .inl (fun _ => 0))), (q_32, .inl (cA_3, 40, .inl (fun _ => 0))), (q_35, .inl (cA_3, 40, .inl (fun _ => 0))), (q_38, .inl (cA_3, 40, .inl (fun _ => 0))), (q_47, .inl (cA_3, 40, .inl (fun _ => 0)))]) [0, 1, 2, 3, 4, 5, 6, 7, 8, 9, 10, 11, 12] rfl
  have hD := hD.sub (ws' := [(h0, .inr (6, fs_58)), (q_2, .inl (cA_3, 8, .inl (fun _ => 0))), (q_5, .inl (cA_3, 32, .inl (fun _ => 0))), (q_8, .inl (cA_3, 100, .inl (fun _ => 0))), (q_11, .inl (cA_3, 40, .inl (fun _ => 0))), (q_14, .inl (cA_3, 40, .inl (fun _ => 0))), (q_17, .inl (cA_3, 40, .inl (fun _ => 0))), (q_20, .inl (cA_3, 40, .inl (fun _ => 0))), (q_23, .inl (cA_3, 40, .inl (fun _ => 0))), (q_32, .inl (cA_3, 40, .inl (fun _ => 0))), (q_35, .inl (cA_3, 40, .inl (fun _ => 0))), (q_38, .inl (cA_3, 40, .inl (fun _ => 0))), (q_47, .inl (cA_3, 40, .inl (fun _ => 0)))]) [0, 1, 2, 3, 4, 5, 6, 7, 8, 9, 10, 11, 12] (by decide) rfl
  refine lv_aload_n hx hb dX6_init_164 rfl (lv_at hl 0 rfl) ?_
  refine lv_sipush (v := 1000) hx hb dX6_init_165 (by decide) ?_
  refine va_newa (atype := .int) (N' := 1000) (a0 := (1000, .inl (fun _ => 0))) hx hb (hts _ wm_80) rfl hK hP hD hS hA (fun _ => rfl) (by decide) rfl (Nat.le_of_ble_eq_true rfl) (Nat.le_of_ble_eq_true rfl) (Nat.le_of_ble_eq_true rfl) dX6_init_168 (fun q_59 cA_60 H hK hP hD hS => ?_)
  have hK : va_K (dC, dI) vwCl [(cA_3, .int), (cA_60, .int)] s := hK
  have hP : va_P (dC, dI) vwCl [(h0, .inr (6, fs_58)), (q_2, .inl (cA_3, 8, .inl (fun _ => 0))), (q_5, .inl (cA_3, 32, .inl (fun _ => 0))), (q_8, .inl (cA_3, 100, .inl (fun _ => 0))), (q_11, .inl (cA_3, 40, .inl (fun _ => 0))), (q_14, .inl (cA_3, 40, .inl (fun _ => 0))), (q_17, .inl (cA_3, 40, .inl (fun _ => 0))), (q_20, .inl (cA_3, 40, .inl (fun _ => 0))), (q_23, .inl (cA_3, 40, .inl (fun _ => 0))), (q_32, .inl (cA_3, 40, .inl (fun _ => 0))), (q_35, .inl (cA_3, 40, .inl (fun _ => 0))), (q_38, .inl (cA_3, 40, .inl (fun _ => 0))), (q_47, .inl (cA_3, 40, .inl (fun _ => 0))), (q_59, .inl (cA_60, 1000, .inl (fun _ => 0)))] H := hP
  have hD : va_D A [(h0, .inr (6, fs_58)), (q_2, .inl (cA_3, 8, .inl (fun _ => 0))), (q_5, .inl (cA_3, 32, .inl (fun _ => 0))), (q_8, .inl (cA_3, 100, .inl (fun _ => 0))), (q_11, .inl (cA_3, 40, .inl (fun _ => 0))), (q_14, .inl (cA_3, 40, .inl (fun _ => 0))), (q_17, .inl (cA_3, 40, .inl (fun _ => 0))), (q_20, .inl (cA_3, 40, .inl (fun _ => 0))), (q_23, .inl (cA_3, 40, .inl (fun _ => 0))), (q_32, .inl (cA_3, 40, .inl (fun _ => 0))), (q_35, .inl (cA_3, 40, .inl (fun _ => 0))), (q_38, .inl (cA_3, 40, .inl (fun _ => 0))), (q_47, .inl (cA_3, 40, .inl (fun _ => 0))), (q_59, .inl (cA_60, 1000, .inl (fun _ => 0)))] := hD
  refine va_putF (D := (dC, dI)) (ci := 6) (v := .ref q_59) (ty := .array (.int)) (C := RX6) (T := TX6) (N := 51) hx hb hts uB6 tyX6 tyX6_ok nmX6 hown hK hP hD hS 0 rfl rfl 27 (by decide) (hts _ wm_170) (fun _ h9 => h9) rfl hin rfl (by decide +kernel) rfl rfl (by rw [hlen_h0]; decide) dX6_init_170 (fun H locs hP hD hS => ?_)
  obtain ⟨fs_61, efs_61⟩ : ∃ z9, z9 = (fs_58).set 27 (.ref q_59) := ⟨_, rfl⟩
  have hP : va_P (dC, dI) vwCl [(h0, .inr (6, fs_61)), (q_2, .inl (cA_3, 8, .inl (fun _ => 0))), (q_5, .inl (cA_3, 32, .inl (fun _ => 0))), (q_8, .inl (cA_3, 100, .inl (fun _ => 0))), (q_11, .inl (cA_3, 40, .inl (fun _ => 0))), (q_14, .inl (cA_3, 40, .inl (fun _ => 0))), (q_17, .inl (cA_3, 40, .inl (fun _ => 0))), (q_20, .inl (cA_3, 40, .inl (fun _ => 0))), (q_23, .inl (cA_3, 40, .inl (fun _ => 0))), (q_32, .inl (cA_3, 40, .inl (fun _ => 0))), (q_35, .inl (cA_3, 40, .inl (fun _ => 0))), (q_38, .inl (cA_3, 40, .inl (fun _ => 0))), (q_47, .inl (cA_3, 40, .inl (fun _ => 0))), (q_59, .inl (cA_60, 1000, .inl (fun _ => 0)))] H := by rw [efs_61]; exact hP
  have hD : va_D A [(h0, .inr (6, fs_61)), (q_2, .inl (cA_3, 8, .inl (fun _ => 0))), (q_5, .inl (cA_3, 32, .inl (fun _ => 0))), (q_8, .inl (cA_3, 100, .inl (fun _ => 0))), (q_11, .inl (cA_3, 40, .inl (fun _ => 0))), (q_14, .inl (cA_3, 40, .inl (fun _ => 0))), (q_17, .inl (cA_3, 40, .inl (fun _ => 0))), (q_20, .inl (cA_3, 40, .inl (fun _ => 0))), (q_23, .inl (cA_3, 40, .inl (fun _ => 0))), (q_32, .inl (cA_3, 40, .inl (fun _ => 0))), (q_35, .inl (cA_3, 40, .inl (fun _ => 0))), (q_38, .inl (cA_3, 40, .inl (fun _ => 0))), (q_47, .inl (cA_3, 40, .inl (fun _ => 0))), (q_59, .inl (cA_60, 1000, .inl (fun _ => 0)))] := by rw [efs_61]; exact hD
  have hf1_h0 : fs_61[1]? = some (.int 0) := by rw [efs_61, List.getElem?_set_ne (by decide)]; exact hf1_h0
  have hf2_h0 : fs_61[2]? = some (.int 0) := by rw [efs_61, List.getElem?_set_ne (by decide)]; exact hf2_h0
  have hf3_h0 : fs_61[3]? = some (.int 0) := by rw [efs_61, List.getElem?_set_ne (by decide)]; exact hf3_h0
  have hf5_h0 : fs_61[5]? = some (.int 0) := by rw [efs_61, List.getElem?_set_ne (by decide)]; exact hf5_h0
  have hf9_h0 : fs_61[9]? = some (.int 0) := by rw [efs_61, List.getElem?_set_ne (by decide)]; exact hf9_h0
  have hf25_h0 : fs_61[25]? = some (.int 0) := by rw [efs_61, List.getElem?_set_ne (by decide)]; exact hf25_h0
  have hf6_h0 : fs_61[6]? = some (.ref q_2) := by rw [efs_61, List.getElem?_set_ne (by decide)]; exact hf6_h0
  have hf7_h0 : fs_61[7]? = some (.ref q_5) := by rw [efs_61, List.getElem?_set_ne (by decide)]; exact hf7_h0
  have hf8_h0 : fs_61[8]? = some (.ref q_8) := by rw [efs_61, List.getElem?_set_ne (by decide)]; exact hf8_h0
  have hf10_h0 : fs_61[10]? = some (.ref q_11) := by rw [efs_61, List.getElem?_set_ne (by decide)]; exact hf10_h0
  have hf11_h0 : fs_61[11]? = some (.ref q_14) := by rw [efs_61, List.getElem?_set_ne (by decide)]; exact hf11_h0
  have hf12_h0 : fs_61[12]? = some (.ref q_17) := by rw [efs_61, List.getElem?_set_ne (by decide)]; exact hf12_h0
  have hf13_h0 : fs_61[13]? = some (.ref q_20) := by rw [efs_61, List.getElem?_set_ne (by decide)]; exact hf13_h0
  have hf14_h0 : fs_61[14]? = some (.ref q_23) := by rw [efs_61, List.getElem?_set_ne (by decide)]; exact hf14_h0
  have hf17_h0 : fs_61[17]? = some (.ref q_32) := by rw [efs_61, List.getElem?_set_ne (by decide)]; exact hf17_h0
  have hf18_h0 : fs_61[18]? = some (.ref q_35) := by rw [efs_61, List.getElem?_set_ne (by decide)]; exact hf18_h0
  have hf19_h0 : fs_61[19]? = some (.ref q_38) := by rw [efs_61, List.getElem?_set_ne (by decide)]; exact hf19_h0
  have hf22_h0 : fs_61[22]? = some (.ref q_47) := by rw [efs_61, List.getElem?_set_ne (by decide)]; exact hf22_h0
  have hlen_h0 : fs_61.length = 51 := by rw [efs_61, List.length_set]; exact hlen_h0
  have hK := hK.sub (tys' := [(cA_3, .int)]) [0] rfl
  have hP := hP.sub (ws' := [(h0, .inr (6, fs_61)), (q_2, .inl (cA_3, 8, .inl (fun _ => 0))), (q_5, .inl (cA_3, 32, .inl (fun _ => 0))), (q_8, .inl (cA_3, 100, .inl (fun _ => 0))), (q_11, .inl (cA_3, 40, .inl (fun _ => 0))), (q_14, .inl (cA_3, 40, .inl (fun _ => 0))), (q_17, .inl (cA_3, 40, .inl (fun _ => 0))), (q_20, .inl (cA_3, 40, .inl (fun _ => 0))), (q_23, .inl (cA_3, 40, .inl (fun _ => 0))), (q_32, .inl (cA_3, 40, .inl (fun _ => 0))), (q_35, .inl (cA_3, 40, .inl (fun _ => 0))), (q_38, .inl (cA_3, 40, .inl (fun _ => 0))), (q_47, .inl (cA_3, 40, .inl (fun _ => 0)))]) [0, 1, 2, 3, 4, 5, 6, 7, 8, 9, 10, 11, 12] rfl
  have hD := hD.sub (ws' := [(h0, .inr (6, fs_61)), (q_2, .inl (cA_3, 8, .inl (fun _ => 0))), (q_5, .inl (cA_3, 32, .inl (fun _ => 0))), (q_8, .inl (cA_3, 100, .inl (fun _ => 0))), (q_11, .inl (cA_3, 40, .inl (fun _ => 0))), (q_14, .inl (cA_3, 40, .inl (fun _ => 0))), (q_17, .inl (cA_3, 40, .inl (fun _ => 0))), (q_20, .inl (cA_3, 40, .inl (fun _ => 0))), (q_23, .inl (cA_3, 40, .inl (fun _ => 0))), (q_32, .inl (cA_3, 40, .inl (fun _ => 0))), (q_35, .inl (cA_3, 40, .inl (fun _ => 0))), (q_38, .inl (cA_3, 40, .inl (fun _ => 0))), (q_47, .inl (cA_3, 40, .inl (fun _ => 0)))]) [0, 1, 2, 3, 4, 5, 6, 7, 8, 9, 10, 11, 12] (by decide) rfl
  refine lv_aload_n hx hb dX6_init_173 rfl (lv_at hl 0 rfl) ?_
  refine lv_sipush (v := 1000) hx hb dX6_init_174 (by decide) ?_
  refine va_newa (atype := .int) (N' := 1000) (a0 := (1000, .inl (fun _ => 0))) hx hb (hts _ wm_80) rfl hK hP hD hS hA (fun _ => rfl) (by decide) rfl (Nat.le_of_ble_eq_true rfl) (Nat.le_of_ble_eq_true rfl) (Nat.le_of_ble_eq_true rfl) dX6_init_177 (fun q_62 cA_63 H hK hP hD hS => ?_)
  have hK : va_K (dC, dI) vwCl [(cA_3, .int), (cA_63, .int)] s := hK
  have hP : va_P (dC, dI) vwCl [(h0, .inr (6, fs_61)), (q_2, .inl (cA_3, 8, .inl (fun _ => 0))), (q_5, .inl (cA_3, 32, .inl (fun _ => 0))), (q_8, .inl (cA_3, 100, .inl (fun _ => 0))), (q_11, .inl (cA_3, 40, .inl (fun _ => 0))), (q_14, .inl (cA_3, 40, .inl (fun _ => 0))), (q_17, .inl (cA_3, 40, .inl (fun _ => 0))), (q_20, .inl (cA_3, 40, .inl (fun _ => 0))), (q_23, .inl (cA_3, 40, .inl (fun _ => 0))), (q_32, .inl (cA_3, 40, .inl (fun _ => 0))), (q_35, .inl (cA_3, 40, .inl (fun _ => 0))), (q_38, .inl (cA_3, 40, .inl (fun _ => 0))), (q_47, .inl (cA_3, 40, .inl (fun _ => 0))), (q_62, .inl (cA_63, 1000, .inl (fun _ => 0)))] H := hP
  have hD : va_D A [(h0, .inr (6, fs_61)), (q_2, .inl (cA_3, 8, .inl (fun _ => 0))), (q_5, .inl (cA_3, 32, .inl (fun _ => 0))), (q_8, .inl (cA_3, 100, .inl (fun _ => 0))), (q_11, .inl (cA_3, 40, .inl (fun _ => 0))), (q_14, .inl (cA_3, 40, .inl (fun _ => 0))), (q_17, .inl (cA_3, 40, .inl (fun _ => 0))), (q_20, .inl (cA_3, 40, .inl (fun _ => 0))), (q_23, .inl (cA_3, 40, .inl (fun _ => 0))), (q_32, .inl (cA_3, 40, .inl (fun _ => 0))), (q_35, .inl (cA_3, 40, .inl (fun _ => 0))), (q_38, .inl (cA_3, 40, .inl (fun _ => 0))), (q_47, .inl (cA_3, 40, .inl (fun _ => 0))), (q_62, .inl (cA_63, 1000, .inl (fun _ => 0)))] := hD
  refine va_putF (D := (dC, dI)) (ci := 6) (v := .ref q_62) (ty := .array (.int)) (C := RX6) (T := TX6) (N := 51) hx hb hts uB6 tyX6 tyX6_ok nmX6 hown hK hP hD hS 0 rfl rfl 28 (by decide) (hts _ wm_171) (fun _ h9 => h9) rfl hin rfl (by decide +kernel) rfl rfl (by rw [hlen_h0]; decide) dX6_init_179 (fun H locs hP hD hS => ?_)
  obtain ⟨fs_64, efs_64⟩ : ∃ z9, z9 = (fs_61).set 28 (.ref q_62) := ⟨_, rfl⟩
  have hP : va_P (dC, dI) vwCl [(h0, .inr (6, fs_64)), (q_2, .inl (cA_3, 8, .inl (fun _ => 0))), (q_5, .inl (cA_3, 32, .inl (fun _ => 0))), (q_8, .inl (cA_3, 100, .inl (fun _ => 0))), (q_11, .inl (cA_3, 40, .inl (fun _ => 0))), (q_14, .inl (cA_3, 40, .inl (fun _ => 0))), (q_17, .inl (cA_3, 40, .inl (fun _ => 0))), (q_20, .inl (cA_3, 40, .inl (fun _ => 0))), (q_23, .inl (cA_3, 40, .inl (fun _ => 0))), (q_32, .inl (cA_3, 40, .inl (fun _ => 0))), (q_35, .inl (cA_3, 40, .inl (fun _ => 0))), (q_38, .inl (cA_3, 40, .inl (fun _ => 0))), (q_47, .inl (cA_3, 40, .inl (fun _ => 0))), (q_62, .inl (cA_63, 1000, .inl (fun _ => 0)))] H := by rw [efs_64]; exact hP
  have hD : va_D A [(h0, .inr (6, fs_64)), (q_2, .inl (cA_3, 8, .inl (fun _ => 0))), (q_5, .inl (cA_3, 32, .inl (fun _ => 0))), (q_8, .inl (cA_3, 100, .inl (fun _ => 0))), (q_11, .inl (cA_3, 40, .inl (fun _ => 0))), (q_14, .inl (cA_3, 40, .inl (fun _ => 0))), (q_17, .inl (cA_3, 40, .inl (fun _ => 0))), (q_20, .inl (cA_3, 40, .inl (fun _ => 0))), (q_23, .inl (cA_3, 40, .inl (fun _ => 0))), (q_32, .inl (cA_3, 40, .inl (fun _ => 0))), (q_35, .inl (cA_3, 40, .inl (fun _ => 0))), (q_38, .inl (cA_3, 40, .inl (fun _ => 0))), (q_47, .inl (cA_3, 40, .inl (fun _ => 0))), (q_62, .inl (cA_63, 1000, .inl (fun _ => 0)))] := by rw [efs_64]; exact hD
  have hf1_h0 : fs_64[1]? = some (.int 0) := by rw [efs_64, List.getElem?_set_ne (by decide)]; exact hf1_h0
  have hf2_h0 : fs_64[2]? = some (.int 0) := by rw [efs_64, List.getElem?_set_ne (by decide)]; exact hf2_h0
  have hf3_h0 : fs_64[3]? = some (.int 0) := by rw [efs_64, List.getElem?_set_ne (by decide)]; exact hf3_h0
  have hf5_h0 : fs_64[5]? = some (.int 0) := by rw [efs_64, List.getElem?_set_ne (by decide)]; exact hf5_h0
  have hf9_h0 : fs_64[9]? = some (.int 0) := by rw [efs_64, List.getElem?_set_ne (by decide)]; exact hf9_h0
  have hf25_h0 : fs_64[25]? = some (.int 0) := by rw [efs_64, List.getElem?_set_ne (by decide)]; exact hf25_h0
  have hf6_h0 : fs_64[6]? = some (.ref q_2) := by rw [efs_64, List.getElem?_set_ne (by decide)]; exact hf6_h0
  have hf7_h0 : fs_64[7]? = some (.ref q_5) := by rw [efs_64, List.getElem?_set_ne (by decide)]; exact hf7_h0
  have hf8_h0 : fs_64[8]? = some (.ref q_8) := by rw [efs_64, List.getElem?_set_ne (by decide)]; exact hf8_h0
  have hf10_h0 : fs_64[10]? = some (.ref q_11) := by rw [efs_64, List.getElem?_set_ne (by decide)]; exact hf10_h0
  have hf11_h0 : fs_64[11]? = some (.ref q_14) := by rw [efs_64, List.getElem?_set_ne (by decide)]; exact hf11_h0
  have hf12_h0 : fs_64[12]? = some (.ref q_17) := by rw [efs_64, List.getElem?_set_ne (by decide)]; exact hf12_h0
  have hf13_h0 : fs_64[13]? = some (.ref q_20) := by rw [efs_64, List.getElem?_set_ne (by decide)]; exact hf13_h0
  have hf14_h0 : fs_64[14]? = some (.ref q_23) := by rw [efs_64, List.getElem?_set_ne (by decide)]; exact hf14_h0
  have hf17_h0 : fs_64[17]? = some (.ref q_32) := by rw [efs_64, List.getElem?_set_ne (by decide)]; exact hf17_h0
  have hf18_h0 : fs_64[18]? = some (.ref q_35) := by rw [efs_64, List.getElem?_set_ne (by decide)]; exact hf18_h0
  have hf19_h0 : fs_64[19]? = some (.ref q_38) := by rw [efs_64, List.getElem?_set_ne (by decide)]; exact hf19_h0
  have hf22_h0 : fs_64[22]? = some (.ref q_47) := by rw [efs_64, List.getElem?_set_ne (by decide)]; exact hf22_h0
  have hlen_h0 : fs_64.length = 51 := by rw [efs_64, List.length_set]; exact hlen_h0
  have hK := hK.sub (tys' := [(cA_3, .int)]) [0] rfl
  have hP := hP.sub (ws' := [(h0, .inr (6, fs_64)), (q_2, .inl (cA_3, 8, .inl (fun _ => 0))), (q_5, .inl (cA_3, 32, .inl (fun _ => 0))), (q_8, .inl (cA_3, 100, .inl (fun _ => 0))), (q_11, .inl (cA_3, 40, .inl (fun _ => 0))), (q_14, .inl (cA_3, 40, .inl (fun _ => 0))), (q_17, .inl (cA_3, 40, .inl (fun _ => 0))), (q_20, .inl (cA_3, 40, .inl (fun _ => 0))), (q_23, .inl (cA_3, 40, .inl (fun _ => 0))), (q_32, .inl (cA_3, 40, .inl (fun _ => 0))), (q_35, .inl (cA_3, 40, .inl (fun _ => 0))), (q_38, .inl (cA_3, 40, .inl (fun _ => 0))), (q_47, .inl (cA_3, 40, .inl (fun _ => 0)))]) [0, 1, 2, 3, 4, 5, 6, 7, 8, 9, 10, 11, 12] rfl
  have hD := hD.sub (ws' := [(h0, .inr (6, fs_64)), (q_2, .inl (cA_3, 8, .inl (fun _ => 0))), (q_5, .inl (cA_3, 32, .inl (fun _ => 0))), (q_8, .inl (cA_3, 100, .inl (fun _ => 0))), (q_11, .inl (cA_3, 40, .inl (fun _ => 0))), (q_14, .inl (cA_3, 40, .inl (fun _ => 0))), (q_17, .inl (cA_3, 40, .inl (fun _ => 0))), (q_20, .inl (cA_3, 40, .inl (fun _ => 0))), (q_23, .inl (cA_3, 40, .inl (fun _ => 0))), (q_32, .inl (cA_3, 40, .inl (fun _ => 0))), (q_35, .inl (cA_3, 40, .inl (fun _ => 0))), (q_38, .inl (cA_3, 40, .inl (fun _ => 0))), (q_47, .inl (cA_3, 40, .inl (fun _ => 0)))]) [0, 1, 2, 3, 4, 5, 6, 7, 8, 9, 10, 11, 12] (by decide) rfl
  refine lv_aload_n hx hb dX6_init_182 rfl (lv_at hl 0 rfl) ?_
  refine lv_sipush (v := 1000) hx hb dX6_init_183 (by decide) ?_
  refine va_newa (atype := .int) (N' := 1000) (a0 := (1000, .inl (fun _ => 0))) hx hb (hts _ wm_80) rfl hK hP hD hS hA (fun _ => rfl) (by decide) rfl (Nat.le_of_ble_eq_true rfl) (Nat.le_of_ble_eq_true rfl) (Nat.le_of_ble_eq_true rfl) dX6_init_186 (fun q_65 cA_66 H hK hP hD hS => ?_)
  have hK : va_K (dC, dI) vwCl [(cA_3, .int), (cA_66, .int)] s := hK
  have hP : va_P (dC, dI) vwCl [(h0, .inr (6, fs_64)), (q_2, .inl (cA_3, 8, .inl (fun _ => 0))), (q_5, .inl (cA_3, 32, .inl (fun _ => 0))), (q_8, .inl (cA_3, 100, .inl (fun _ => 0))), (q_11, .inl (cA_3, 40, .inl (fun _ => 0))), (q_14, .inl (cA_3, 40, .inl (fun _ => 0))), (q_17, .inl (cA_3, 40, .inl (fun _ => 0))), (q_20, .inl (cA_3, 40, .inl (fun _ => 0))), (q_23, .inl (cA_3, 40, .inl (fun _ => 0))), (q_32, .inl (cA_3, 40, .inl (fun _ => 0))), (q_35, .inl (cA_3, 40, .inl (fun _ => 0))), (q_38, .inl (cA_3, 40, .inl (fun _ => 0))), (q_47, .inl (cA_3, 40, .inl (fun _ => 0))), (q_65, .inl (cA_66, 1000, .inl (fun _ => 0)))] H := hP
  have hD : va_D A [(h0, .inr (6, fs_64)), (q_2, .inl (cA_3, 8, .inl (fun _ => 0))), (q_5, .inl (cA_3, 32, .inl (fun _ => 0))), (q_8, .inl (cA_3, 100, .inl (fun _ => 0))), (q_11, .inl (cA_3, 40, .inl (fun _ => 0))), (q_14, .inl (cA_3, 40, .inl (fun _ => 0))), (q_17, .inl (cA_3, 40, .inl (fun _ => 0))), (q_20, .inl (cA_3, 40, .inl (fun _ => 0))), (q_23, .inl (cA_3, 40, .inl (fun _ => 0))), (q_32, .inl (cA_3, 40, .inl (fun _ => 0))), (q_35, .inl (cA_3, 40, .inl (fun _ => 0))), (q_38, .inl (cA_3, 40, .inl (fun _ => 0))), (q_47, .inl (cA_3, 40, .inl (fun _ => 0))), (q_65, .inl (cA_66, 1000, .inl (fun _ => 0)))] := hD
  refine va_putF (D := (dC, dI)) (ci := 6) (v := .ref q_65) (ty := .array (.int)) (C := RX6) (T := TX6) (N := 51) hx hb hts uB6 tyX6 tyX6_ok nmX6 hown hK hP hD hS 0 rfl rfl 29 (by decide) (hts _ wm_172) (fun _ h9 => h9) rfl hin rfl (by decide +kernel) rfl rfl (by rw [hlen_h0]; decide) dX6_init_188 (fun H locs hP hD hS => ?_)
  obtain ⟨fs_67, efs_67⟩ : ∃ z9, z9 = (fs_64).set 29 (.ref q_65) := ⟨_, rfl⟩
  have hP : va_P (dC, dI) vwCl [(h0, .inr (6, fs_67)), (q_2, .inl (cA_3, 8, .inl (fun _ => 0))), (q_5, .inl (cA_3, 32, .inl (fun _ => 0))), (q_8, .inl (cA_3, 100, .inl (fun _ => 0))), (q_11, .inl (cA_3, 40, .inl (fun _ => 0))), (q_14, .inl (cA_3, 40, .inl (fun _ => 0))), (q_17, .inl (cA_3, 40, .inl (fun _ => 0))), (q_20, .inl (cA_3, 40, .inl (fun _ => 0))), (q_23, .inl (cA_3, 40, .inl (fun _ => 0))), (q_32, .inl (cA_3, 40, .inl (fun _ => 0))), (q_35, .inl (cA_3, 40, .inl (fun _ => 0))), (q_38, .inl (cA_3, 40, .inl (fun _ => 0))), (q_47, .inl (cA_3, 40, .inl (fun _ => 0))), (q_65, .inl (cA_66, 1000, .inl (fun _ => 0)))] H := by rw [efs_67]; exact hP
  have hD : va_D A [(h0, .inr (6, fs_67)), (q_2, .inl (cA_3, 8, .inl (fun _ => 0))), (q_5, .inl (cA_3, 32, .inl (fun _ => 0))), (q_8, .inl (cA_3, 100, .inl (fun _ => 0))), (q_11, .inl (cA_3, 40, .inl (fun _ => 0))), (q_14, .inl (cA_3, 40, .inl (fun _ => 0))), (q_17, .inl (cA_3, 40, .inl (fun _ => 0))), (q_20, .inl (cA_3, 40, .inl (fun _ => 0))), (q_23, .inl (cA_3, 40, .inl (fun _ => 0))), (q_32, .inl (cA_3, 40, .inl (fun _ => 0))), (q_35, .inl (cA_3, 40, .inl (fun _ => 0))), (q_38, .inl (cA_3, 40, .inl (fun _ => 0))), (q_47, .inl (cA_3, 40, .inl (fun _ => 0))), (q_65, .inl (cA_66, 1000, .inl (fun _ => 0)))] := by rw [efs_67]; exact hD
  have hf1_h0 : fs_67[1]? = some (.int 0) := by rw [efs_67, List.getElem?_set_ne (by decide)]; exact hf1_h0
  have hf2_h0 : fs_67[2]? = some (.int 0) := by rw [efs_67, List.getElem?_set_ne (by decide)]; exact hf2_h0
  have hf3_h0 : fs_67[3]? = some (.int 0) := by rw [efs_67, List.getElem?_set_ne (by decide)]; exact hf3_h0
  have hf5_h0 : fs_67[5]? = some (.int 0) := by rw [efs_67, List.getElem?_set_ne (by decide)]; exact hf5_h0
  have hf9_h0 : fs_67[9]? = some (.int 0) := by rw [efs_67, List.getElem?_set_ne (by decide)]; exact hf9_h0
  have hf25_h0 : fs_67[25]? = some (.int 0) := by rw [efs_67, List.getElem?_set_ne (by decide)]; exact hf25_h0
  have hf6_h0 : fs_67[6]? = some (.ref q_2) := by rw [efs_67, List.getElem?_set_ne (by decide)]; exact hf6_h0
  have hf7_h0 : fs_67[7]? = some (.ref q_5) := by rw [efs_67, List.getElem?_set_ne (by decide)]; exact hf7_h0
  have hf8_h0 : fs_67[8]? = some (.ref q_8) := by rw [efs_67, List.getElem?_set_ne (by decide)]; exact hf8_h0
  have hf10_h0 : fs_67[10]? = some (.ref q_11) := by rw [efs_67, List.getElem?_set_ne (by decide)]; exact hf10_h0
  have hf11_h0 : fs_67[11]? = some (.ref q_14) := by rw [efs_67, List.getElem?_set_ne (by decide)]; exact hf11_h0
  have hf12_h0 : fs_67[12]? = some (.ref q_17) := by rw [efs_67, List.getElem?_set_ne (by decide)]; exact hf12_h0
  have hf13_h0 : fs_67[13]? = some (.ref q_20) := by rw [efs_67, List.getElem?_set_ne (by decide)]; exact hf13_h0
  have hf14_h0 : fs_67[14]? = some (.ref q_23) := by rw [efs_67, List.getElem?_set_ne (by decide)]; exact hf14_h0
  have hf17_h0 : fs_67[17]? = some (.ref q_32) := by rw [efs_67, List.getElem?_set_ne (by decide)]; exact hf17_h0
  have hf18_h0 : fs_67[18]? = some (.ref q_35) := by rw [efs_67, List.getElem?_set_ne (by decide)]; exact hf18_h0
  have hf19_h0 : fs_67[19]? = some (.ref q_38) := by rw [efs_67, List.getElem?_set_ne (by decide)]; exact hf19_h0
  have hf22_h0 : fs_67[22]? = some (.ref q_47) := by rw [efs_67, List.getElem?_set_ne (by decide)]; exact hf22_h0
  have hlen_h0 : fs_67.length = 51 := by rw [efs_67, List.length_set]; exact hlen_h0
  have hK := hK.sub (tys' := [(cA_3, .int)]) [0] rfl
  have hP := hP.sub (ws' := [(h0, .inr (6, fs_67)), (q_2, .inl (cA_3, 8, .inl (fun _ => 0))), (q_5, .inl (cA_3, 32, .inl (fun _ => 0))), (q_8, .inl (cA_3, 100, .inl (fun _ => 0))), (q_11, .inl (cA_3, 40, .inl (fun _ => 0))), (q_14, .inl (cA_3, 40, .inl (fun _ => 0))), (q_17, .inl (cA_3, 40, .inl (fun _ => 0))), (q_20, .inl (cA_3, 40, .inl (fun _ => 0))), (q_23, .inl (cA_3, 40, .inl (fun _ => 0))), (q_32, .inl (cA_3, 40, .inl (fun _ => 0))), (q_35, .inl (cA_3, 40, .inl (fun _ => 0))), (q_38, .inl (cA_3, 40, .inl (fun _ => 0))), (q_47, .inl (cA_3, 40, .inl (fun _ => 0)))]) [0, 1, 2, 3, 4, 5, 6, 7, 8, 9, 10, 11, 12] rfl
  have hD := hD.sub (ws' := [(h0, .inr (6, fs_67)), (q_2, .inl (cA_3, 8, .inl (fun _ => 0))), (q_5, .inl (cA_3, 32, .inl (fun _ => 0))), (q_8, .inl (cA_3, 100, .inl (fun _ => 0))), (q_11, .inl (cA_3, 40, .inl (fun _ => 0))), (q_14, .inl (cA_3, 40, .inl (fun _ => 0))), (q_17, .inl (cA_3, 40, .inl (fun _ => 0))), (q_20, .inl (cA_3, 40, .inl (fun _ => 0))), (q_23, .inl (cA_3, 40, .inl (fun _ => 0))), (q_32, .inl (cA_3, 40, .inl (fun _ => 0))), (q_35, .inl (cA_3, 40, .inl (fun _ => 0))), (q_38, .inl (cA_3, 40, .inl (fun _ => 0))), (q_47, .inl (cA_3, 40, .inl (fun _ => 0)))]) [0, 1, 2, 3, 4, 5, 6, 7, 8, 9, 10, 11, 12] (by decide) rfl
  refine lv_aload_n hx hb dX6_init_191 rfl (lv_at hl 0 rfl) ?_
  refine lv_sipush (v := 1000) hx hb dX6_init_192 (by decide) ?_
  refine va_newa (atype := .int) (N' := 1000) (a0 := (1000, .inl (fun _ => 0))) hx hb (hts _ wm_80) rfl hK hP hD hS hA (fun _ => rfl) (by decide) rfl (Nat.le_of_ble_eq_true rfl) (Nat.le_of_ble_eq_true rfl) (Nat.le_of_ble_eq_true rfl) dX6_init_195 (fun q_68 cA_69 H hK hP hD hS => ?_)
  have hK : va_K (dC, dI) vwCl [(cA_3, .int), (cA_69, .int)] s := hK
  have hP : va_P (dC, dI) vwCl [(h0, .inr (6, fs_67)), (q_2, .inl (cA_3, 8, .inl (fun _ => 0))), (q_5, .inl (cA_3, 32, .inl (fun _ => 0))), (q_8, .inl (cA_3, 100, .inl (fun _ => 0))), (q_11, .inl (cA_3, 40, .inl (fun _ => 0))), (q_14, .inl (cA_3, 40, .inl (fun _ => 0))), (q_17, .inl (cA_3, 40, .inl (fun _ => 0))), (q_20, .inl (cA_3, 40, .inl (fun _ => 0))), (q_23, .inl (cA_3, 40, .inl (fun _ => 0))), (q_32, .inl (cA_3, 40, .inl (fun _ => 0))), (q_35, .inl (cA_3, 40, .inl (fun _ => 0))), (q_38, .inl (cA_3, 40, .inl (fun _ => 0))), (q_47, .inl (cA_3, 40, .inl (fun _ => 0))), (q_68, .inl (cA_69, 1000, .inl (fun _ => 0)))] H := hP
  have hD : va_D A [(h0, .inr (6, fs_67)), (q_2, .inl (cA_3, 8, .inl (fun _ => 0))), (q_5, .inl (cA_3, 32, .inl (fun _ => 0))), (q_8, .inl (cA_3, 100, .inl (fun _ => 0))), (q_11, .inl (cA_3, 40, .inl (fun _ => 0))), (q_14, .inl (cA_3, 40, .inl (fun _ => 0))), (q_17, .inl (cA_3, 40, .inl (fun _ => 0))), (q_20, .inl (cA_3, 40, .inl (fun _ => 0))), (q_23, .inl (cA_3, 40, .inl (fun _ => 0))), (q_32, .inl (cA_3, 40, .inl (fun _ => 0))), (q_35, .inl (cA_3, 40, .inl (fun _ => 0))), (q_38, .inl (cA_3, 40, .inl (fun _ => 0))), (q_47, .inl (cA_3, 40, .inl (fun _ => 0))), (q_68, .inl (cA_69, 1000, .inl (fun _ => 0)))] := hD
  refine va_putF (D := (dC, dI)) (ci := 6) (v := .ref q_68) (ty := .array (.int)) (C := RX6) (T := TX6) (N := 51) hx hb hts uB6 tyX6 tyX6_ok nmX6 hown hK hP hD hS 0 rfl rfl 30 (by decide) (hts _ wm_173) (fun _ h9 => h9) rfl hin rfl (by decide +kernel) rfl rfl (by rw [hlen_h0]; decide) dX6_init_197 (fun H locs hP hD hS => ?_)
  obtain ⟨fs_70, efs_70⟩ : ∃ z9, z9 = (fs_67).set 30 (.ref q_68) := ⟨_, rfl⟩
  have hP : va_P (dC, dI) vwCl [(h0, .inr (6, fs_70)), (q_2, .inl (cA_3, 8, .inl (fun _ => 0))), (q_5, .inl (cA_3, 32, .inl (fun _ => 0))), (q_8, .inl (cA_3, 100, .inl (fun _ => 0))), (q_11, .inl (cA_3, 40, .inl (fun _ => 0))), (q_14, .inl (cA_3, 40, .inl (fun _ => 0))), (q_17, .inl (cA_3, 40, .inl (fun _ => 0))), (q_20, .inl (cA_3, 40, .inl (fun _ => 0))), (q_23, .inl (cA_3, 40, .inl (fun _ => 0))), (q_32, .inl (cA_3, 40, .inl (fun _ => 0))), (q_35, .inl (cA_3, 40, .inl (fun _ => 0))), (q_38, .inl (cA_3, 40, .inl (fun _ => 0))), (q_47, .inl (cA_3, 40, .inl (fun _ => 0))), (q_68, .inl (cA_69, 1000, .inl (fun _ => 0)))] H := by rw [efs_70]; exact hP
  have hD : va_D A [(h0, .inr (6, fs_70)), (q_2, .inl (cA_3, 8, .inl (fun _ => 0))), (q_5, .inl (cA_3, 32, .inl (fun _ => 0))), (q_8, .inl (cA_3, 100, .inl (fun _ => 0))), (q_11, .inl (cA_3, 40, .inl (fun _ => 0))), (q_14, .inl (cA_3, 40, .inl (fun _ => 0))), (q_17, .inl (cA_3, 40, .inl (fun _ => 0))), (q_20, .inl (cA_3, 40, .inl (fun _ => 0))), (q_23, .inl (cA_3, 40, .inl (fun _ => 0))), (q_32, .inl (cA_3, 40, .inl (fun _ => 0))), (q_35, .inl (cA_3, 40, .inl (fun _ => 0))), (q_38, .inl (cA_3, 40, .inl (fun _ => 0))), (q_47, .inl (cA_3, 40, .inl (fun _ => 0))), (q_68, .inl (cA_69, 1000, .inl (fun _ => 0)))] := by rw [efs_70]; exact hD
  have hf1_h0 : fs_70[1]? = some (.int 0) := by rw [efs_70, List.getElem?_set_ne (by decide)]; exact hf1_h0
  have hf2_h0 : fs_70[2]? = some (.int 0) := by rw [efs_70, List.getElem?_set_ne (by decide)]; exact hf2_h0
  have hf3_h0 : fs_70[3]? = some (.int 0) := by rw [efs_70, List.getElem?_set_ne (by decide)]; exact hf3_h0
  have hf5_h0 : fs_70[5]? = some (.int 0) := by rw [efs_70, List.getElem?_set_ne (by decide)]; exact hf5_h0
  have hf9_h0 : fs_70[9]? = some (.int 0) := by rw [efs_70, List.getElem?_set_ne (by decide)]; exact hf9_h0
  have hf25_h0 : fs_70[25]? = some (.int 0) := by rw [efs_70, List.getElem?_set_ne (by decide)]; exact hf25_h0
  have hf6_h0 : fs_70[6]? = some (.ref q_2) := by rw [efs_70, List.getElem?_set_ne (by decide)]; exact hf6_h0
  have hf7_h0 : fs_70[7]? = some (.ref q_5) := by rw [efs_70, List.getElem?_set_ne (by decide)]; exact hf7_h0
  have hf8_h0 : fs_70[8]? = some (.ref q_8) := by rw [efs_70, List.getElem?_set_ne (by decide)]; exact hf8_h0
  have hf10_h0 : fs_70[10]? = some (.ref q_11) := by rw [efs_70, List.getElem?_set_ne (by decide)]; exact hf10_h0
  have hf11_h0 : fs_70[11]? = some (.ref q_14) := by rw [efs_70, List.getElem?_set_ne (by decide)]; exact hf11_h0
  have hf12_h0 : fs_70[12]? = some (.ref q_17) := by rw [efs_70, List.getElem?_set_ne (by decide)]; exact hf12_h0
  have hf13_h0 : fs_70[13]? = some (.ref q_20) := by rw [efs_70, List.getElem?_set_ne (by decide)]; exact hf13_h0
  have hf14_h0 : fs_70[14]? = some (.ref q_23) := by rw [efs_70, List.getElem?_set_ne (by decide)]; exact hf14_h0
  have hf17_h0 : fs_70[17]? = some (.ref q_32) := by rw [efs_70, List.getElem?_set_ne (by decide)]; exact hf17_h0
  have hf18_h0 : fs_70[18]? = some (.ref q_35) := by rw [efs_70, List.getElem?_set_ne (by decide)]; exact hf18_h0
  have hf19_h0 : fs_70[19]? = some (.ref q_38) := by rw [efs_70, List.getElem?_set_ne (by decide)]; exact hf19_h0
  have hf22_h0 : fs_70[22]? = some (.ref q_47) := by rw [efs_70, List.getElem?_set_ne (by decide)]; exact hf22_h0
  have hlen_h0 : fs_70.length = 51 := by rw [efs_70, List.length_set]; exact hlen_h0
  have hK := hK.sub (tys' := [(cA_3, .int)]) [0] rfl
  have hP := hP.sub (ws' := [(h0, .inr (6, fs_70)), (q_2, .inl (cA_3, 8, .inl (fun _ => 0))), (q_5, .inl (cA_3, 32, .inl (fun _ => 0))), (q_8, .inl (cA_3, 100, .inl (fun _ => 0))), (q_11, .inl (cA_3, 40, .inl (fun _ => 0))), (q_14, .inl (cA_3, 40, .inl (fun _ => 0))), (q_17, .inl (cA_3, 40, .inl (fun _ => 0))), (q_20, .inl (cA_3, 40, .inl (fun _ => 0))), (q_23, .inl (cA_3, 40, .inl (fun _ => 0))), (q_32, .inl (cA_3, 40, .inl (fun _ => 0))), (q_35, .inl (cA_3, 40, .inl (fun _ => 0))), (q_38, .inl (cA_3, 40, .inl (fun _ => 0))), (q_47, .inl (cA_3, 40, .inl (fun _ => 0)))]) [0, 1, 2, 3, 4, 5, 6, 7, 8, 9, 10, 11, 12] rfl
  have hD := hD.sub (ws' := [(h0, .inr (6, fs_70)), (q_2, .inl (cA_3, 8, .inl (fun _ => 0))), (q_5, .inl (cA_3, 32, .inl (fun _ => 0))), (q_8, .inl (cA_3, 100, .inl (fun _ => 0))), (q_11, .inl (cA_3, 40, .inl (fun _ => 0))), (q_14, .inl (cA_3, 40, .inl (fun _ => 0))), (q_17, .inl (cA_3, 40, .inl (fun _ => 0))), (q_20, .inl (cA_3, 40, .inl (fun _ => 0))), (q_23, .inl (cA_3, 40, .inl (fun _ => 0))), (q_32, .inl (cA_3, 40, .inl (fun _ => 0))), (q_35, .inl (cA_3, 40, .inl (fun _ => 0))), (q_38, .inl (cA_3, 40, .inl (fun _ => 0))), (q_47, .inl (cA_3, 40, .inl (fun _ => 0)))]) [0, 1, 2, 3, 4, 5, 6, 7, 8, 9, 10, 11, 12] (by decide) rfl
  refine lv_aload_n hx hb dX6_init_200 rfl (lv_at hl 0 rfl) ?_
  refine lv_sipush (v := 1000) hx hb dX6_init_201 (by decide) ?_
  refine va_newa (atype := .int) (N' := 1000) (a0 := (1000, .inl (fun _ => 0))) hx hb (hts _ wm_80) rfl hK hP hD hS hA (fun _ => rfl) (by decide) rfl (Nat.le_of_ble_eq_true rfl) (Nat.le_of_ble_eq_true rfl) (Nat.le_of_ble_eq_true rfl) dX6_init_204 (fun q_71 cA_72 H hK hP hD hS => ?_)
  have hK : va_K (dC, dI) vwCl [(cA_3, .int), (cA_72, .int)] s := hK
  have hP : va_P (dC, dI) vwCl [(h0, .inr (6, fs_70)), (q_2, .inl (cA_3, 8, .inl (fun _ => 0))), (q_5, .inl (cA_3, 32, .inl (fun _ => 0))), (q_8, .inl (cA_3, 100, .inl (fun _ => 0))), (q_11, .inl (cA_3, 40, .inl (fun _ => 0))), (q_14, .inl (cA_3, 40, .inl (fun _ => 0))), (q_17, .inl (cA_3, 40, .inl (fun _ => 0))), (q_20, .inl (cA_3, 40, .inl (fun _ => 0))), (q_23, .inl (cA_3, 40, .inl (fun _ => 0))), (q_32, .inl (cA_3, 40, .inl (fun _ => 0))), (q_35, .inl (cA_3, 40, .inl (fun _ => 0))), (q_38, .inl (cA_3, 40, .inl (fun _ => 0))), (q_47, .inl (cA_3, 40, .inl (fun _ => 0))), (q_71, .inl (cA_72, 1000, .inl (fun _ => 0)))] H := hP
  have hD : va_D A [(h0, .inr (6, fs_70)), (q_2, .inl (cA_3, 8, .inl (fun _ => 0))), (q_5, .inl (cA_3, 32, .inl (fun _ => 0))), (q_8, .inl (cA_3, 100, .inl (fun _ => 0))), (q_11, .inl (cA_3, 40, .inl (fun _ => 0))), (q_14, .inl (cA_3, 40, .inl (fun _ => 0))), (q_17, .inl (cA_3, 40, .inl (fun _ => 0))), (q_20, .inl (cA_3, 40, .inl (fun _ => 0))), (q_23, .inl (cA_3, 40, .inl (fun _ => 0))), (q_32, .inl (cA_3, 40, .inl (fun _ => 0))), (q_35, .inl (cA_3, 40, .inl (fun _ => 0))), (q_38, .inl (cA_3, 40, .inl (fun _ => 0))), (q_47, .inl (cA_3, 40, .inl (fun _ => 0))), (q_71, .inl (cA_72, 1000, .inl (fun _ => 0)))] := hD
  refine va_putF (D := (dC, dI)) (ci := 6) (v := .ref q_71) (ty := .array (.int)) (C := RX6) (T := TX6) (N := 51) hx hb hts uB6 tyX6 tyX6_ok nmX6 hown hK hP hD hS 0 rfl rfl 31 (by decide) (hts _ wm_174) (fun _ h9 => h9) rfl hin rfl (by decide +kernel) rfl rfl (by rw [hlen_h0]; decide) dX6_init_206 (fun H locs hP hD hS => ?_)
  obtain ⟨fs_73, efs_73⟩ : ∃ z9, z9 = (fs_70).set 31 (.ref q_71) := ⟨_, rfl⟩
  have hP : va_P (dC, dI) vwCl [(h0, .inr (6, fs_73)), (q_2, .inl (cA_3, 8, .inl (fun _ => 0))), (q_5, .inl (cA_3, 32, .inl (fun _ => 0))), (q_8, .inl (cA_3, 100, .inl (fun _ => 0))), (q_11, .inl (cA_3, 40, .inl (fun _ => 0))), (q_14, .inl (cA_3, 40, .inl (fun _ => 0))), (q_17, .inl (cA_3, 40, .inl (fun _ => 0))), (q_20, .inl (cA_3, 40, .inl (fun _ => 0))), (q_23, .inl (cA_3, 40, .inl (fun _ => 0))), (q_32, .inl (cA_3, 40, .inl (fun _ => 0))), (q_35, .inl (cA_3, 40, .inl (fun _ => 0))), (q_38, .inl (cA_3, 40, .inl (fun _ => 0))), (q_47, .inl (cA_3, 40, .inl (fun _ => 0))), (q_71, .inl (cA_72, 1000, .inl (fun _ => 0)))] H := by rw [efs_73]; exact hP
  have hD : va_D A [(h0, .inr (6, fs_73)), (q_2, .inl (cA_3, 8, .inl (fun _ => 0))), (q_5, .inl (cA_3, 32, .inl (fun _ => 0))), (q_8, .inl (cA_3, 100, .inl (fun _ => 0))), (q_11, .inl (cA_3, 40, .inl (fun _ => 0))), (q_14, .inl (cA_3, 40, .inl (fun _ => 0))), (q_17, .inl (cA_3, 40, .inl (fun _ => 0))), (q_20, .inl (cA_3, 40, .inl (fun _ => 0))), (q_23, .inl (cA_3, 40, .inl (fun _ => 0))), (q_32, .inl (cA_3, 40, .inl (fun _ => 0))), (q_35, .inl (cA_3, 40, .inl (fun _ => 0))), (q_38, .inl (cA_3, 40, .inl (fun _ => 0))), (q_47, .inl (cA_3, 40, .inl (fun _ => 0))), (q_71, .inl (cA_72, 1000, .inl (fun _ => 0)))] := by rw [efs_73]; exact hD
  have hf1_h0 : fs_73[1]? = some (.int 0) := by rw [efs_73, List.getElem?_set_ne (by decide)]; exact hf1_h0
  have hf2_h0 : fs_73[2]? = some (.int 0) := by rw [efs_73, List.getElem?_set_ne (by decide)]; exact hf2_h0
  have hf3_h0 : fs_73[3]? = some (.int 0) := by rw [efs_73, List.getElem?_set_ne (by decide)]; exact hf3_h0
  have hf5_h0 : fs_73[5]? = some (.int 0) := by rw [efs_73, List.getElem?_set_ne (by decide)]; exact hf5_h0
  have hf9_h0 : fs_73[9]? = some (.int 0) := by rw [efs_73, List.getElem?_set_ne (by decide)]; exact hf9_h0
  have hf25_h0 : fs_73[25]? = some (.int 0) := by rw [efs_73, List.getElem?_set_ne (by decide)]; exact hf25_h0
  have hf6_h0 : fs_73[6]? = some (.ref q_2) := by rw [efs_73, List.getElem?_set_ne (by decide)]; exact hf6_h0
  have hf7_h0 : fs_73[7]? = some (.ref q_5) := by rw [efs_73, List.getElem?_set_ne (by decide)]; exact hf7_h0
  have hf8_h0 : fs_73[8]? = some (.ref q_8) := by rw [efs_73, List.getElem?_set_ne (by decide)]; exact hf8_h0
  have hf10_h0 : fs_73[10]? = some (.ref q_11) := by rw [efs_73, List.getElem?_set_ne (by decide)]; exact hf10_h0
  have hf11_h0 : fs_73[11]? = some (.ref q_14) := by rw [efs_73, List.getElem?_set_ne (by decide)]; exact hf11_h0
  have hf12_h0 : fs_73[12]? = some (.ref q_17) := by rw [efs_73, List.getElem?_set_ne (by decide)]; exact hf12_h0
  have hf13_h0 : fs_73[13]? = some (.ref q_20) := by rw [efs_73, List.getElem?_set_ne (by decide)]; exact hf13_h0
  have hf14_h0 : fs_73[14]? = some (.ref q_23) := by rw [efs_73, List.getElem?_set_ne (by decide)]; exact hf14_h0
  have hf17_h0 : fs_73[17]? = some (.ref q_32) := by rw [efs_73, List.getElem?_set_ne (by decide)]; exact hf17_h0
  have hf18_h0 : fs_73[18]? = some (.ref q_35) := by rw [efs_73, List.getElem?_set_ne (by decide)]; exact hf18_h0
  have hf19_h0 : fs_73[19]? = some (.ref q_38) := by rw [efs_73, List.getElem?_set_ne (by decide)]; exact hf19_h0
  have hf22_h0 : fs_73[22]? = some (.ref q_47) := by rw [efs_73, List.getElem?_set_ne (by decide)]; exact hf22_h0
  have hlen_h0 : fs_73.length = 51 := by rw [efs_73, List.length_set]; exact hlen_h0
  have hK := hK.sub (tys' := [(cA_3, .int)]) [0] rfl
  have hP := hP.sub (ws' := [(h0, .inr (6, fs_73)), (q_2, .inl (cA_3, 8, .inl (fun _ => 0))), (q_5, .inl (cA_3, 32, .inl (fun _ => 0))), (q_8, .inl (cA_3, 100, .inl (fun _ => 0))), (q_11, .inl (cA_3, 40, .inl (fun _ => 0))), (q_14, .inl (cA_3, 40, .inl (fun _ => 0))), (q_17, .inl (cA_3, 40, .inl (fun _ => 0))), (q_20, .inl (cA_3, 40, .inl (fun _ => 0))), (q_23, .inl (cA_3, 40, .inl (fun _ => 0))), (q_32, .inl (cA_3, 40, .inl (fun _ => 0))), (q_35, .inl (cA_3, 40, .inl (fun _ => 0))), (q_38, .inl (cA_3, 40, .inl (fun _ => 0))), (q_47, .inl (cA_3, 40, .inl (fun _ => 0)))]) [0, 1, 2, 3, 4, 5, 6, 7, 8, 9, 10, 11, 12] rfl
  have hD := hD.sub (ws' := [(h0, .inr (6, fs_73)), (q_2, .inl (cA_3, 8, .inl (fun _ => 0))), (q_5, .inl (cA_3, 32, .inl (fun _ => 0))), (q_8, .inl (cA_3, 100, .inl (fun _ => 0))), (q_11, .inl (cA_3, 40, .inl (fun _ => 0))), (q_14, .inl (cA_3, 40, .inl (fun _ => 0))), (q_17, .inl (cA_3, 40, .inl (fun _ => 0))), (q_20, .inl (cA_3, 40, .inl (fun _ => 0))), (q_23, .inl (cA_3, 40, .inl (fun _ => 0))), (q_32, .inl (cA_3, 40, .inl (fun _ => 0))), (q_35, .inl (cA_3, 40, .inl (fun _ => 0))), (q_38, .inl (cA_3, 40, .inl (fun _ => 0))), (q_47, .inl (cA_3, 40, .inl (fun _ => 0)))]) [0, 1, 2, 3, 4, 5, 6, 7, 8, 9, 10, 11, 12] (by decide) rfl
  refine lv_aload_n hx hb dX6_init_209 rfl (lv_at hl 0 rfl) ?_
  refine lv_sipush (v := 1000) hx hb dX6_init_210 (by decide) ?_
  refine va_newa (atype := .int) (N' := 1000) (a0 := (1000, .inl (fun _ => 0))) hx hb (hts _ wm_80) rfl hK hP hD hS hA (fun _ => rfl) (by decide) rfl (Nat.le_of_ble_eq_true rfl) (Nat.le_of_ble_eq_true rfl) (Nat.le_of_ble_eq_true rfl) dX6_init_213 (fun q_74 cA_75 H hK hP hD hS => ?_)
  have hK : va_K (dC, dI) vwCl [(cA_3, .int), (cA_75, .int)] s := hK
  have hP : va_P (dC, dI) vwCl [(h0, .inr (6, fs_73)), (q_2, .inl (cA_3, 8, .inl (fun _ => 0))), (q_5, .inl (cA_3, 32, .inl (fun _ => 0))), (q_8, .inl (cA_3, 100, .inl (fun _ => 0))), (q_11, .inl (cA_3, 40, .inl (fun _ => 0))), (q_14, .inl (cA_3, 40, .inl (fun _ => 0))), (q_17, .inl (cA_3, 40, .inl (fun _ => 0))), (q_20, .inl (cA_3, 40, .inl (fun _ => 0))), (q_23, .inl (cA_3, 40, .inl (fun _ => 0))), (q_32, .inl (cA_3, 40, .inl (fun _ => 0))), (q_35, .inl (cA_3, 40, .inl (fun _ => 0))), (q_38, .inl (cA_3, 40, .inl (fun _ => 0))), (q_47, .inl (cA_3, 40, .inl (fun _ => 0))), (q_74, .inl (cA_75, 1000, .inl (fun _ => 0)))] H := hP
  have hD : va_D A [(h0, .inr (6, fs_73)), (q_2, .inl (cA_3, 8, .inl (fun _ => 0))), (q_5, .inl (cA_3, 32, .inl (fun _ => 0))), (q_8, .inl (cA_3, 100, .inl (fun _ => 0))), (q_11, .inl (cA_3, 40, .inl (fun _ => 0))), (q_14, .inl (cA_3, 40, .inl (fun _ => 0))), (q_17, .inl (cA_3, 40, .inl (fun _ => 0))), (q_20, .inl (cA_3, 40, .inl (fun _ => 0))), (q_23, .inl (cA_3, 40, .inl (fun _ => 0))), (q_32, .inl (cA_3, 40, .inl (fun _ => 0))), (q_35, .inl (cA_3, 40, .inl (fun _ => 0))), (q_38, .inl (cA_3, 40, .inl (fun _ => 0))), (q_47, .inl (cA_3, 40, .inl (fun _ => 0))), (q_74, .inl (cA_75, 1000, .inl (fun _ => 0)))] := hD
  refine va_putF (D := (dC, dI)) (ci := 6) (v := .ref q_74) (ty := .array (.int)) (C := RX6) (T := TX6) (N := 51) hx hb hts uB6 tyX6 tyX6_ok nmX6 hown hK hP hD hS 0 rfl rfl 32 (by decide) (hts _ wm_175) (fun _ h9 => h9) rfl hin rfl (by decide +kernel) rfl rfl (by rw [hlen_h0]; decide) dX6_init_215 (fun H locs hP hD hS => ?_)
  obtain ⟨fs_76, efs_76⟩ : ∃ z9, z9 = (fs_73).set 32 (.ref q_74) := ⟨_, rfl⟩
  have hP : va_P (dC, dI) vwCl [(h0, .inr (6, fs_76)), (q_2, .inl (cA_3, 8, .inl (fun _ => 0))), (q_5, .inl (cA_3, 32, .inl (fun _ => 0))), (q_8, .inl (cA_3, 100, .inl (fun _ => 0))), (q_11, .inl (cA_3, 40, .inl (fun _ => 0))), (q_14, .inl (cA_3, 40, .inl (fun _ => 0))), (q_17, .inl (cA_3, 40, .inl (fun _ => 0))), (q_20, .inl (cA_3, 40, .inl (fun _ => 0))), (q_23, .inl (cA_3, 40, .inl (fun _ => 0))), (q_32, .inl (cA_3, 40, .inl (fun _ => 0))), (q_35, .inl (cA_3, 40, .inl (fun _ => 0))), (q_38, .inl (cA_3, 40, .inl (fun _ => 0))), (q_47, .inl (cA_3, 40, .inl (fun _ => 0))), (q_74, .inl (cA_75, 1000, .inl (fun _ => 0)))] H := by rw [efs_76]; exact hP
  have hD : va_D A [(h0, .inr (6, fs_76)), (q_2, .inl (cA_3, 8, .inl (fun _ => 0))), (q_5, .inl (cA_3, 32, .inl (fun _ => 0))), (q_8, .inl (cA_3, 100, .inl (fun _ => 0))), (q_11, .inl (cA_3, 40, .inl (fun _ => 0))), (q_14, .inl (cA_3, 40, .inl (fun _ => 0))), (q_17, .inl (cA_3, 40, .inl (fun _ => 0))), (q_20, .inl (cA_3, 40, .inl (fun _ => 0))), (q_23, .inl (cA_3, 40, .inl (fun _ => 0))), (q_32, .inl (cA_3, 40, .inl (fun _ => 0))), (q_35, .inl (cA_3, 40, .inl (fun _ => 0))), (q_38, .inl (cA_3, 40, .inl (fun _ => 0))), (q_47, .inl (cA_3, 40, .inl (fun _ => 0))), (q_74, .inl (cA_75, 1000, .inl (fun _ => 0)))] := by rw [efs_76]; exact hD
  have hf1_h0 : fs_76[1]? = some (.int 0) := by rw [efs_76, List.getElem?_set_ne (by decide)]; exact hf1_h0
  have hf2_h0 : fs_76[2]? = some (.int 0) := by rw [efs_76, List.getElem?_set_ne (by decide)]; exact hf2_h0
  have hf3_h0 : fs_76[3]? = some (.int 0) := by rw [efs_76, List.getElem?_set_ne (by decide)]; exact hf3_h0
  have hf5_h0 : fs_76[5]? = some (.int 0) := by rw [efs_76, List.getElem?_set_ne (by decide)]; exact hf5_h0
  have hf9_h0 : fs_76[9]? = some (.int 0) := by rw [efs_76, List.getElem?_set_ne (by decide)]; exact hf9_h0
  have hf25_h0 : fs_76[25]? = some (.int 0) := by rw [efs_76, List.getElem?_set_ne (by decide)]; exact hf25_h0
  have hf6_h0 : fs_76[6]? = some (.ref q_2) := by rw [efs_76, List.getElem?_set_ne (by decide)]; exact hf6_h0
  have hf7_h0 : fs_76[7]? = some (.ref q_5) := by rw [efs_76, List.getElem?_set_ne (by decide)]; exact hf7_h0
  have hf8_h0 : fs_76[8]? = some (.ref q_8) := by rw [efs_76, List.getElem?_set_ne (by decide)]; exact hf8_h0
  have hf10_h0 : fs_76[10]? = some (.ref q_11) := by rw [efs_76, List.getElem?_set_ne (by decide)]; exact hf10_h0
  have hf11_h0 : fs_76[11]? = some (.ref q_14) := by rw [efs_76, List.getElem?_set_ne (by decide)]; exact hf11_h0
  have hf12_h0 : fs_76[12]? = some (.ref q_17) := by rw [efs_76, List.getElem?_set_ne (by decide)]; exact hf12_h0
  have hf13_h0 : fs_76[13]? = some (.ref q_20) := by rw [efs_76, List.getElem?_set_ne (by decide)]; exact hf13_h0
  have hf14_h0 : fs_76[14]? = some (.ref q_23) := by rw [efs_76, List.getElem?_set_ne (by decide)]; exact hf14_h0
  have hf17_h0 : fs_76[17]? = some (.ref q_32) := by rw [efs_76, List.getElem?_set_ne (by decide)]; exact hf17_h0
  have hf18_h0 : fs_76[18]? = some (.ref q_35) := by rw [efs_76, List.getElem?_set_ne (by decide)]; exact hf18_h0
  have hf19_h0 : fs_76[19]? = some (.ref q_38) := by rw [efs_76, List.getElem?_set_ne (by decide)]; exact hf19_h0
  have hf22_h0 : fs_76[22]? = some (.ref q_47) := by rw [efs_76, List.getElem?_set_ne (by decide)]; exact hf22_h0
  have hlen_h0 : fs_76.length = 51 := by rw [efs_76, List.length_set]; exact hlen_h0
  have hK := hK.sub (tys' := [(cA_3, .int)]) [0] rfl
  have hP := hP.sub (ws' := [(h0, .inr (6, fs_76)), (q_2, .inl (cA_3, 8, .inl (fun _ => 0))), (q_5, .inl (cA_3, 32, .inl (fun _ => 0))), (q_8, .inl (cA_3, 100, .inl (fun _ => 0))), (q_11, .inl (cA_3, 40, .inl (fun _ => 0))), (q_14, .inl (cA_3, 40, .inl (fun _ => 0))), (q_17, .inl (cA_3, 40, .inl (fun _ => 0))), (q_20, .inl (cA_3, 40, .inl (fun _ => 0))), (q_23, .inl (cA_3, 40, .inl (fun _ => 0))), (q_32, .inl (cA_3, 40, .inl (fun _ => 0))), (q_35, .inl (cA_3, 40, .inl (fun _ => 0))), (q_38, .inl (cA_3, 40, .inl (fun _ => 0))), (q_47, .inl (cA_3, 40, .inl (fun _ => 0)))]) [0, 1, 2, 3, 4, 5, 6, 7, 8, 9, 10, 11, 12] rfl
  have hD := hD.sub (ws' := [(h0, .inr (6, fs_76)), (q_2, .inl (cA_3, 8, .inl (fun _ => 0))), (q_5, .inl (cA_3, 32, .inl (fun _ => 0))), (q_8, .inl (cA_3, 100, .inl (fun _ => 0))), (q_11, .inl (cA_3, 40, .inl (fun _ => 0))), (q_14, .inl (cA_3, 40, .inl (fun _ => 0))), (q_17, .inl (cA_3, 40, .inl (fun _ => 0))), (q_20, .inl (cA_3, 40, .inl (fun _ => 0))), (q_23, .inl (cA_3, 40, .inl (fun _ => 0))), (q_32, .inl (cA_3, 40, .inl (fun _ => 0))), (q_35, .inl (cA_3, 40, .inl (fun _ => 0))), (q_38, .inl (cA_3, 40, .inl (fun _ => 0))), (q_47, .inl (cA_3, 40, .inl (fun _ => 0)))]) [0, 1, 2, 3, 4, 5, 6, 7, 8, 9, 10, 11, 12] (by decide) rfl
  refine lv_aload_n hx hb dX6_init_218 rfl (lv_at hl 0 rfl) ?_
  refine lv_sipush (v := 1000) hx hb dX6_init_219 (by decide) ?_
  refine va_newa (atype := .int) (N' := 1000) (a0 := (1000, .inl (fun _ => 0))) hx hb (hts _ wm_80) rfl hK hP hD hS hA (fun _ => rfl) (by decide) rfl (Nat.le_of_ble_eq_true rfl) (Nat.le_of_ble_eq_true rfl) (Nat.le_of_ble_eq_true rfl) dX6_init_222 (fun q_77 cA_78 H hK hP hD hS => ?_)
  have hK : va_K (dC, dI) vwCl [(cA_3, .int), (cA_78, .int)] s := hK
  have hP : va_P (dC, dI) vwCl [(h0, .inr (6, fs_76)), (q_2, .inl (cA_3, 8, .inl (fun _ => 0))), (q_5, .inl (cA_3, 32, .inl (fun _ => 0))), (q_8, .inl (cA_3, 100, .inl (fun _ => 0))), (q_11, .inl (cA_3, 40, .inl (fun _ => 0))), (q_14, .inl (cA_3, 40, .inl (fun _ => 0))), (q_17, .inl (cA_3, 40, .inl (fun _ => 0))), (q_20, .inl (cA_3, 40, .inl (fun _ => 0))), (q_23, .inl (cA_3, 40, .inl (fun _ => 0))), (q_32, .inl (cA_3, 40, .inl (fun _ => 0))), (q_35, .inl (cA_3, 40, .inl (fun _ => 0))), (q_38, .inl (cA_3, 40, .inl (fun _ => 0))), (q_47, .inl (cA_3, 40, .inl (fun _ => 0))), (q_77, .inl (cA_78, 1000, .inl (fun _ => 0)))] H := hP
  have hD : va_D A [(h0, .inr (6, fs_76)), (q_2, .inl (cA_3, 8, .inl (fun _ => 0))), (q_5, .inl (cA_3, 32, .inl (fun _ => 0))), (q_8, .inl (cA_3, 100, .inl (fun _ => 0))), (q_11, .inl (cA_3, 40, .inl (fun _ => 0))), (q_14, .inl (cA_3, 40, .inl (fun _ => 0))), (q_17, .inl (cA_3, 40, .inl (fun _ => 0))), (q_20, .inl (cA_3, 40, .inl (fun _ => 0))), (q_23, .inl (cA_3, 40, .inl (fun _ => 0))), (q_32, .inl (cA_3, 40, .inl (fun _ => 0))), (q_35, .inl (cA_3, 40, .inl (fun _ => 0))), (q_38, .inl (cA_3, 40, .inl (fun _ => 0))), (q_47, .inl (cA_3, 40, .inl (fun _ => 0))), (q_77, .inl (cA_78, 1000, .inl (fun _ => 0)))] := hD
  refine va_putF (D := (dC, dI)) (ci := 6) (v := .ref q_77) (ty := .array (.int)) (C := RX6) (T := TX6) (N := 51) hx hb hts uB6 tyX6 tyX6_ok nmX6 hown hK hP hD hS 0 rfl rfl 33 (by decide) (hts _ wm_176) (fun _ h9 => h9) rfl hin rfl (by decide +kernel) rfl rfl (by rw [hlen_h0]; decide) dX6_init_224 (fun H locs hP hD hS => ?_)
  obtain ⟨fs_79, efs_79⟩ : ∃ z9, z9 = (fs_76).set 33 (.ref q_77) := ⟨_, rfl⟩
  have hP : va_P (dC, dI) vwCl [(h0, .inr (6, fs_79)), (q_2, .inl (cA_3, 8, .inl (fun _ => 0))), (q_5, .inl (cA_3, 32, .inl (fun _ => 0))), (q_8, .inl (cA_3, 100, .inl (fun _ => 0))), (q_11, .inl (cA_3, 40, .inl (fun _ => 0))), (q_14, .inl (cA_3, 40, .inl (fun _ => 0))), (q_17, .inl (cA_3, 40, .inl (fun _ => 0))), (q_20, .inl (cA_3, 40, .inl (fun _ => 0))), (q_23, .inl (cA_3, 40, .inl (fun _ => 0))), (q_32, .inl (cA_3, 40, .inl (fun _ => 0))), (q_35, .inl (cA_3, 40, .inl (fun _ => 0))), (q_38, .inl (cA_3, 40, .inl (fun _ => 0))), (q_47, .inl (cA_3, 40, .inl (fun _ => 0))), (q_77, .inl (cA_78, 1000, .inl (fun _ => 0)))] H := by rw [efs_79]; exact hP
  have hD : va_D A [(h0, .inr (6, fs_79)), (q_2, .inl (cA_3, 8, .inl (fun _ => 0))), (q_5, .inl (cA_3, 32, .inl (fun _ => 0))), (q_8, .inl (cA_3, 100, .inl (fun _ => 0))), (q_11, .inl (cA_3, 40, .inl (fun _ => 0))), (q_14, .inl (cA_3, 40, .inl (fun _ => 0))), (q_17, .inl (cA_3, 40, .inl (fun _ => 0))), (q_20, .inl (cA_3, 40, .inl (fun _ => 0))), (q_23, .inl (cA_3, 40, .inl (fun _ => 0))), (q_32, .inl (cA_3, 40, .inl (fun _ => 0))), (q_35, .inl (cA_3, 40, .inl (fun _ => 0))), (q_38, .inl (cA_3, 40, .inl (fun _ => 0))), (q_47, .inl (cA_3, 40, .inl (fun _ => 0))), (q_77, .inl (cA_78, 1000, .inl (fun _ => 0)))] := by rw [efs_79]; exact hD
  have hf1_h0 : fs_79[1]? = some (.int 0) := by rw [efs_79, List.getElem?_set_ne (by decide)]; exact hf1_h0
  have hf2_h0 : fs_79[2]? = some (.int 0) := by rw [efs_79, List.getElem?_set_ne (by decide)]; exact hf2_h0
  have hf3_h0 : fs_79[3]? = some (.int 0) := by rw [efs_79, List.getElem?_set_ne (by decide)]; exact hf3_h0
  have hf5_h0 : fs_79[5]? = some (.int 0) := by rw [efs_79, List.getElem?_set_ne (by decide)]; exact hf5_h0
  have hf9_h0 : fs_79[9]? = some (.int 0) := by rw [efs_79, List.getElem?_set_ne (by decide)]; exact hf9_h0
  have hf25_h0 : fs_79[25]? = some (.int 0) := by rw [efs_79, List.getElem?_set_ne (by decide)]; exact hf25_h0
  have hf6_h0 : fs_79[6]? = some (.ref q_2) := by rw [efs_79, List.getElem?_set_ne (by decide)]; exact hf6_h0
  have hf7_h0 : fs_79[7]? = some (.ref q_5) := by rw [efs_79, List.getElem?_set_ne (by decide)]; exact hf7_h0
  have hf8_h0 : fs_79[8]? = some (.ref q_8) := by rw [efs_79, List.getElem?_set_ne (by decide)]; exact hf8_h0
  have hf10_h0 : fs_79[10]? = some (.ref q_11) := by rw [efs_79, List.getElem?_set_ne (by decide)]; exact hf10_h0
  have hf11_h0 : fs_79[11]? = some (.ref q_14) := by rw [efs_79, List.getElem?_set_ne (by decide)]; exact hf11_h0
  have hf12_h0 : fs_79[12]? = some (.ref q_17) := by rw [efs_79, List.getElem?_set_ne (by decide)]; exact hf12_h0
  have hf13_h0 : fs_79[13]? = some (.ref q_20) := by rw [efs_79, List.getElem?_set_ne (by decide)]; exact hf13_h0
  have hf14_h0 : fs_79[14]? = some (.ref q_23) := by rw [efs_79, List.getElem?_set_ne (by decide)]; exact hf14_h0
  have hf17_h0 : fs_79[17]? = some (.ref q_32) := by rw [efs_79, List.getElem?_set_ne (by decide)]; exact hf17_h0
  have hf18_h0 : fs_79[18]? = some (.ref q_35) := by rw [efs_79, List.getElem?_set_ne (by decide)]; exact hf18_h0
  have hf19_h0 : fs_79[19]? = some (.ref q_38) := by rw [efs_79, List.getElem?_set_ne (by decide)]; exact hf19_h0
  have hf22_h0 : fs_79[22]? = some (.ref q_47) := by rw [efs_79, List.getElem?_set_ne (by decide)]; exact hf22_h0
  have hlen_h0 : fs_79.length = 51 := by rw [efs_79, List.length_set]; exact hlen_h0
  have hK := hK.sub (tys' := [(cA_3, .int)]) [0] rfl
  have hP := hP.sub (ws' := [(h0, .inr (6, fs_79)), (q_2, .inl (cA_3, 8, .inl (fun _ => 0))), (q_5, .inl (cA_3, 32, .inl (fun _ => 0))), (q_8, .inl (cA_3, 100, .inl (fun _ => 0))), (q_11, .inl (cA_3, 40, .inl (fun _ => 0))), (q_14, .inl (cA_3, 40, .inl (fun _ => 0))), (q_17, .inl (cA_3, 40, .inl (fun _ => 0))), (q_20, .inl (cA_3, 40, .inl (fun _ => 0))), (q_23, .inl (cA_3, 40, .inl (fun _ => 0))), (q_32, .inl (cA_3, 40, .inl (fun _ => 0))), (q_35, .inl (cA_3, 40, .inl (fun _ => 0))), (q_38, .inl (cA_3, 40, .inl (fun _ => 0))), (q_47, .inl (cA_3, 40, .inl (fun _ => 0)))]) [0, 1, 2, 3, 4, 5, 6, 7, 8, 9, 10, 11, 12] rfl
  have hD := hD.sub (ws' := [(h0, .inr (6, fs_79)), (q_2, .inl (cA_3, 8, .inl (fun _ => 0))), (q_5, .inl (cA_3, 32, .inl (fun _ => 0))), (q_8, .inl (cA_3, 100, .inl (fun _ => 0))), (q_11, .inl (cA_3, 40, .inl (fun _ => 0))), (q_14, .inl (cA_3, 40, .inl (fun _ => 0))), (q_17, .inl (cA_3, 40, .inl (fun _ => 0))), (q_20, .inl (cA_3, 40, .inl (fun _ => 0))), (q_23, .inl (cA_3, 40, .inl (fun _ => 0))), (q_32, .inl (cA_3, 40, .inl (fun _ => 0))), (q_35, .inl (cA_3, 40, .inl (fun _ => 0))), (q_38, .inl (cA_3, 40, .inl (fun _ => 0))), (q_47, .inl (cA_3, 40, .inl (fun _ => 0)))]) [0, 1, 2, 3, 4, 5, 6, 7, 8, 9, 10, 11, 12] (by decide) rfl
  refine lv_aload_n hx hb dX6_init_227 rfl (lv_at hl 0 rfl) ?_
  refine lv_sipush (v := 1000) hx hb dX6_init_228 (by decide) ?_
  refine va_newa (atype := .int) (N' := 1000) (a0 := (1000, .inl (fun _ => 0))) hx hb (hts _ wm_80) rfl hK hP hD hS hA (fun _ => rfl) (by decide) rfl (Nat.le_of_ble_eq_true rfl) (Nat.le_of_ble_eq_true rfl) (Nat.le_of_ble_eq_true rfl) dX6_init_231 (fun q_80 cA_81 H hK hP hD hS => ?_)
  have hK : va_K (dC, dI) vwCl [(cA_3, .int), (cA_81, .int)] s := hK
  have hP : va_P (dC, dI) vwCl [(h0, .inr (6, fs_79)), (q_2, .inl (cA_3, 8, .inl (fun _ => 0))), (q_5, .inl (cA_3, 32, .inl (fun _ => 0))), (q_8, .inl (cA_3, 100, .inl (fun _ => 0))), (q_11, .inl (cA_3, 40, .inl (fun _ => 0))), (q_14, .inl (cA_3, 40, .inl (fun _ => 0))), (q_17, .inl (cA_3, 40, .inl (fun _ => 0))), (q_20, .inl (cA_3, 40, .inl (fun _ => 0))), (q_23, .inl (cA_3, 40, .inl (fun _ => 0))), (q_32, .inl (cA_3, 40, .inl (fun _ => 0))), (q_35, .inl (cA_3, 40, .inl (fun _ => 0))), (q_38, .inl (cA_3, 40, .inl (fun _ => 0))), (q_47, .inl (cA_3, 40, .inl (fun _ => 0))), (q_80, .inl (cA_81, 1000, .inl (fun _ => 0)))] H := hP
  have hD : va_D A [(h0, .inr (6, fs_79)), (q_2, .inl (cA_3, 8, .inl (fun _ => 0))), (q_5, .inl (cA_3, 32, .inl (fun _ => 0))), (q_8, .inl (cA_3, 100, .inl (fun _ => 0))), (q_11, .inl (cA_3, 40, .inl (fun _ => 0))), (q_14, .inl (cA_3, 40, .inl (fun _ => 0))), (q_17, .inl (cA_3, 40, .inl (fun _ => 0))), (q_20, .inl (cA_3, 40, .inl (fun _ => 0))), (q_23, .inl (cA_3, 40, .inl (fun _ => 0))), (q_32, .inl (cA_3, 40, .inl (fun _ => 0))), (q_35, .inl (cA_3, 40, .inl (fun _ => 0))), (q_38, .inl (cA_3, 40, .inl (fun _ => 0))), (q_47, .inl (cA_3, 40, .inl (fun _ => 0))), (q_80, .inl (cA_81, 1000, .inl (fun _ => 0)))] := hD
  refine va_putF (D := (dC, dI)) (ci := 6) (v := .ref q_80) (ty := .array (.int)) (C := RX6) (T := TX6) (N := 51) hx hb hts uB6 tyX6 tyX6_ok nmX6 hown hK hP hD hS 0 rfl rfl 34 (by decide) (hts _ wm_177) (fun _ h9 => h9) rfl hin rfl (by decide +kernel) rfl rfl (by rw [hlen_h0]; decide) dX6_init_233 (fun H locs hP hD hS => ?_)
  obtain ⟨fs_82, efs_82⟩ : ∃ z9, z9 = (fs_79).set 34 (.ref q_80) := ⟨_, rfl⟩
  have hP : va_P (dC, dI) vwCl [(h0, .inr (6, fs_82)), (q_2, .inl (cA_3, 8, .inl (fun _ => 0))), (q_5, .inl (cA_3, 32, .inl (fun _ => 0))), (q_8, .inl (cA_3, 100, .inl (fun _ => 0))), (q_11, .inl (cA_3, 40, .inl (fun _ => 0))), (q_14, .inl (cA_3, 40, .inl (fun _ => 0))), (q_17, .inl (cA_3, 40, .inl (fun _ => 0))), (q_20, .inl (cA_3, 40, .inl (fun _ => 0))), (q_23, .inl (cA_3, 40, .inl (fun _ => 0))), (q_32, .inl (cA_3, 40, .inl (fun _ => 0))), (q_35, .inl (cA_3, 40, .inl (fun _ => 0))), (q_38, .inl (cA_3, 40, .inl (fun _ => 0))), (q_47, .inl (cA_3, 40, .inl (fun _ => 0))), (q_80, .inl (cA_81, 1000, .inl (fun _ => 0)))] H := by rw [efs_82]; exact hP
  have hD : va_D A [(h0, .inr (6, fs_82)), (q_2, .inl (cA_3, 8, .inl (fun _ => 0))), (q_5, .inl (cA_3, 32, .inl (fun _ => 0))), (q_8, .inl (cA_3, 100, .inl (fun _ => 0))), (q_11, .inl (cA_3, 40, .inl (fun _ => 0))), (q_14, .inl (cA_3, 40, .inl (fun _ => 0))), (q_17, .inl (cA_3, 40, .inl (fun _ => 0))), (q_20, .inl (cA_3, 40, .inl (fun _ => 0))), (q_23, .inl (cA_3, 40, .inl (fun _ => 0))), (q_32, .inl (cA_3, 40, .inl (fun _ => 0))), (q_35, .inl (cA_3, 40, .inl (fun _ => 0))), (q_38, .inl (cA_3, 40, .inl (fun _ => 0))), (q_47, .inl (cA_3, 40, .inl (fun _ => 0))), (q_80, .inl (cA_81, 1000, .inl (fun _ => 0)))] := by rw [efs_82]; exact hD
  have hf1_h0 : fs_82[1]? = some (.int 0) := by rw [efs_82, List.getElem?_set_ne (by decide)]; exact hf1_h0
  have hf2_h0 : fs_82[2]? = some (.int 0) := by rw [efs_82, List.getElem?_set_ne (by decide)]; exact hf2_h0
  have hf3_h0 : fs_82[3]? = some (.int 0) := by rw [efs_82, List.getElem?_set_ne (by decide)]; exact hf3_h0
  have hf5_h0 : fs_82[5]? = some (.int 0) := by rw [efs_82, List.getElem?_set_ne (by decide)]; exact hf5_h0
  have hf9_h0 : fs_82[9]? = some (.int 0) := by rw [efs_82, List.getElem?_set_ne (by decide)]; exact hf9_h0
  have hf25_h0 : fs_82[25]? = some (.int 0) := by rw [efs_82, List.getElem?_set_ne (by decide)]; exact hf25_h0
  have hf6_h0 : fs_82[6]? = some (.ref q_2) := by rw [efs_82, List.getElem?_set_ne (by decide)]; exact hf6_h0
  have hf7_h0 : fs_82[7]? = some (.ref q_5) := by rw [efs_82, List.getElem?_set_ne (by decide)]; exact hf7_h0
  have hf8_h0 : fs_82[8]? = some (.ref q_8) := by rw [efs_82, List.getElem?_set_ne (by decide)]; exact hf8_h0
  have hf10_h0 : fs_82[10]? = some (.ref q_11) := by rw [efs_82, List.getElem?_set_ne (by decide)]; exact hf10_h0
  have hf11_h0 : fs_82[11]? = some (.ref q_14) := by rw [efs_82, List.getElem?_set_ne (by decide)]; exact hf11_h0
  have hf12_h0 : fs_82[12]? = some (.ref q_17) := by rw [efs_82, List.getElem?_set_ne (by decide)]; exact hf12_h0
  have hf13_h0 : fs_82[13]? = some (.ref q_20) := by rw [efs_82, List.getElem?_set_ne (by decide)]; exact hf13_h0
  have hf14_h0 : fs_82[14]? = some (.ref q_23) := by rw [efs_82, List.getElem?_set_ne (by decide)]; exact hf14_h0
  have hf17_h0 : fs_82[17]? = some (.ref q_32) := by rw [efs_82, List.getElem?_set_ne (by decide)]; exact hf17_h0
  have hf18_h0 : fs_82[18]? = some (.ref q_35) := by rw [efs_82, List.getElem?_set_ne (by decide)]; exact hf18_h0
  have hf19_h0 : fs_82[19]? = some (.ref q_38) := by rw [efs_82, List.getElem?_set_ne (by decide)]; exact hf19_h0
  have hf22_h0 : fs_82[22]? = some (.ref q_47) := by rw [efs_82, List.getElem?_set_ne (by decide)]; exact hf22_h0
  have hlen_h0 : fs_82.length = 51 := by rw [efs_82, List.length_set]; exact hlen_h0
  have hK := hK.sub (tys' := [(cA_3, .int)]) [0] rfl
  have hP := hP.sub (ws' := [(h0, .inr (6, fs_82)), (q_2, .inl (cA_3, 8, .inl (fun _ => 0))), (q_5, .inl (cA_3, 32, .inl (fun _ => 0))), (q_8, .inl (cA_3, 100, .inl (fun _ => 0))), (q_11, .inl (cA_3, 40, .inl (fun _ => 0))), (q_14, .inl (cA_3, 40, .inl (fun _ => 0))), (q_17, .inl (cA_3, 40, .inl (fun _ => 0))), (q_20, .inl (cA_3, 40, .inl (fun _ => 0))), (q_23, .inl (cA_3, 40, .inl (fun _ => 0))), (q_32, .inl (cA_3, 40, .inl (fun _ => 0))), (q_35, .inl (cA_3, 40, .inl (fun _ => 0))), (q_38, .inl (cA_3, 40, .inl (fun _ => 0))), (q_47, .inl (cA_3, 40, .inl (fun _ => 0)))]) [0, 1, 2, 3, 4, 5, 6, 7, 8, 9, 10, 11, 12] rfl
  have hD := hD.sub (ws' := [(h0, .inr (6, fs_82)), (q_2, .inl (cA_3, 8, .inl (fun _ => 0))), (q_5, .inl (cA_3, 32, .inl (fun _ => 0))), (q_8, .inl (cA_3, 100, .inl (fun _ => 0))), (q_11, .inl (cA_3, 40, .inl (fun _ => 0))), (q_14, .inl (cA_3, 40, .inl (fun _ => 0))), (q_17, .inl (cA_3, 40, .inl (fun _ => 0))), (q_20, .inl (cA_3, 40, .inl (fun _ => 0))), (q_23, .inl (cA_3, 40, .inl (fun _ => 0))), (q_32, .inl (cA_3, 40, .inl (fun _ => 0))), (q_35, .inl (cA_3, 40, .inl (fun _ => 0))), (q_38, .inl (cA_3, 40, .inl (fun _ => 0))), (q_47, .inl (cA_3, 40, .inl (fun _ => 0)))]) [0, 1, 2, 3, 4, 5, 6, 7, 8, 9, 10, 11, 12] (by decide) rfl
  refine lv_aload_n hx hb dX6_init_236 rfl (lv_at hl 0 rfl) ?_
  refine lv_bipush (v := 40) hx hb dX6_init_237 (by decide) ?_
  refine va_newa (atype := .int) (N' := 40) (a0 := (40, .inl (fun _ => 0))) hx hb (hts _ wm_80) rfl hK hP hD hS hA (fun _ => rfl) (by decide) rfl (Nat.le_of_ble_eq_true rfl) (Nat.le_of_ble_eq_true rfl) (Nat.le_of_ble_eq_true rfl) dX6_init_239 (fun q_83 cA_84 H hK hP hD hS => ?_)
  have hK : va_K (dC, dI) vwCl [(cA_3, .int), (cA_84, .int)] s := hK
  have hP : va_P (dC, dI) vwCl [(h0, .inr (6, fs_82)), (q_2, .inl (cA_3, 8, .inl (fun _ => 0))), (q_5, .inl (cA_3, 32, .inl (fun _ => 0))), (q_8, .inl (cA_3, 100, .inl (fun _ => 0))), (q_11, .inl (cA_3, 40, .inl (fun _ => 0))), (q_14, .inl (cA_3, 40, .inl (fun _ => 0))), (q_17, .inl (cA_3, 40, .inl (fun _ => 0))), (q_20, .inl (cA_3, 40, .inl (fun _ => 0))), (q_23, .inl (cA_3, 40, .inl (fun _ => 0))), (q_32, .inl (cA_3, 40, .inl (fun _ => 0))), (q_35, .inl (cA_3, 40, .inl (fun _ => 0))), (q_38, .inl (cA_3, 40, .inl (fun _ => 0))), (q_47, .inl (cA_3, 40, .inl (fun _ => 0))), (q_83, .inl (cA_84, 40, .inl (fun _ => 0)))] H := hP
  have hD : va_D A [(h0, .inr (6, fs_82)), (q_2, .inl (cA_3, 8, .inl (fun _ => 0))), (q_5, .inl (cA_3, 32, .inl (fun _ => 0))), (q_8, .inl (cA_3, 100, .inl (fun _ => 0))), (q_11, .inl (cA_3, 40, .inl (fun _ => 0))), (q_14, .inl (cA_3, 40, .inl (fun _ => 0))), (q_17, .inl (cA_3, 40, .inl (fun _ => 0))), (q_20, .inl (cA_3, 40, .inl (fun _ => 0))), (q_23, .inl (cA_3, 40, .inl (fun _ => 0))), (q_32, .inl (cA_3, 40, .inl (fun _ => 0))), (q_35, .inl (cA_3, 40, .inl (fun _ => 0))), (q_38, .inl (cA_3, 40, .inl (fun _ => 0))), (q_47, .inl (cA_3, 40, .inl (fun _ => 0))), (q_83, .inl (cA_84, 40, .inl (fun _ => 0)))] := hD
  refine va_putF (D := (dC, dI)) (ci := 6) (v := .ref q_83) (ty := .array (.int)) (C := RX6) (T := TX6) (N := 51) hx hb hts uB6 tyX6 tyX6_ok nmX6 hown hK hP hD hS 0 rfl rfl 36 (by decide) (hts _ wm_178) (fun _ h9 => h9) rfl hin rfl (by decide +kernel) rfl rfl (by rw [hlen_h0]; decide) dX6_init_241 (fun H locs hP hD hS => ?_)
  obtain ⟨fs_85, efs_85⟩ : ∃ z9, z9 = (fs_82).set 36 (.ref q_83) := ⟨_, rfl⟩
  have hP : va_P (dC, dI) vwCl [(h0, .inr (6, fs_85)), (q_2, .inl (cA_3, 8, .inl (fun _ => 0))), (q_5, .inl (cA_3, 32, .inl (fun _ => 0))), (q_8, .inl (cA_3, 100, .inl (fun _ => 0))), (q_11, .inl (cA_3, 40, .inl (fun _ => 0))), (q_14, .inl (cA_3, 40, .inl (fun _ => 0))), (q_17, .inl (cA_3, 40, .inl (fun _ => 0))), (q_20, .inl (cA_3, 40, .inl (fun _ => 0))), (q_23, .inl (cA_3, 40, .inl (fun _ => 0))), (q_32, .inl (cA_3, 40, .inl (fun _ => 0))), (q_35, .inl (cA_3, 40, .inl (fun _ => 0))), (q_38, .inl (cA_3, 40, .inl (fun _ => 0))), (q_47, .inl (cA_3, 40, .inl (fun _ => 0))), (q_83, .inl (cA_84, 40, .inl (fun _ => 0)))] H := by rw [efs_85]; exact hP
  have hD : va_D A [(h0, .inr (6, fs_85)), (q_2, .inl (cA_3, 8, .inl (fun _ => 0))), (q_5, .inl (cA_3, 32, .inl (fun _ => 0))), (q_8, .inl (cA_3, 100, .inl (fun _ => 0))), (q_11, .inl (cA_3, 40, .inl (fun _ => 0))), (q_14, .inl (cA_3, 40, .inl (fun _ => 0))), (q_17, .inl (cA_3, 40, .inl (fun _ => 0))), (q_20, .inl (cA_3, 40, .inl (fun _ => 0))), (q_23, .inl (cA_3, 40, .inl (fun _ => 0))), (q_32, .inl (cA_3, 40, .inl (fun _ => 0))), (q_35, .inl (cA_3, 40, .inl (fun _ => 0))), (q_38, .inl (cA_3, 40, .inl (fun _ => 0))), (q_47, .inl (cA_3, 40, .inl (fun _ => 0))), (q_83, .inl (cA_84, 40, .inl (fun _ => 0)))] := by rw [efs_85]; exact hD
  have hf1_h0 : fs_85[1]? = some (.int 0) := by rw [efs_85, List.getElem?_set_ne (by decide)]; exact hf1_h0
  have hf2_h0 : fs_85[2]? = some (.int 0) := by rw [efs_85, List.getElem?_set_ne (by decide)]; exact hf2_h0
  have hf3_h0 : fs_85[3]? = some (.int 0) := by rw [efs_85, List.getElem?_set_ne (by decide)]; exact hf3_h0
  have hf5_h0 : fs_85[5]? = some (.int 0) := by rw [efs_85, List.getElem?_set_ne (by decide)]; exact hf5_h0
  have hf9_h0 : fs_85[9]? = some (.int 0) := by rw [efs_85, List.getElem?_set_ne (by decide)]; exact hf9_h0
  have hf25_h0 : fs_85[25]? = some (.int 0) := by rw [efs_85, List.getElem?_set_ne (by decide)]; exact hf25_h0
  have hf6_h0 : fs_85[6]? = some (.ref q_2) := by rw [efs_85, List.getElem?_set_ne (by decide)]; exact hf6_h0
  have hf7_h0 : fs_85[7]? = some (.ref q_5) := by rw [efs_85, List.getElem?_set_ne (by decide)]; exact hf7_h0
  have hf8_h0 : fs_85[8]? = some (.ref q_8) := by rw [efs_85, List.getElem?_set_ne (by decide)]; exact hf8_h0
  have hf10_h0 : fs_85[10]? = some (.ref q_11) := by rw [efs_85, List.getElem?_set_ne (by decide)]; exact hf10_h0
  have hf11_h0 : fs_85[11]? = some (.ref q_14) := by rw [efs_85, List.getElem?_set_ne (by decide)]; exact hf11_h0
  have hf12_h0 : fs_85[12]? = some (.ref q_17) := by rw [efs_85, List.getElem?_set_ne (by decide)]; exact hf12_h0
  have hf13_h0 : fs_85[13]? = some (.ref q_20) := by rw [efs_85, List.getElem?_set_ne (by decide)]; exact hf13_h0
  have hf14_h0 : fs_85[14]? = some (.ref q_23) := by rw [efs_85, List.getElem?_set_ne (by decide)]; exact hf14_h0
  have hf17_h0 : fs_85[17]? = some (.ref q_32) := by rw [efs_85, List.getElem?_set_ne (by decide)]; exact hf17_h0
  have hf18_h0 : fs_85[18]? = some (.ref q_35) := by rw [efs_85, List.getElem?_set_ne (by decide)]; exact hf18_h0
  have hf19_h0 : fs_85[19]? = some (.ref q_38) := by rw [efs_85, List.getElem?_set_ne (by decide)]; exact hf19_h0
  have hf22_h0 : fs_85[22]? = some (.ref q_47) := by rw [efs_85, List.getElem?_set_ne (by decide)]; exact hf22_h0
  have hlen_h0 : fs_85.length = 51 := by rw [efs_85, List.length_set]; exact hlen_h0
  have hK := hK.sub (tys' := [(cA_3, .int)]) [0] rfl
  have hP := hP.sub (ws' := [(h0, .inr (6, fs_85)), (q_2, .inl (cA_3, 8, .inl (fun _ => 0))), (q_5, .inl (cA_3, 32, .inl (fun _ => 0))), (q_8, .inl (cA_3, 100, .inl (fun _ => 0))), (q_11, .inl (cA_3, 40, .inl (fun _ => 0))), (q_14, .inl (cA_3, 40, .inl (fun _ => 0))), (q_17, .inl (cA_3, 40, .inl (fun _ => 0))), (q_20, .inl (cA_3, 40, .inl (fun _ => 0))), (q_23, .inl (cA_3, 40, .inl (fun _ => 0))), (q_32, .inl (cA_3, 40, .inl (fun _ => 0))), (q_35, .inl (cA_3, 40, .inl (fun _ => 0))), (q_38, .inl (cA_3, 40, .inl (fun _ => 0))), (q_47, .inl (cA_3, 40, .inl (fun _ => 0)))]) [0, 1, 2, 3, 4, 5, 6, 7, 8, 9, 10, 11, 12] rfl
  have hD := hD.sub (ws' := [(h0, .inr (6, fs_85)), (q_2, .inl (cA_3, 8, .inl (fun _ => 0))), (q_5, .inl (cA_3, 32, .inl (fun _ => 0))), (q_8, .inl (cA_3, 100, .inl (fun _ => 0))), (q_11, .inl (cA_3, 40, .inl (fun _ => 0))), (q_14, .inl (cA_3, 40, .inl (fun _ => 0))), (q_17, .inl (cA_3, 40, .inl (fun _ => 0))), (q_20, .inl (cA_3, 40, .inl (fun _ => 0))), (q_23, .inl (cA_3, 40, .inl (fun _ => 0))), (q_32, .inl (cA_3, 40, .inl (fun _ => 0))), (q_35, .inl (cA_3, 40, .inl (fun _ => 0))), (q_38, .inl (cA_3, 40, .inl (fun _ => 0))), (q_47, .inl (cA_3, 40, .inl (fun _ => 0)))]) [0, 1, 2, 3, 4, 5, 6, 7, 8, 9, 10, 11, 12] (by decide) rfl
  refine lv_aload_n hx hb dX6_init_244 rfl (lv_at hl 0 rfl) ?_
  refine lv_sipush (v := 160) hx hb dX6_init_245 (by decide) ?_
  refine va_newa (atype := .long) (N' := 160) (a0 := (160, .inr (.inl (fun _ => 0)))) hx hb (hts _ wm_145) rfl hK hP hD hS hA (fun _ => rfl) (by decide) rfl (Nat.le_of_ble_eq_true rfl) (Nat.le_of_ble_eq_true rfl) (Nat.le_of_ble_eq_true rfl) dX6_init_248 (fun q_86 cA_87 H hK hP hD hS => ?_)
  have hK : va_K (dC, dI) vwCl [(cA_3, .int), (cA_87, .long)] s := hK
  have hP : va_P (dC, dI) vwCl [(h0, .inr (6, fs_85)), (q_2, .inl (cA_3, 8, .inl (fun _ => 0))), (q_5, .inl (cA_3, 32, .inl (fun _ => 0))), (q_8, .inl (cA_3, 100, .inl (fun _ => 0))), (q_11, .inl (cA_3, 40, .inl (fun _ => 0))), (q_14, .inl (cA_3, 40, .inl (fun _ => 0))), (q_17, .inl (cA_3, 40, .inl (fun _ => 0))), (q_20, .inl (cA_3, 40, .inl (fun _ => 0))), (q_23, .inl (cA_3, 40, .inl (fun _ => 0))), (q_32, .inl (cA_3, 40, .inl (fun _ => 0))), (q_35, .inl (cA_3, 40, .inl (fun _ => 0))), (q_38, .inl (cA_3, 40, .inl (fun _ => 0))), (q_47, .inl (cA_3, 40, .inl (fun _ => 0))), (q_86, .inl (cA_87, 160, .inr (.inl (fun _ => 0))))] H := hP
  have hD : va_D A [(h0, .inr (6, fs_85)), (q_2, .inl (cA_3, 8, .inl (fun _ => 0))), (q_5, .inl (cA_3, 32, .inl (fun _ => 0))), (q_8, .inl (cA_3, 100, .inl (fun _ => 0))), (q_11, .inl (cA_3, 40, .inl (fun _ => 0))), (q_14, .inl (cA_3, 40, .inl (fun _ => 0))), (q_17, .inl (cA_3, 40, .inl (fun _ => 0))), (q_20, .inl (cA_3, 40, .inl (fun _ => 0))), (q_23, .inl (cA_3, 40, .inl (fun _ => 0))), (q_32, .inl (cA_3, 40, .inl (fun _ => 0))), (q_35, .inl (cA_3, 40, .inl (fun _ => 0))), (q_38, .inl (cA_3, 40, .inl (fun _ => 0))), (q_47, .inl (cA_3, 40, .inl (fun _ => 0))), (q_86, .inl (cA_87, 160, .inr (.inl (fun _ => 0))))] := hD
  refine va_putF (D := (dC, dI)) (ci := 6) (v := .ref q_86) (ty := .array (.long)) (C := RX6) (T := TX6) (N := 51) hx hb hts uB6 tyX6 tyX6_ok nmX6 hown hK hP hD hS 0 rfl rfl 37 (by decide) (hts _ wm_179) (fun _ h9 => h9) rfl hin rfl (by decide +kernel) rfl rfl (by rw [hlen_h0]; decide) dX6_init_250 (fun H locs hP hD hS => ?_)
  obtain ⟨fs_88, efs_88⟩ : ∃ z9, z9 = (fs_85).set 37 (.ref q_86) := ⟨_, rfl⟩
  have hP : va_P (dC, dI) vwCl [(h0, .inr (6, fs_88)), (q_2, .inl (cA_3, 8, .inl (fun _ => 0))), (q_5, .inl (cA_3, 32, .inl (fun _ => 0))), (q_8, .inl (cA_3, 100, .inl (fun _ => 0))), (q_11, .inl (cA_3, 40, .inl (fun _ => 0))), (q_14, .inl (cA_3, 40, .inl (fun _ => 0))), (q_17, .inl (cA_3, 40, .inl (fun _ => 0))), (q_20, .inl (cA_3, 40, .inl (fun _ => 0))), (q_23, .inl (cA_3, 40, .inl (fun _ => 0))), (q_32, .inl (cA_3, 40, .inl (fun _ => 0))), (q_35, .inl (cA_3, 40, .inl (fun _ => 0))), (q_38, .inl (cA_3, 40, .inl (fun _ => 0))), (q_47, .inl (cA_3, 40, .inl (fun _ => 0))), (q_86, .inl (cA_87, 160, .inr (.inl (fun _ => 0))))] H := by rw [efs_88]; exact hP
  have hD : va_D A [(h0, .inr (6, fs_88)), (q_2, .inl (cA_3, 8, .inl (fun _ => 0))), (q_5, .inl (cA_3, 32, .inl (fun _ => 0))), (q_8, .inl (cA_3, 100, .inl (fun _ => 0))), (q_11, .inl (cA_3, 40, .inl (fun _ => 0))), (q_14, .inl (cA_3, 40, .inl (fun _ => 0))), (q_17, .inl (cA_3, 40, .inl (fun _ => 0))), (q_20, .inl (cA_3, 40, .inl (fun _ => 0))), (q_23, .inl (cA_3, 40, .inl (fun _ => 0))), (q_32, .inl (cA_3, 40, .inl (fun _ => 0))), (q_35, .inl (cA_3, 40, .inl (fun _ => 0))), (q_38, .inl (cA_3, 40, .inl (fun _ => 0))), (q_47, .inl (cA_3, 40, .inl (fun _ => 0))), (q_86, .inl (cA_87, 160, .inr (.inl (fun _ => 0))))] := by rw [efs_88]; exact hD
  have hf1_h0 : fs_88[1]? = some (.int 0) := by rw [efs_88, List.getElem?_set_ne (by decide)]; exact hf1_h0
  have hf2_h0 : fs_88[2]? = some (.int 0) := by rw [efs_88, List.getElem?_set_ne (by decide)]; exact hf2_h0
  have hf3_h0 : fs_88[3]? = some (.int 0) := by rw [efs_88, List.getElem?_set_ne (by decide)]; exact hf3_h0
  have hf5_h0 : fs_88[5]? = some (.int 0) := by rw [efs_88, List.getElem?_set_ne (by decide)]; exact hf5_h0
  have hf9_h0 : fs_88[9]? = some (.int 0) := by rw [efs_88, List.getElem?_set_ne (by decide)]; exact hf9_h0
  have hf25_h0 : fs_88[25]? = some (.int 0) := by rw [efs_88, List.getElem?_set_ne (by decide)]; exact hf25_h0
  have hf6_h0 : fs_88[6]? = some (.ref q_2) := by rw [efs_88, List.getElem?_set_ne (by decide)]; exact hf6_h0
  have hf7_h0 : fs_88[7]? = some (.ref q_5) := by rw [efs_88, List.getElem?_set_ne (by decide)]; exact hf7_h0
  have hf8_h0 : fs_88[8]? = some (.ref q_8) := by rw [efs_88, List.getElem?_set_ne (by decide)]; exact hf8_h0
  have hf10_h0 : fs_88[10]? = some (.ref q_11) := by rw [efs_88, List.getElem?_set_ne (by decide)]; exact hf10_h0
  have hf11_h0 : fs_88[11]? = some (.ref q_14) := by rw [efs_88, List.getElem?_set_ne (by decide)]; exact hf11_h0
  have hf12_h0 : fs_88[12]? = some (.ref q_17) := by rw [efs_88, List.getElem?_set_ne (by decide)]; exact hf12_h0
  have hf13_h0 : fs_88[13]? = some (.ref q_20) := by rw [efs_88, List.getElem?_set_ne (by decide)]; exact hf13_h0
  have hf14_h0 : fs_88[14]? = some (.ref q_23) := by rw [efs_88, List.getElem?_set_ne (by decide)]; exact hf14_h0
  have hf17_h0 : fs_88[17]? = some (.ref q_32) := by rw [efs_88, List.getElem?_set_ne (by decide)]; exact hf17_h0
  have hf18_h0 : fs_88[18]? = some (.ref q_35) := by rw [efs_88, List.getElem?_set_ne (by decide)]; exact hf18_h0
  have hf19_h0 : fs_88[19]? = some (.ref q_38) := by rw [efs_88, List.getElem?_set_ne (by decide)]; exact hf19_h0
  have hf22_h0 : fs_88[22]? = some (.ref q_47) := by rw [efs_88, List.getElem?_set_ne (by decide)]; exact hf22_h0
  have hlen_h0 : fs_88.length = 51 := by rw [efs_88, List.length_set]; exact hlen_h0
  have hK := hK.sub (tys' := [(cA_3, .int)]) [0] rfl
  have hP := hP.sub (ws' := [(h0, .inr (6, fs_88)), (q_2, .inl (cA_3, 8, .inl (fun _ => 0))), (q_5, .inl (cA_3, 32, .inl (fun _ => 0))), (q_8, .inl (cA_3, 100, .inl (fun _ => 0))), (q_11, .inl (cA_3, 40, .inl (fun _ => 0))), (q_14, .inl (cA_3, 40, .inl (fun _ => 0))), (q_17, .inl (cA_3, 40, .inl (fun _ => 0))), (q_20, .inl (cA_3, 40, .inl (fun _ => 0))), (q_23, .inl (cA_3, 40, .inl (fun _ => 0))), (q_32, .inl (cA_3, 40, .inl (fun _ => 0))), (q_35, .inl (cA_3, 40, .inl (fun _ => 0))), (q_38, .inl (cA_3, 40, .inl (fun _ => 0))), (q_47, .inl (cA_3, 40, .inl (fun _ => 0)))]) [0, 1, 2, 3, 4, 5, 6, 7, 8, 9, 10, 11, 12] rfl
  have hD := hD.sub (ws' := [(h0, .inr (6, fs_88)), (q_2, .inl (cA_3, 8, .inl (fun _ => 0))), (q_5, .inl (cA_3, 32, .inl (fun _ => 0))), (q_8, .inl (cA_3, 100, .inl (fun _ => 0))), (q_11, .inl (cA_3, 40, .inl (fun _ => 0))), (q_14, .inl (cA_3, 40, .inl (fun _ => 0))), (q_17, .inl (cA_3, 40, .inl (fun _ => 0))), (q_20, .inl (cA_3, 40, .inl (fun _ => 0))), (q_23, .inl (cA_3, 40, .inl (fun _ => 0))), (q_32, .inl (cA_3, 40, .inl (fun _ => 0))), (q_35, .inl (cA_3, 40, .inl (fun _ => 0))), (q_38, .inl (cA_3, 40, .inl (fun _ => 0))), (q_47, .inl (cA_3, 40, .inl (fun _ => 0)))]) [0, 1, 2, 3, 4, 5, 6, 7, 8, 9, 10, 11, 12] (by decide) rfl
  refine lv_aload_n hx hb dX6_init_253 rfl (lv_at hl 0 rfl) ?_
  refine lv_iconst (v := 5) hx hb dX6_init_254 (by decide) ?_
  refine va_newa (atype := .long) (N' := 5) (a0 := (5, .inr (.inl (fun _ => 0)))) hx hb (hts _ wm_145) rfl hK hP hD hS hA (fun _ => rfl) (by decide) rfl (Nat.le_of_ble_eq_true rfl) (Nat.le_of_ble_eq_true rfl) (Nat.le_of_ble_eq_true rfl) dX6_init_255 (fun q_89 cA_90 H hK hP hD hS => ?_)
  have hK : va_K (dC, dI) vwCl [(cA_3, .int), (cA_90, .long)] s := hK
  have hP : va_P (dC, dI) vwCl [(h0, .inr (6, fs_88)), (q_2, .inl (cA_3, 8, .inl (fun _ => 0))), (q_5, .inl (cA_3, 32, .inl (fun _ => 0))), (q_8, .inl (cA_3, 100, .inl (fun _ => 0))), (q_11, .inl (cA_3, 40, .inl (fun _ => 0))), (q_14, .inl (cA_3, 40, .inl (fun _ => 0))), (q_17, .inl (cA_3, 40, .inl (fun _ => 0))), (q_20, .inl (cA_3, 40, .inl (fun _ => 0))), (q_23, .inl (cA_3, 40, .inl (fun _ => 0))), (q_32, .inl (cA_3, 40, .inl (fun _ => 0))), (q_35, .inl (cA_3, 40, .inl (fun _ => 0))), (q_38, .inl (cA_3, 40, .inl (fun _ => 0))), (q_47, .inl (cA_3, 40, .inl (fun _ => 0))), (q_89, .inl (cA_90, 5, .inr (.inl (fun _ => 0))))] H := hP
  have hD : va_D A [(h0, .inr (6, fs_88)), (q_2, .inl (cA_3, 8, .inl (fun _ => 0))), (q_5, .inl (cA_3, 32, .inl (fun _ => 0))), (q_8, .inl (cA_3, 100, .inl (fun _ => 0))), (q_11, .inl (cA_3, 40, .inl (fun _ => 0))), (q_14, .inl (cA_3, 40, .inl (fun _ => 0))), (q_17, .inl (cA_3, 40, .inl (fun _ => 0))), (q_20, .inl (cA_3, 40, .inl (fun _ => 0))), (q_23, .inl (cA_3, 40, .inl (fun _ => 0))), (q_32, .inl (cA_3, 40, .inl (fun _ => 0))), (q_35, .inl (cA_3, 40, .inl (fun _ => 0))), (q_38, .inl (cA_3, 40, .inl (fun _ => 0))), (q_47, .inl (cA_3, 40, .inl (fun _ => 0))), (q_89, .inl (cA_90, 5, .inr (.inl (fun _ => 0))))] := hD
  refine va_putF (D := (dC, dI)) (ci := 6) (v := .ref q_89) (ty := .array (.long)) (C := RX6) (T := TX6) (N := 51) hx hb hts uB6 tyX6 tyX6_ok nmX6 hown hK hP hD hS 0 rfl rfl 38 (by decide) (hts _ wm_180) (fun _ h9 => h9) rfl hin rfl (by decide +kernel) rfl rfl (by rw [hlen_h0]; decide) dX6_init_257 (fun H locs hP hD hS => ?_)
  obtain ⟨fs_91, efs_91⟩ : ∃ z9, z9 = (fs_88).set 38 (.ref q_89) := ⟨_, rfl⟩
  have hP : va_P (dC, dI) vwCl [(h0, .inr (6, fs_91)), (q_2, .inl (cA_3, 8, .inl (fun _ => 0))), (q_5, .inl (cA_3, 32, .inl (fun _ => 0))), (q_8, .inl (cA_3, 100, .inl (fun _ => 0))), (q_11, .inl (cA_3, 40, .inl (fun _ => 0))), (q_14, .inl (cA_3, 40, .inl (fun _ => 0))), (q_17, .inl (cA_3, 40, .inl (fun _ => 0))), (q_20, .inl (cA_3, 40, .inl (fun _ => 0))), (q_23, .inl (cA_3, 40, .inl (fun _ => 0))), (q_32, .inl (cA_3, 40, .inl (fun _ => 0))), (q_35, .inl (cA_3, 40, .inl (fun _ => 0))), (q_38, .inl (cA_3, 40, .inl (fun _ => 0))), (q_47, .inl (cA_3, 40, .inl (fun _ => 0))), (q_89, .inl (cA_90, 5, .inr (.inl (fun _ => 0))))] H := by rw [efs_91]; exact hP
  have hD : va_D A [(h0, .inr (6, fs_91)), (q_2, .inl (cA_3, 8, .inl (fun _ => 0))), (q_5, .inl (cA_3, 32, .inl (fun _ => 0))), (q_8, .inl (cA_3, 100, .inl (fun _ => 0))), (q_11, .inl (cA_3, 40, .inl (fun _ => 0))), (q_14, .inl (cA_3, 40, .inl (fun _ => 0))), (q_17, .inl (cA_3, 40, .inl (fun _ => 0))), (q_20, .inl (cA_3, 40, .inl (fun _ => 0))), (q_23, .inl (cA_3, 40, .inl (fun _ => 0))), (q_32, .inl (cA_3, 40, .inl (fun _ => 0))), (q_35, .inl (cA_3, 40, .inl (fun _ => 0))), (q_38, .inl (cA_3, 40, .inl (fun _ => 0))), (q_47, .inl (cA_3, 40, .inl (fun _ => 0))), (q_89, .inl (cA_90, 5, .inr (.inl (fun _ => 0))))] := by rw [efs_91]; exact hD
  have hf1_h0 : fs_91[1]? = some (.int 0) := by rw [efs_91, List.getElem?_set_ne (by decide)]; exact hf1_h0
  have hf2_h0 : fs_91[2]? = some (.int 0) := by rw [efs_91, List.getElem?_set_ne (by decide)]; exact hf2_h0
  have hf3_h0 : fs_91[3]? = some (.int 0) := by rw [efs_91, List.getElem?_set_ne (by decide)]; exact hf3_h0
  have hf5_h0 : fs_91[5]? = some (.int 0) := by rw [efs_91, List.getElem?_set_ne (by decide)]; exact hf5_h0
  have hf9_h0 : fs_91[9]? = some (.int 0) := by rw [efs_91, List.getElem?_set_ne (by decide)]; exact hf9_h0
  have hf25_h0 : fs_91[25]? = some (.int 0) := by rw [efs_91, List.getElem?_set_ne (by decide)]; exact hf25_h0
  have hf6_h0 : fs_91[6]? = some (.ref q_2) := by rw [efs_91, List.getElem?_set_ne (by decide)]; exact hf6_h0
  have hf7_h0 : fs_91[7]? = some (.ref q_5) := by rw [efs_91, List.getElem?_set_ne (by decide)]; exact hf7_h0
  have hf8_h0 : fs_91[8]? = some (.ref q_8) := by rw [efs_91, List.getElem?_set_ne (by decide)]; exact hf8_h0
  have hf10_h0 : fs_91[10]? = some (.ref q_11) := by rw [efs_91, List.getElem?_set_ne (by decide)]; exact hf10_h0
  have hf11_h0 : fs_91[11]? = some (.ref q_14) := by rw [efs_91, List.getElem?_set_ne (by decide)]; exact hf11_h0
  have hf12_h0 : fs_91[12]? = some (.ref q_17) := by rw [efs_91, List.getElem?_set_ne (by decide)]; exact hf12_h0
  have hf13_h0 : fs_91[13]? = some (.ref q_20) := by rw [efs_91, List.getElem?_set_ne (by decide)]; exact hf13_h0
  have hf14_h0 : fs_91[14]? = some (.ref q_23) := by rw [efs_91, List.getElem?_set_ne (by decide)]; exact hf14_h0
  have hf17_h0 : fs_91[17]? = some (.ref q_32) := by rw [efs_91, List.getElem?_set_ne (by decide)]; exact hf17_h0
  have hf18_h0 : fs_91[18]? = some (.ref q_35) := by rw [efs_91, List.getElem?_set_ne (by decide)]; exact hf18_h0
  have hf19_h0 : fs_91[19]? = some (.ref q_38) := by rw [efs_91, List.getElem?_set_ne (by decide)]; exact hf19_h0
  have hf22_h0 : fs_91[22]? = some (.ref q_47) := by rw [efs_91, List.getElem?_set_ne (by decide)]; exact hf22_h0
  have hlen_h0 : fs_91.length = 51 := by rw [efs_91, List.length_set]; exact hlen_h0
  have hK := hK.sub (tys' := [(cA_3, .int)]) [0] rfl
  have hP := hP.sub (ws' := [(h0, .inr (6, fs_91)), (q_2, .inl (cA_3, 8, .inl (fun _ => 0))), (q_5, .inl (cA_3, 32, .inl (fun _ => 0))), (q_8, .inl (cA_3, 100, .inl (fun _ => 0))), (q_11, .inl (cA_3, 40, .inl (fun _ => 0))), (q_14, .inl (cA_3, 40, .inl (fun _ => 0))), (q_17, .inl (cA_3, 40, .inl (fun _ => 0))), (q_20, .inl (cA_3, 40, .inl (fun _ => 0))), (q_23, .inl (cA_3, 40, .inl (fun _ => 0))), (q_32, .inl (cA_3, 40, .inl (fun _ => 0))), (q_35, .inl (cA_3, 40, .inl (fun _ => 0))), (q_38, .inl (cA_3, 40, .inl (fun _ => 0))), (q_47, .inl (cA_3, 40, .inl (fun _ => 0)))]) [0, 1, 2, 3, 4, 5, 6, 7, 8, 9, 10, 11, 12] rfl
  have hD := hD.sub (ws' := [(h0, .inr (6, fs_91)), (q_2, .inl (cA_3, 8, .inl (fun _ => 0))), (q_5, .inl (cA_3, 32, .inl (fun _ => 0))), (q_8, .inl (cA_3, 100, .inl (fun _ => 0))), (q_11, .inl (cA_3, 40, .inl (fun _ => 0))), (q_14, .inl (cA_3, 40, .inl (fun _ => 0))), (q_17, .inl (cA_3, 40, .inl (fun _ => 0))), (q_20, .inl (cA_3, 40, .inl (fun _ => 0))), (q_23, .inl (cA_3, 40, .inl (fun _ => 0))), (q_32, .inl (cA_3, 40, .inl (fun _ => 0))), (q_35, .inl (cA_3, 40, .inl (fun _ => 0))), (q_38, .inl (cA_3, 40, .inl (fun _ => 0))), (q_47, .inl (cA_3, 40, .inl (fun _ => 0)))]) [0, 1, 2, 3, 4, 5, 6, 7, 8, 9, 10, 11, 12] (by decide) rfl
  refine lv_aload_n hx hb dX6_init_260 rfl (lv_at hl 0 rfl) ?_
  refine lv_iconst (v := 5) hx hb dX6_init_261 (by decide) ?_
  refine va_newa (atype := .int) (N' := 5) (a0 := (5, .inl (fun _ => 0))) hx hb (hts _ wm_80) rfl hK hP hD hS hA (fun _ => rfl) (by decide) rfl (Nat.le_of_ble_eq_true rfl) (Nat.le_of_ble_eq_true rfl) (Nat.le_of_ble_eq_true rfl) dX6_init_262 (fun q_92 cA_93 H hK hP hD hS => ?_)
  have hK : va_K (dC, dI) vwCl [(cA_3, .int), (cA_93, .int)] s := hK
  have hP : va_P (dC, dI) vwCl [(h0, .inr (6, fs_91)), (q_2, .inl (cA_3, 8, .inl (fun _ => 0))), (q_5, .inl (cA_3, 32, .inl (fun _ => 0))), (q_8, .inl (cA_3, 100, .inl (fun _ => 0))), (q_11, .inl (cA_3, 40, .inl (fun _ => 0))), (q_14, .inl (cA_3, 40, .inl (fun _ => 0))), (q_17, .inl (cA_3, 40, .inl (fun _ => 0))), (q_20, .inl (cA_3, 40, .inl (fun _ => 0))), (q_23, .inl (cA_3, 40, .inl (fun _ => 0))), (q_32, .inl (cA_3, 40, .inl (fun _ => 0))), (q_35, .inl (cA_3, 40, .inl (fun _ => 0))), (q_38, .inl (cA_3, 40, .inl (fun _ => 0))), (q_47, .inl (cA_3, 40, .inl (fun _ => 0))), (q_92, .inl (cA_93, 5, .inl (fun _ => 0)))] H := hP
  have hD : va_D A [(h0, .inr (6, fs_91)), (q_2, .inl (cA_3, 8, .inl (fun _ => 0))), (q_5, .inl (cA_3, 32, .inl (fun _ => 0))), (q_8, .inl (cA_3, 100, .inl (fun _ => 0))), (q_11, .inl (cA_3, 40, .inl (fun _ => 0))), (q_14, .inl (cA_3, 40, .inl (fun _ => 0))), (q_17, .inl (cA_3, 40, .inl (fun _ => 0))), (q_20, .inl (cA_3, 40, .inl (fun _ => 0))), (q_23, .inl (cA_3, 40, .inl (fun _ => 0))), (q_32, .inl (cA_3, 40, .inl (fun _ => 0))), (q_35, .inl (cA_3, 40, .inl (fun _ => 0))), (q_38, .inl (cA_3, 40, .inl (fun _ => 0))), (q_47, .inl (cA_3, 40, .inl (fun _ => 0))), (q_92, .inl (cA_93, 5, .inl (fun _ => 0)))] := hD
  refine va_putF (D := (dC, dI)) (ci := 6) (v := .ref q_92) (ty := .array (.int)) (C := RX6) (T := TX6) (N := 51) hx hb hts uB6 tyX6 tyX6_ok nmX6 hown hK hP hD hS 0 rfl rfl 40 (by decide) (hts _ wm_181) (fun _ h9 => h9) rfl hin rfl (by decide +kernel) rfl rfl (by rw [hlen_h0]; decide) dX6_init_264 (fun H locs hP hD hS => ?_)
  obtain ⟨fs_94, efs_94⟩ : ∃ z9, z9 = (fs_91).set 40 (.ref q_92) := ⟨_, rfl⟩
  have hP : va_P (dC, dI) vwCl [(h0, .inr (6, fs_94)), (q_2, .inl (cA_3, 8, .inl (fun _ => 0))), (q_5, .inl (cA_3, 32, .inl (fun _ => 0))), (q_8, .inl (cA_3, 100, .inl (fun _ => 0))), (q_11, .inl (cA_3, 40, .inl (fun _ => 0))), (q_14, .inl (cA_3, 40, .inl (fun _ => 0))), (q_17, .inl (cA_3, 40, .inl (fun _ => 0))), (q_20, .inl (cA_3, 40, .inl (fun _ => 0))), (q_23, .inl (cA_3, 40, .inl (fun _ => 0))), (q_32, .inl (cA_3, 40, .inl (fun _ => 0))), (q_35, .inl (cA_3, 40, .inl (fun _ => 0))), (q_38, .inl (cA_3, 40, .inl (fun _ => 0))), (q_47, .inl (cA_3, 40, .inl (fun _ => 0))), (q_92, .inl (cA_93, 5, .inl (fun _ => 0)))] H := by rw [efs_94]; exact hP
  have hD : va_D A [(h0, .inr (6, fs_94)), (q_2, .inl (cA_3, 8, .inl (fun _ => 0))), (q_5, .inl (cA_3, 32, .inl (fun _ => 0))), (q_8, .inl (cA_3, 100, .inl (fun _ => 0))), (q_11, .inl (cA_3, 40, .inl (fun _ => 0))), (q_14, .inl (cA_3, 40, .inl (fun _ => 0))), (q_17, .inl (cA_3, 40, .inl (fun _ => 0))), (q_20, .inl (cA_3, 40, .inl (fun _ => 0))), (q_23, .inl (cA_3, 40, .inl (fun _ => 0))), (q_32, .inl (cA_3, 40, .inl (fun _ => 0))), (q_35, .inl (cA_3, 40, .inl (fun _ => 0))), (q_38, .inl (cA_3, 40, .inl (fun _ => 0))), (q_47, .inl (cA_3, 40, .inl (fun _ => 0))), (q_92, .inl (cA_93, 5, .inl (fun _ => 0)))] := by rw [efs_94]; exact hD
  have hf1_h0 : fs_94[1]? = some (.int 0) := by rw [efs_94, List.getElem?_set_ne (by decide)]; exact hf1_h0
  have hf2_h0 : fs_94[2]? = some (.int 0) := by rw [efs_94, List.getElem?_set_ne (by decide)]; exact hf2_h0
  have hf3_h0 : fs_94[3]? = some (.int 0) := by rw [efs_94, List.getElem?_set_ne (by decide)]; exact hf3_h0
  have hf5_h0 : fs_94[5]? = some (.int 0) := by rw [efs_94, List.getElem?_set_ne (by decide)]; exact hf5_h0
  have hf9_h0 : fs_94[9]? = some (.int 0) := by rw [efs_94, List.getElem?_set_ne (by decide)]; exact hf9_h0
  have hf25_h0 : fs_94[25]? = some (.int 0) := by rw [efs_94, List.getElem?_set_ne (by decide)]; exact hf25_h0
  have hf6_h0 : fs_94[6]? = some (.ref q_2) := by rw [efs_94, List.getElem?_set_ne (by decide)]; exact hf6_h0
  have hf7_h0 : fs_94[7]? = some (.ref q_5) := by rw [efs_94, List.getElem?_set_ne (by decide)]; exact hf7_h0
  have hf8_h0 : fs_94[8]? = some (.ref q_8) := by rw [efs_94, List.getElem?_set_ne (by decide)]; exact hf8_h0
  have hf10_h0 : fs_94[10]? = some (.ref q_11) := by rw [efs_94, List.getElem?_set_ne (by decide)]; exact hf10_h0
  have hf11_h0 : fs_94[11]? = some (.ref q_14) := by rw [efs_94, List.getElem?_set_ne (by decide)]; exact hf11_h0
  have hf12_h0 : fs_94[12]? = some (.ref q_17) := by rw [efs_94, List.getElem?_set_ne (by decide)]; exact hf12_h0
  have hf13_h0 : fs_94[13]? = some (.ref q_20) := by rw [efs_94, List.getElem?_set_ne (by decide)]; exact hf13_h0
  have hf14_h0 : fs_94[14]? = some (.ref q_23) := by rw [efs_94, List.getElem?_set_ne (by decide)]; exact hf14_h0
  have hf17_h0 : fs_94[17]? = some (.ref q_32) := by rw [efs_94, List.getElem?_set_ne (by decide)]; exact hf17_h0
  have hf18_h0 : fs_94[18]? = some (.ref q_35) := by rw [efs_94, List.getElem?_set_ne (by decide)]; exact hf18_h0
  have hf19_h0 : fs_94[19]? = some (.ref q_38) := by rw [efs_94, List.getElem?_set_ne (by decide)]; exact hf19_h0
  have hf22_h0 : fs_94[22]? = some (.ref q_47) := by rw [efs_94, List.getElem?_set_ne (by decide)]; exact hf22_h0
  have hlen_h0 : fs_94.length = 51 := by rw [efs_94, List.length_set]; exact hlen_h0
  have hK := hK.sub (tys' := [(cA_3, .int)]) [0] rfl
  have hP := hP.sub (ws' := [(h0, .inr (6, fs_94)), (q_2, .inl (cA_3, 8, .inl (fun _ => 0))), (q_5, .inl (cA_3, 32, .inl (fun _ => 0))), (q_8, .inl (cA_3, 100, .inl (fun _ => 0))), (q_11, .inl (cA_3, 40, .inl (fun _ => 0))), (q_14, .inl (cA_3, 40, .inl (fun _ => 0))), (q_17, .inl (cA_3, 40, .inl (fun _ => 0))), (q_20, .inl (cA_3, 40, .inl (fun _ => 0))), (q_23, .inl (cA_3, 40, .inl (fun _ => 0))), (q_32, .inl (cA_3, 40, .inl (fun _ => 0))), (q_35, .inl (cA_3, 40, .inl (fun _ => 0))), (q_38, .inl (cA_3, 40, .inl (fun _ => 0))), (q_47, .inl (cA_3, 40, .inl (fun _ => 0)))]) [0, 1, 2, 3, 4, 5, 6, 7, 8, 9, 10, 11, 12] rfl
  have hD := hD.sub (ws' := [(h0, .inr (6, fs_94)), (q_2, .inl (cA_3, 8, .inl (fun _ => 0))), (q_5, .inl (cA_3, 32, .inl (fun _ => 0))), (q_8, .inl (cA_3, 100, .inl (fun _ => 0))), (q_11, .inl (cA_3, 40, .inl (fun _ => 0))), (q_14, .inl (cA_3, 40, .inl (fun _ => 0))), (q_17, .inl (cA_3, 40, .inl (fun _ => 0))), (q_20, .inl (cA_3, 40, .inl (fun _ => 0))), (q_23, .inl (cA_3, 40, .inl (fun _ => 0))), (q_32, .inl (cA_3, 40, .inl (fun _ => 0))), (q_35, .inl (cA_3, 40, .inl (fun _ => 0))), (q_38, .inl (cA_3, 40, .inl (fun _ => 0))), (q_47, .inl (cA_3, 40, .inl (fun _ => 0)))]) [0, 1, 2, 3, 4, 5, 6, 7, 8, 9, 10, 11, 12] (by decide) rfl
  refine lv_aload_n hx hb dX6_init_267 rfl (lv_at hl 0 rfl) ?_
  refine lv_iconst (v := 5) hx hb dX6_init_268 (by decide) ?_
  refine va_newa (atype := .long) (N' := 5) (a0 := (5, .inr (.inl (fun _ => 0)))) hx hb (hts _ wm_145) rfl hK hP hD hS hA (fun _ => rfl) (by decide) rfl (Nat.le_of_ble_eq_true rfl) (Nat.le_of_ble_eq_true rfl) (Nat.le_of_ble_eq_true rfl) dX6_init_269 (fun q_95 cA_96 H hK hP hD hS => ?_)
  have hK : va_K (dC, dI) vwCl [(cA_3, .int), (cA_96, .long)] s := hK
  have hP : va_P (dC, dI) vwCl [(h0, .inr (6, fs_94)), (q_2, .inl (cA_3, 8, .inl (fun _ => 0))), (q_5, .inl (cA_3, 32, .inl (fun _ => 0))), (q_8, .inl (cA_3, 100, .inl (fun _ => 0))), (q_11, .inl (cA_3, 40, .inl (fun _ => 0))), (q_14, .inl (cA_3, 40, .inl (fun _ => 0))), (q_17, .inl (cA_3, 40, .inl (fun _ => 0))), (q_20, .inl (cA_3, 40, .inl (fun _ => 0))), (q_23, .inl (cA_3, 40, .inl (fun _ => 0))), (q_32, .inl (cA_3, 40, .inl (fun _ => 0))), (q_35, .inl (cA_3, 40, .inl (fun _ => 0))), (q_38, .inl (cA_3, 40, .inl (fun _ => 0))), (q_47, .inl (cA_3, 40, .inl (fun _ => 0))), (q_95, .inl (cA_96, 5, .inr (.inl (fun _ => 0))))] H := hP
  have hD : va_D A [(h0, .inr (6, fs_94)), (q_2, .inl (cA_3, 8, .inl (fun _ => 0))), (q_5, .inl (cA_3, 32, .inl (fun _ => 0))), (q_8, .inl (cA_3, 100, .inl (fun _ => 0))), (q_11, .inl (cA_3, 40, .inl (fun _ => 0))), (q_14, .inl (cA_3, 40, .inl (fun _ => 0))), (q_17, .inl (cA_3, 40, .inl (fun _ => 0))), (q_20, .inl (cA_3, 40, .inl (fun _ => 0))), (q_23, .inl (cA_3, 40, .inl (fun _ => 0))), (q_32, .inl (cA_3, 40, .inl (fun _ => 0))), (q_35, .inl (cA_3, 40, .inl (fun _ => 0))), (q_38, .inl (cA_3, 40, .inl (fun _ => 0))), (q_47, .inl (cA_3, 40, .inl (fun _ => 0))), (q_95, .inl (cA_96, 5, .inr (.inl (fun _ => 0))))] := hD
  refine va_putF (D := (dC, dI)) (ci := 6) (v := .ref q_95) (ty := .array (.long)) (C := RX6) (T := TX6) (N := 51) hx hb hts uB6 tyX6 tyX6_ok nmX6 hown hK hP hD hS 0 rfl rfl 41 (by decide) (hts _ wm_182) (fun _ h9 => h9) rfl hin rfl (by decide +kernel) rfl rfl (by rw [hlen_h0]; decide) dX6_init_271 (fun H locs hP hD hS => ?_)
  obtain ⟨fs_97, efs_97⟩ : ∃ z9, z9 = (fs_94).set 41 (.ref q_95) := ⟨_, rfl⟩
  have hP : va_P (dC, dI) vwCl [(h0, .inr (6, fs_97)), (q_2, .inl (cA_3, 8, .inl (fun _ => 0))), (q_5, .inl (cA_3, 32, .inl (fun _ => 0))), (q_8, .inl (cA_3, 100, .inl (fun _ => 0))), (q_11, .inl (cA_3, 40, .inl (fun _ => 0))), (q_14, .inl (cA_3, 40, .inl (fun _ => 0))), (q_17, .inl (cA_3, 40, .inl (fun _ => 0))), (q_20, .inl (cA_3, 40, .inl (fun _ => 0))), (q_23, .inl (cA_3, 40, .inl (fun _ => 0))), (q_32, .inl (cA_3, 40, .inl (fun _ => 0))), (q_35, .inl (cA_3, 40, .inl (fun _ => 0))), (q_38, .inl (cA_3, 40, .inl (fun _ => 0))), (q_47, .inl (cA_3, 40, .inl (fun _ => 0))), (q_95, .inl (cA_96, 5, .inr (.inl (fun _ => 0))))] H := by rw [efs_97]; exact hP
  have hD : va_D A [(h0, .inr (6, fs_97)), (q_2, .inl (cA_3, 8, .inl (fun _ => 0))), (q_5, .inl (cA_3, 32, .inl (fun _ => 0))), (q_8, .inl (cA_3, 100, .inl (fun _ => 0))), (q_11, .inl (cA_3, 40, .inl (fun _ => 0))), (q_14, .inl (cA_3, 40, .inl (fun _ => 0))), (q_17, .inl (cA_3, 40, .inl (fun _ => 0))), (q_20, .inl (cA_3, 40, .inl (fun _ => 0))), (q_23, .inl (cA_3, 40, .inl (fun _ => 0))), (q_32, .inl (cA_3, 40, .inl (fun _ => 0))), (q_35, .inl (cA_3, 40, .inl (fun _ => 0))), (q_38, .inl (cA_3, 40, .inl (fun _ => 0))), (q_47, .inl (cA_3, 40, .inl (fun _ => 0))), (q_95, .inl (cA_96, 5, .inr (.inl (fun _ => 0))))] := by rw [efs_97]; exact hD
  have hf1_h0 : fs_97[1]? = some (.int 0) := by rw [efs_97, List.getElem?_set_ne (by decide)]; exact hf1_h0
  have hf2_h0 : fs_97[2]? = some (.int 0) := by rw [efs_97, List.getElem?_set_ne (by decide)]; exact hf2_h0
  have hf3_h0 : fs_97[3]? = some (.int 0) := by rw [efs_97, List.getElem?_set_ne (by decide)]; exact hf3_h0
  have hf5_h0 : fs_97[5]? = some (.int 0) := by rw [efs_97, List.getElem?_set_ne (by decide)]; exact hf5_h0
  have hf9_h0 : fs_97[9]? = some (.int 0) := by rw [efs_97, List.getElem?_set_ne (by decide)]; exact hf9_h0
  have hf25_h0 : fs_97[25]? = some (.int 0) := by rw [efs_97, List.getElem?_set_ne (by decide)]; exact hf25_h0
  have hf6_h0 : fs_97[6]? = some (.ref q_2) := by rw [efs_97, List.getElem?_set_ne (by decide)]; exact hf6_h0
  have hf7_h0 : fs_97[7]? = some (.ref q_5) := by rw [efs_97, List.getElem?_set_ne (by decide)]; exact hf7_h0
  have hf8_h0 : fs_97[8]? = some (.ref q_8) := by rw [efs_97, List.getElem?_set_ne (by decide)]; exact hf8_h0
  have hf10_h0 : fs_97[10]? = some (.ref q_11) := by rw [efs_97, List.getElem?_set_ne (by decide)]; exact hf10_h0
  have hf11_h0 : fs_97[11]? = some (.ref q_14) := by rw [efs_97, List.getElem?_set_ne (by decide)]; exact hf11_h0
  have hf12_h0 : fs_97[12]? = some (.ref q_17) := by rw [efs_97, List.getElem?_set_ne (by decide)]; exact hf12_h0
  have hf13_h0 : fs_97[13]? = some (.ref q_20) := by rw [efs_97, List.getElem?_set_ne (by decide)]; exact hf13_h0
  have hf14_h0 : fs_97[14]? = some (.ref q_23) := by rw [efs_97, List.getElem?_set_ne (by decide)]; exact hf14_h0
  have hf17_h0 : fs_97[17]? = some (.ref q_32) := by rw [efs_97, List.getElem?_set_ne (by decide)]; exact hf17_h0
  have hf18_h0 : fs_97[18]? = some (.ref q_35) := by rw [efs_97, List.getElem?_set_ne (by decide)]; exact hf18_h0
  have hf19_h0 : fs_97[19]? = some (.ref q_38) := by rw [efs_97, List.getElem?_set_ne (by decide)]; exact hf19_h0
  have hf22_h0 : fs_97[22]? = some (.ref q_47) := by rw [efs_97, List.getElem?_set_ne (by decide)]; exact hf22_h0
  have hlen_h0 : fs_97.length = 51 := by rw [efs_97, List.length_set]; exact hlen_h0
  have hK := hK.sub (tys' := [(cA_3, .int)]) [0] rfl
  have hP := hP.sub (ws' := [(h0, .inr (6, fs_97)), (q_2, .inl (cA_3, 8, .inl (fun _ => 0))), (q_5, .inl (cA_3, 32, .inl (fun _ => 0))), (q_8, .inl (cA_3, 100, .inl (fun _ => 0))), (q_11, .inl (cA_3, 40, .inl (fun _ => 0))), (q_14, .inl (cA_3, 40, .inl (fun _ => 0))), (q_17, .inl (cA_3, 40, .inl (fun _ => 0))), (q_20, .inl (cA_3, 40, .inl (fun _ => 0))), (q_23, .inl (cA_3, 40, .inl (fun _ => 0))), (q_32, .inl (cA_3, 40, .inl (fun _ => 0))), (q_35, .inl (cA_3, 40, .inl (fun _ => 0))), (q_38, .inl (cA_3, 40, .inl (fun _ => 0))), (q_47, .inl (cA_3, 40, .inl (fun _ => 0)))]) [0, 1, 2, 3, 4, 5, 6, 7, 8, 9, 10, 11, 12] rfl
  have hD := hD.sub (ws' := [(h0, .inr (6, fs_97)), (q_2, .inl (cA_3, 8, .inl (fun _ => 0))), (q_5, .inl (cA_3, 32, .inl (fun _ => 0))), (q_8, .inl (cA_3, 100, .inl (fun _ => 0))), (q_11, .inl (cA_3, 40, .inl (fun _ => 0))), (q_14, .inl (cA_3, 40, .inl (fun _ => 0))), (q_17, .inl (cA_3, 40, .inl (fun _ => 0))), (q_20, .inl (cA_3, 40, .inl (fun _ => 0))), (q_23, .inl (cA_3, 40, .inl (fun _ => 0))), (q_32, .inl (cA_3, 40, .inl (fun _ => 0))), (q_35, .inl (cA_3, 40, .inl (fun _ => 0))), (q_38, .inl (cA_3, 40, .inl (fun _ => 0))), (q_47, .inl (cA_3, 40, .inl (fun _ => 0)))]) [0, 1, 2, 3, 4, 5, 6, 7, 8, 9, 10, 11, 12] (by decide) rfl
  refine lv_aload_n hx hb dX6_init_274 rfl (lv_at hl 0 rfl) ?_
  refine lv_iconst (v := 5) hx hb dX6_init_275 (by decide) ?_
  refine va_newa (atype := .int) (N' := 5) (a0 := (5, .inl (fun _ => 0))) hx hb (hts _ wm_80) rfl hK hP hD hS hA (fun _ => rfl) (by decide) rfl (Nat.le_of_ble_eq_true rfl) (Nat.le_of_ble_eq_true rfl) (Nat.le_of_ble_eq_true rfl) dX6_init_276 (fun q_98 cA_99 H hK hP hD hS => ?_)
  have hK : va_K (dC, dI) vwCl [(cA_3, .int), (cA_99, .int)] s := hK
  have hP : va_P (dC, dI) vwCl [(h0, .inr (6, fs_97)), (q_2, .inl (cA_3, 8, .inl (fun _ => 0))), (q_5, .inl (cA_3, 32, .inl (fun _ => 0))), (q_8, .inl (cA_3, 100, .inl (fun _ => 0))), (q_11, .inl (cA_3, 40, .inl (fun _ => 0))), (q_14, .inl (cA_3, 40, .inl (fun _ => 0))), (q_17, .inl (cA_3, 40, .inl (fun _ => 0))), (q_20, .inl (cA_3, 40, .inl (fun _ => 0))), (q_23, .inl (cA_3, 40, .inl (fun _ => 0))), (q_32, .inl (cA_3, 40, .inl (fun _ => 0))), (q_35, .inl (cA_3, 40, .inl (fun _ => 0))), (q_38, .inl (cA_3, 40, .inl (fun _ => 0))), (q_47, .inl (cA_3, 40, .inl (fun _ => 0))), (q_98, .inl (cA_99, 5, .inl (fun _ => 0)))] H := hP
  have hD : va_D A [(h0, .inr (6, fs_97)), (q_2, .inl (cA_3, 8, .inl (fun _ => 0))), (q_5, .inl (cA_3, 32, .inl (fun _ => 0))), (q_8, .inl (cA_3, 100, .inl (fun _ => 0))), (q_11, .inl (cA_3, 40, .inl (fun _ => 0))), (q_14, .inl (cA_3, 40, .inl (fun _ => 0))), (q_17, .inl (cA_3, 40, .inl (fun _ => 0))), (q_20, .inl (cA_3, 40, .inl (fun _ => 0))), (q_23, .inl (cA_3, 40, .inl (fun _ => 0))), (q_32, .inl (cA_3, 40, .inl (fun _ => 0))), (q_35, .inl (cA_3, 40, .inl (fun _ => 0))), (q_38, .inl (cA_3, 40, .inl (fun _ => 0))), (q_47, .inl (cA_3, 40, .inl (fun _ => 0))), (q_98, .inl (cA_99, 5, .inl (fun _ => 0)))] := hD
  refine va_putF (D := (dC, dI)) (ci := 6) (v := .ref q_98) (ty := .array (.int)) (C := RX6) (T := TX6) (N := 51) hx hb hts uB6 tyX6 tyX6_ok nmX6 hown hK hP hD hS 0 rfl rfl 42 (by decide) (hts _ wm_183) (fun _ h9 => h9) rfl hin rfl (by decide +kernel) rfl rfl (by rw [hlen_h0]; decide) dX6_init_278 (fun H locs hP hD hS => ?_)
  obtain ⟨fs_100, efs_100⟩ : ∃ z9, z9 = (fs_97).set 42 (.ref q_98) := ⟨_, rfl⟩
  have hP : va_P (dC, dI) vwCl [(h0, .inr (6, fs_100)), (q_2, .inl (cA_3, 8, .inl (fun _ => 0))), (q_5, .inl (cA_3, 32, .inl (fun _ => 0))), (q_8, .inl (cA_3, 100, .inl (fun _ => 0))), (q_11, .inl (cA_3, 40, .inl (fun _ => 0))), (q_14, .inl (cA_3, 40, .inl (fun _ => 0))), (q_17, .inl (cA_3, 40, .inl (fun _ => 0))), (q_20, .inl (cA_3, 40, .inl (fun _ => 0))), (q_23, .inl (cA_3, 40, .inl (fun _ => 0))), (q_32, .inl (cA_3, 40, .inl (fun _ => 0))), (q_35, .inl (cA_3, 40, .inl (fun _ => 0))), (q_38, .inl (cA_3, 40, .inl (fun _ => 0))), (q_47, .inl (cA_3, 40, .inl (fun _ => 0))), (q_98, .inl (cA_99, 5, .inl (fun _ => 0)))] H := by rw [efs_100]; exact hP
  have hD : va_D A [(h0, .inr (6, fs_100)), (q_2, .inl (cA_3, 8, .inl (fun _ => 0))), (q_5, .inl (cA_3, 32, .inl (fun _ => 0))), (q_8, .inl (cA_3, 100, .inl (fun _ => 0))), (q_11, .inl (cA_3, 40, .inl (fun _ => 0))), (q_14, .inl (cA_3, 40, .inl (fun _ => 0))), (q_17, .inl (cA_3, 40, .inl (fun _ => 0))), (q_20, .inl (cA_3, 40, .inl (fun _ => 0))), (q_23, .inl (cA_3, 40, .inl (fun _ => 0))), (q_32, .inl (cA_3, 40, .inl (fun _ => 0))), (q_35, .inl (cA_3, 40, .inl (fun _ => 0))), (q_38, .inl (cA_3, 40, .inl (fun _ => 0))), (q_47, .inl (cA_3, 40, .inl (fun _ => 0))), (q_98, .inl (cA_99, 5, .inl (fun _ => 0)))] := by rw [efs_100]; exact hD
  have hf1_h0 : fs_100[1]? = some (.int 0) := by rw [efs_100, List.getElem?_set_ne (by decide)]; exact hf1_h0
  have hf2_h0 : fs_100[2]? = some (.int 0) := by rw [efs_100, List.getElem?_set_ne (by decide)]; exact hf2_h0
  have hf3_h0 : fs_100[3]? = some (.int 0) := by rw [efs_100, List.getElem?_set_ne (by decide)]; exact hf3_h0
  have hf5_h0 : fs_100[5]? = some (.int 0) := by rw [efs_100, List.getElem?_set_ne (by decide)]; exact hf5_h0
  have hf9_h0 : fs_100[9]? = some (.int 0) := by rw [efs_100, List.getElem?_set_ne (by decide)]; exact hf9_h0
  have hf25_h0 : fs_100[25]? = some (.int 0) := by rw [efs_100, List.getElem?_set_ne (by decide)]; exact hf25_h0
  have hf6_h0 : fs_100[6]? = some (.ref q_2) := by rw [efs_100, List.getElem?_set_ne (by decide)]; exact hf6_h0
  have hf7_h0 : fs_100[7]? = some (.ref q_5) := by rw [efs_100, List.getElem?_set_ne (by decide)]; exact hf7_h0
  have hf8_h0 : fs_100[8]? = some (.ref q_8) := by rw [efs_100, List.getElem?_set_ne (by decide)]; exact hf8_h0
  have hf10_h0 : fs_100[10]? = some (.ref q_11) := by rw [efs_100, List.getElem?_set_ne (by decide)]; exact hf10_h0
  have hf11_h0 : fs_100[11]? = some (.ref q_14) := by rw [efs_100, List.getElem?_set_ne (by decide)]; exact hf11_h0
  have hf12_h0 : fs_100[12]? = some (.ref q_17) := by rw [efs_100, List.getElem?_set_ne (by decide)]; exact hf12_h0
  have hf13_h0 : fs_100[13]? = some (.ref q_20) := by rw [efs_100, List.getElem?_set_ne (by decide)]; exact hf13_h0
  have hf14_h0 : fs_100[14]? = some (.ref q_23) := by rw [efs_100, List.getElem?_set_ne (by decide)]; exact hf14_h0
  have hf17_h0 : fs_100[17]? = some (.ref q_32) := by rw [efs_100, List.getElem?_set_ne (by decide)]; exact hf17_h0
  have hf18_h0 : fs_100[18]? = some (.ref q_35) := by rw [efs_100, List.getElem?_set_ne (by decide)]; exact hf18_h0
  have hf19_h0 : fs_100[19]? = some (.ref q_38) := by rw [efs_100, List.getElem?_set_ne (by decide)]; exact hf19_h0
  have hf22_h0 : fs_100[22]? = some (.ref q_47) := by rw [efs_100, List.getElem?_set_ne (by decide)]; exact hf22_h0
  have hlen_h0 : fs_100.length = 51 := by rw [efs_100, List.length_set]; exact hlen_h0
  have hK := hK.sub (tys' := [(cA_3, .int)]) [0] rfl
  have hP := hP.sub (ws' := [(h0, .inr (6, fs_100)), (q_2, .inl (cA_3, 8, .inl (fun _ => 0))), (q_5, .inl (cA_3, 32, .inl (fun _ => 0))), (q_8, .inl (cA_3, 100, .inl (fun _ => 0))), (q_11, .inl (cA_3, 40, .inl (fun _ => 0))), (q_14, .inl (cA_3, 40, .inl (fun _ => 0))), (q_17, .inl (cA_3, 40, .inl (fun _ => 0))), (q_20, .inl (cA_3, 40, .inl (fun _ => 0))), (q_23, .inl (cA_3, 40, .inl (fun _ => 0))), (q_32, .inl (cA_3, 40, .inl (fun _ => 0))), (q_35, .inl (cA_3, 40, .inl (fun _ => 0))), (q_38, .inl (cA_3, 40, .inl (fun _ => 0))), (q_47, .inl (cA_3, 40, .inl (fun _ => 0)))]) [0, 1, 2, 3, 4, 5, 6, 7, 8, 9, 10, 11, 12] rfl
  have hD := hD.sub (ws' := [(h0, .inr (6, fs_100)), (q_2, .inl (cA_3, 8, .inl (fun _ => 0))), (q_5, .inl (cA_3, 32, .inl (fun _ => 0))), (q_8, .inl (cA_3, 100, .inl (fun _ => 0))), (q_11, .inl (cA_3, 40, .inl (fun _ => 0))), (q_14, .inl (cA_3, 40, .inl (fun _ => 0))), (q_17, .inl (cA_3, 40, .inl (fun _ => 0))), (q_20, .inl (cA_3, 40, .inl (fun _ => 0))), (q_23, .inl (cA_3, 40, .inl (fun _ => 0))), (q_32, .inl (cA_3, 40, .inl (fun _ => 0))), (q_35, .inl (cA_3, 40, .inl (fun _ => 0))), (q_38, .inl (cA_3, 40, .inl (fun _ => 0))), (q_47, .inl (cA_3, 40, .inl (fun _ => 0)))]) [0, 1, 2, 3, 4, 5, 6, 7, 8, 9, 10, 11, 12] (by decide) rfl
  refine lv_aload_n hx hb dX6_init_281 rfl (lv_at hl 0 rfl) ?_
  refine lv_iconst (v := 4) hx hb dX6_init_282 (by decide) ?_
  refine va_newa (atype := .int) (N' := 4) (a0 := (4, .inl (fun _ => 0))) hx hb (hts _ wm_80) rfl hK hP hD hS hA (fun _ => rfl) (by decide) rfl (Nat.le_of_ble_eq_true rfl) (Nat.le_of_ble_eq_true rfl) (Nat.le_of_ble_eq_true rfl) dX6_init_283 (fun q_101 cA_102 H hK hP hD hS => ?_)
  have hK : va_K (dC, dI) vwCl [(cA_3, .int), (cA_102, .int)] s := hK
  have hP : va_P (dC, dI) vwCl [(h0, .inr (6, fs_100)), (q_2, .inl (cA_3, 8, .inl (fun _ => 0))), (q_5, .inl (cA_3, 32, .inl (fun _ => 0))), (q_8, .inl (cA_3, 100, .inl (fun _ => 0))), (q_11, .inl (cA_3, 40, .inl (fun _ => 0))), (q_14, .inl (cA_3, 40, .inl (fun _ => 0))), (q_17, .inl (cA_3, 40, .inl (fun _ => 0))), (q_20, .inl (cA_3, 40, .inl (fun _ => 0))), (q_23, .inl (cA_3, 40, .inl (fun _ => 0))), (q_32, .inl (cA_3, 40, .inl (fun _ => 0))), (q_35, .inl (cA_3, 40, .inl (fun _ => 0))), (q_38, .inl (cA_3, 40, .inl (fun _ => 0))), (q_47, .inl (cA_3, 40, .inl (fun _ => 0))), (q_101, .inl (cA_102, 4, .inl (fun _ => 0)))] H := hP
  have hD : va_D A [(h0, .inr (6, fs_100)), (q_2, .inl (cA_3, 8, .inl (fun _ => 0))), (q_5, .inl (cA_3, 32, .inl (fun _ => 0))), (q_8, .inl (cA_3, 100, .inl (fun _ => 0))), (q_11, .inl (cA_3, 40, .inl (fun _ => 0))), (q_14, .inl (cA_3, 40, .inl (fun _ => 0))), (q_17, .inl (cA_3, 40, .inl (fun _ => 0))), (q_20, .inl (cA_3, 40, .inl (fun _ => 0))), (q_23, .inl (cA_3, 40, .inl (fun _ => 0))), (q_32, .inl (cA_3, 40, .inl (fun _ => 0))), (q_35, .inl (cA_3, 40, .inl (fun _ => 0))), (q_38, .inl (cA_3, 40, .inl (fun _ => 0))), (q_47, .inl (cA_3, 40, .inl (fun _ => 0))), (q_101, .inl (cA_102, 4, .inl (fun _ => 0)))] := hD
  refine va_putF (D := (dC, dI)) (ci := 6) (v := .ref q_101) (ty := .array (.int)) (C := RX6) (T := TX6) (N := 51) hx hb hts uB6 tyX6 tyX6_ok nmX6 hown hK hP hD hS 0 rfl rfl 46 (by decide) (hts _ wm_184) (fun _ h9 => h9) rfl hin rfl (by decide +kernel) rfl rfl (by rw [hlen_h0]; decide) dX6_init_285 (fun H locs hP hD hS => ?_)
  obtain ⟨fs_103, efs_103⟩ : ∃ z9, z9 = (fs_100).set 46 (.ref q_101) := ⟨_, rfl⟩
  have hP : va_P (dC, dI) vwCl [(h0, .inr (6, fs_103)), (q_2, .inl (cA_3, 8, .inl (fun _ => 0))), (q_5, .inl (cA_3, 32, .inl (fun _ => 0))), (q_8, .inl (cA_3, 100, .inl (fun _ => 0))), (q_11, .inl (cA_3, 40, .inl (fun _ => 0))), (q_14, .inl (cA_3, 40, .inl (fun _ => 0))), (q_17, .inl (cA_3, 40, .inl (fun _ => 0))), (q_20, .inl (cA_3, 40, .inl (fun _ => 0))), (q_23, .inl (cA_3, 40, .inl (fun _ => 0))), (q_32, .inl (cA_3, 40, .inl (fun _ => 0))), (q_35, .inl (cA_3, 40, .inl (fun _ => 0))), (q_38, .inl (cA_3, 40, .inl (fun _ => 0))), (q_47, .inl (cA_3, 40, .inl (fun _ => 0))), (q_101, .inl (cA_102, 4, .inl (fun _ => 0)))] H := by rw [efs_103]; exact hP
  have hD : va_D A [(h0, .inr (6, fs_103)), (q_2, .inl (cA_3, 8, .inl (fun _ => 0))), (q_5, .inl (cA_3, 32, .inl (fun _ => 0))), (q_8, .inl (cA_3, 100, .inl (fun _ => 0))), (q_11, .inl (cA_3, 40, .inl (fun _ => 0))), (q_14, .inl (cA_3, 40, .inl (fun _ => 0))), (q_17, .inl (cA_3, 40, .inl (fun _ => 0))), (q_20, .inl (cA_3, 40, .inl (fun _ => 0))), (q_23, .inl (cA_3, 40, .inl (fun _ => 0))), (q_32, .inl (cA_3, 40, .inl (fun _ => 0))), (q_35, .inl (cA_3, 40, .inl (fun _ => 0))), (q_38, .inl (cA_3, 40, .inl (fun _ => 0))), (q_47, .inl (cA_3, 40, .inl (fun _ => 0))), (q_101, .inl (cA_102, 4, .inl (fun _ => 0)))] := by rw [efs_103]; exact hD
  have hf1_h0 : fs_103[1]? = some (.int 0) := by rw [efs_103, List.getElem?_set_ne (by decide)]; exact hf1_h0
  have hf2_h0 : fs_103[2]? = some (.int 0) := by rw [efs_103, List.getElem?_set_ne (by decide)]; exact hf2_h0
  have hf3_h0 : fs_103[3]? = some (.int 0) := by rw [efs_103, List.getElem?_set_ne (by decide)]; exact hf3_h0
  have hf5_h0 : fs_103[5]? = some (.int 0) := by rw [efs_103, List.getElem?_set_ne (by decide)]; exact hf5_h0
  have hf9_h0 : fs_103[9]? = some (.int 0) := by rw [efs_103, List.getElem?_set_ne (by decide)]; exact hf9_h0
  have hf25_h0 : fs_103[25]? = some (.int 0) := by rw [efs_103, List.getElem?_set_ne (by decide)]; exact hf25_h0
  have hf6_h0 : fs_103[6]? = some (.ref q_2) := by rw [efs_103, List.getElem?_set_ne (by decide)]; exact hf6_h0
  have hf7_h0 : fs_103[7]? = some (.ref q_5) := by rw [efs_103, List.getElem?_set_ne (by decide)]; exact hf7_h0
  have hf8_h0 : fs_103[8]? = some (.ref q_8) := by rw [efs_103, List.getElem?_set_ne (by decide)]; exact hf8_h0
  have hf10_h0 : fs_103[10]? = some (.ref q_11) := by rw [efs_103, List.getElem?_set_ne (by decide)]; exact hf10_h0
  have hf11_h0 : fs_103[11]? = some (.ref q_14) := by rw [efs_103, List.getElem?_set_ne (by decide)]; exact hf11_h0
  have hf12_h0 : fs_103[12]? = some (.ref q_17) := by rw [efs_103, List.getElem?_set_ne (by decide)]; exact hf12_h0
  have hf13_h0 : fs_103[13]? = some (.ref q_20) := by rw [efs_103, List.getElem?_set_ne (by decide)]; exact hf13_h0
  have hf14_h0 : fs_103[14]? = some (.ref q_23) := by rw [efs_103, List.getElem?_set_ne (by decide)]; exact hf14_h0
  have hf17_h0 : fs_103[17]? = some (.ref q_32) := by rw [efs_103, List.getElem?_set_ne (by decide)]; exact hf17_h0
  have hf18_h0 : fs_103[18]? = some (.ref q_35) := by rw [efs_103, List.getElem?_set_ne (by decide)]; exact hf18_h0
  have hf19_h0 : fs_103[19]? = some (.ref q_38) := by rw [efs_103, List.getElem?_set_ne (by decide)]; exact hf19_h0
  have hf22_h0 : fs_103[22]? = some (.ref q_47) := by rw [efs_103, List.getElem?_set_ne (by decide)]; exact hf22_h0
  have hlen_h0 : fs_103.length = 51 := by rw [efs_103, List.length_set]; exact hlen_h0
  have hK := hK.sub (tys' := [(cA_3, .int)]) [0] rfl
  have hP := hP.sub (ws' := [(h0, .inr (6, fs_103)), (q_2, .inl (cA_3, 8, .inl (fun _ => 0))), (q_5, .inl (cA_3, 32, .inl (fun _ => 0))), (q_8, .inl (cA_3, 100, .inl (fun _ => 0))), (q_11, .inl (cA_3, 40, .inl (fun _ => 0))), (q_14, .inl (cA_3, 40, .inl (fun _ => 0))), (q_17, .inl (cA_3, 40, .inl (fun _ => 0))), (q_20, .inl (cA_3, 40, .inl (fun _ => 0))), (q_23, .inl (cA_3, 40, .inl (fun _ => 0))), (q_32, .inl (cA_3, 40, .inl (fun _ => 0))), (q_35, .inl (cA_3, 40, .inl (fun _ => 0))), (q_38, .inl (cA_3, 40, .inl (fun _ => 0))), (q_47, .inl (cA_3, 40, .inl (fun _ => 0)))]) [0, 1, 2, 3, 4, 5, 6, 7, 8, 9, 10, 11, 12] rfl
  have hD := hD.sub (ws' := [(h0, .inr (6, fs_103)), (q_2, .inl (cA_3, 8, .inl (fun _ => 0))), (q_5, .inl (cA_3, 32, .inl (fun _ => 0))), (q_8, .inl (cA_3, 100, .inl (fun _ => 0))), (q_11, .inl (cA_3, 40, .inl (fun _ => 0))), (q_14, .inl (cA_3, 40, .inl (fun _ => 0))), (q_17, .inl (cA_3, 40, .inl (fun _ => 0))), (q_20, .inl (cA_3, 40, .inl (fun _ => 0))), (q_23, .inl (cA_3, 40, .inl (fun _ => 0))), (q_32, .inl (cA_3, 40, .inl (fun _ => 0))), (q_35, .inl (cA_3, 40, .inl (fun _ => 0))), (q_38, .inl (cA_3, 40, .inl (fun _ => 0))), (q_47, .inl (cA_3, 40, .inl (fun _ => 0)))]) [0, 1, 2, 3, 4, 5, 6, 7, 8, 9, 10, 11, 12] (by decide) rfl
  refine lv_aload_n hx hb dX6_init_288 rfl (lv_at hl 0 rfl) ?_
  refine lv_bipush (v := 40) hx hb dX6_init_289 (by decide) ?_
  refine va_newa (atype := .int) (N' := 40) (a0 := (40, .inl (fun _ => 0))) hx hb (hts _ wm_80) rfl hK hP hD hS hA (fun _ => rfl) (by decide) rfl (Nat.le_of_ble_eq_true rfl) (Nat.le_of_ble_eq_true rfl) (Nat.le_of_ble_eq_true rfl) dX6_init_291 (fun q_104 cA_105 H hK hP hD hS => ?_)
  have hK : va_K (dC, dI) vwCl [(cA_3, .int), (cA_105, .int)] s := hK
  have hP : va_P (dC, dI) vwCl [(h0, .inr (6, fs_103)), (q_2, .inl (cA_3, 8, .inl (fun _ => 0))), (q_5, .inl (cA_3, 32, .inl (fun _ => 0))), (q_8, .inl (cA_3, 100, .inl (fun _ => 0))), (q_11, .inl (cA_3, 40, .inl (fun _ => 0))), (q_14, .inl (cA_3, 40, .inl (fun _ => 0))), (q_17, .inl (cA_3, 40, .inl (fun _ => 0))), (q_20, .inl (cA_3, 40, .inl (fun _ => 0))), (q_23, .inl (cA_3, 40, .inl (fun _ => 0))), (q_32, .inl (cA_3, 40, .inl (fun _ => 0))), (q_35, .inl (cA_3, 40, .inl (fun _ => 0))), (q_38, .inl (cA_3, 40, .inl (fun _ => 0))), (q_47, .inl (cA_3, 40, .inl (fun _ => 0))), (q_104, .inl (cA_105, 40, .inl (fun _ => 0)))] H := hP
  have hD : va_D A [(h0, .inr (6, fs_103)), (q_2, .inl (cA_3, 8, .inl (fun _ => 0))), (q_5, .inl (cA_3, 32, .inl (fun _ => 0))), (q_8, .inl (cA_3, 100, .inl (fun _ => 0))), (q_11, .inl (cA_3, 40, .inl (fun _ => 0))), (q_14, .inl (cA_3, 40, .inl (fun _ => 0))), (q_17, .inl (cA_3, 40, .inl (fun _ => 0))), (q_20, .inl (cA_3, 40, .inl (fun _ => 0))), (q_23, .inl (cA_3, 40, .inl (fun _ => 0))), (q_32, .inl (cA_3, 40, .inl (fun _ => 0))), (q_35, .inl (cA_3, 40, .inl (fun _ => 0))), (q_38, .inl (cA_3, 40, .inl (fun _ => 0))), (q_47, .inl (cA_3, 40, .inl (fun _ => 0))), (q_104, .inl (cA_105, 40, .inl (fun _ => 0)))] := hD
  refine va_putF (D := (dC, dI)) (ci := 6) (v := .ref q_104) (ty := .array (.int)) (C := RX6) (T := TX6) (N := 51) hx hb hts uB6 tyX6 tyX6_ok nmX6 hown hK hP hD hS 0 rfl rfl 47 (by decide) (hts _ wm_185) (fun _ h9 => h9) rfl hin rfl (by decide +kernel) rfl rfl (by rw [hlen_h0]; decide) dX6_init_293 (fun H locs hP hD hS => ?_)
  obtain ⟨fs_106, efs_106⟩ : ∃ z9, z9 = (fs_103).set 47 (.ref q_104) := ⟨_, rfl⟩
  have hP : va_P (dC, dI) vwCl [(h0, .inr (6, fs_106)), (q_2, .inl (cA_3, 8, .inl (fun _ => 0))), (q_5, .inl (cA_3, 32, .inl (fun _ => 0))), (q_8, .inl (cA_3, 100, .inl (fun _ => 0))), (q_11, .inl (cA_3, 40, .inl (fun _ => 0))), (q_14, .inl (cA_3, 40, .inl (fun _ => 0))), (q_17, .inl (cA_3, 40, .inl (fun _ => 0))), (q_20, .inl (cA_3, 40, .inl (fun _ => 0))), (q_23, .inl (cA_3, 40, .inl (fun _ => 0))), (q_32, .inl (cA_3, 40, .inl (fun _ => 0))), (q_35, .inl (cA_3, 40, .inl (fun _ => 0))), (q_38, .inl (cA_3, 40, .inl (fun _ => 0))), (q_47, .inl (cA_3, 40, .inl (fun _ => 0))), (q_104, .inl (cA_105, 40, .inl (fun _ => 0)))] H := by rw [efs_106]; exact hP
  have hD : va_D A [(h0, .inr (6, fs_106)), (q_2, .inl (cA_3, 8, .inl (fun _ => 0))), (q_5, .inl (cA_3, 32, .inl (fun _ => 0))), (q_8, .inl (cA_3, 100, .inl (fun _ => 0))), (q_11, .inl (cA_3, 40, .inl (fun _ => 0))), (q_14, .inl (cA_3, 40, .inl (fun _ => 0))), (q_17, .inl (cA_3, 40, .inl (fun _ => 0))), (q_20, .inl (cA_3, 40, .inl (fun _ => 0))), (q_23, .inl (cA_3, 40, .inl (fun _ => 0))), (q_32, .inl (cA_3, 40, .inl (fun _ => 0))), (q_35, .inl (cA_3, 40, .inl (fun _ => 0))), (q_38, .inl (cA_3, 40, .inl (fun _ => 0))), (q_47, .inl (cA_3, 40, .inl (fun _ => 0))), (q_104, .inl (cA_105, 40, .inl (fun _ => 0)))] := by rw [efs_106]; exact hD
  have hf1_h0 : fs_106[1]? = some (.int 0) := by rw [efs_106, List.getElem?_set_ne (by decide)]; exact hf1_h0
  have hf2_h0 : fs_106[2]? = some (.int 0) := by rw [efs_106, List.getElem?_set_ne (by decide)]; exact hf2_h0
  have hf3_h0 : fs_106[3]? = some (.int 0) := by rw [efs_106, List.getElem?_set_ne (by decide)]; exact hf3_h0
  have hf5_h0 : fs_106[5]? = some (.int 0) := by rw [efs_106, List.getElem?_set_ne (by decide)]; exact hf5_h0
  have hf9_h0 : fs_106[9]? = some (.int 0) := by rw [efs_106, List.getElem?_set_ne (by decide)]; exact hf9_h0
  have hf25_h0 : fs_106[25]? = some (.int 0) := by rw [efs_106, List.getElem?_set_ne (by decide)]; exact hf25_h0
  have hf6_h0 : fs_106[6]? = some (.ref q_2) := by rw [efs_106, List.getElem?_set_ne (by decide)]; exact hf6_h0
  have hf7_h0 : fs_106[7]? = some (.ref q_5) := by rw [efs_106, List.getElem?_set_ne (by decide)]; exact hf7_h0
  have hf8_h0 : fs_106[8]? = some (.ref q_8) := by rw [efs_106, List.getElem?_set_ne (by decide)]; exact hf8_h0
  have hf10_h0 : fs_106[10]? = some (.ref q_11) := by rw [efs_106, List.getElem?_set_ne (by decide)]; exact hf10_h0
  have hf11_h0 : fs_106[11]? = some (.ref q_14) := by rw [efs_106, List.getElem?_set_ne (by decide)]; exact hf11_h0
  have hf12_h0 : fs_106[12]? = some (.ref q_17) := by rw [efs_106, List.getElem?_set_ne (by decide)]; exact hf12_h0
  have hf13_h0 : fs_106[13]? = some (.ref q_20) := by rw [efs_106, List.getElem?_set_ne (by decide)]; exact hf13_h0
  have hf14_h0 : fs_106[14]? = some (.ref q_23) := by rw [efs_106, List.getElem?_set_ne (by decide)]; exact hf14_h0
  have hf17_h0 : fs_106[17]? = some (.ref q_32) := by rw [efs_106, List.getElem?_set_ne (by decide)]; exact hf17_h0
  have hf18_h0 : fs_106[18]? = some (.ref q_35) := by rw [efs_106, List.getElem?_set_ne (by decide)]; exact hf18_h0
  have hf19_h0 : fs_106[19]? = some (.ref q_38) := by rw [efs_106, List.getElem?_set_ne (by decide)]; exact hf19_h0
  have hf22_h0 : fs_106[22]? = some (.ref q_47) := by rw [efs_106, List.getElem?_set_ne (by decide)]; exact hf22_h0
  have hlen_h0 : fs_106.length = 51 := by rw [efs_106, List.length_set]; exact hlen_h0
  have hK := hK.sub (tys' := [(cA_3, .int)]) [0] rfl
  have hP := hP.sub (ws' := [(h0, .inr (6, fs_106)), (q_2, .inl (cA_3, 8, .inl (fun _ => 0))), (q_5, .inl (cA_3, 32, .inl (fun _ => 0))), (q_8, .inl (cA_3, 100, .inl (fun _ => 0))), (q_11, .inl (cA_3, 40, .inl (fun _ => 0))), (q_14, .inl (cA_3, 40, .inl (fun _ => 0))), (q_17, .inl (cA_3, 40, .inl (fun _ => 0))), (q_20, .inl (cA_3, 40, .inl (fun _ => 0))), (q_23, .inl (cA_3, 40, .inl (fun _ => 0))), (q_32, .inl (cA_3, 40, .inl (fun _ => 0))), (q_35, .inl (cA_3, 40, .inl (fun _ => 0))), (q_38, .inl (cA_3, 40, .inl (fun _ => 0))), (q_47, .inl (cA_3, 40, .inl (fun _ => 0)))]) [0, 1, 2, 3, 4, 5, 6, 7, 8, 9, 10, 11, 12] rfl
  have hD := hD.sub (ws' := [(h0, .inr (6, fs_106)), (q_2, .inl (cA_3, 8, .inl (fun _ => 0))), (q_5, .inl (cA_3, 32, .inl (fun _ => 0))), (q_8, .inl (cA_3, 100, .inl (fun _ => 0))), (q_11, .inl (cA_3, 40, .inl (fun _ => 0))), (q_14, .inl (cA_3, 40, .inl (fun _ => 0))), (q_17, .inl (cA_3, 40, .inl (fun _ => 0))), (q_20, .inl (cA_3, 40, .inl (fun _ => 0))), (q_23, .inl (cA_3, 40, .inl (fun _ => 0))), (q_32, .inl (cA_3, 40, .inl (fun _ => 0))), (q_35, .inl (cA_3, 40, .inl (fun _ => 0))), (q_38, .inl (cA_3, 40, .inl (fun _ => 0))), (q_47, .inl (cA_3, 40, .inl (fun _ => 0)))]) [0, 1, 2, 3, 4, 5, 6, 7, 8, 9, 10, 11, 12] (by decide) rfl
  refine lv_aload_n hx hb dX6_init_296 rfl (lv_at hl 0 rfl) ?_
  refine lv_iconst (v := 5) hx hb dX6_init_297 (by decide) ?_
  refine va_newa (atype := .int) (N' := 5) (a0 := (5, .inl (fun _ => 0))) hx hb (hts _ wm_80) rfl hK hP hD hS hA (fun _ => rfl) (by decide) rfl (Nat.le_of_ble_eq_true rfl) (Nat.le_of_ble_eq_true rfl) (Nat.le_of_ble_eq_true rfl) dX6_init_298 (fun q_107 cA_108 H hK hP hD hS => ?_)
  have hK : va_K (dC, dI) vwCl [(cA_3, .int), (cA_108, .int)] s := hK
  have hP : va_P (dC, dI) vwCl [(h0, .inr (6, fs_106)), (q_2, .inl (cA_3, 8, .inl (fun _ => 0))), (q_5, .inl (cA_3, 32, .inl (fun _ => 0))), (q_8, .inl (cA_3, 100, .inl (fun _ => 0))), (q_11, .inl (cA_3, 40, .inl (fun _ => 0))), (q_14, .inl (cA_3, 40, .inl (fun _ => 0))), (q_17, .inl (cA_3, 40, .inl (fun _ => 0))), (q_20, .inl (cA_3, 40, .inl (fun _ => 0))), (q_23, .inl (cA_3, 40, .inl (fun _ => 0))), (q_32, .inl (cA_3, 40, .inl (fun _ => 0))), (q_35, .inl (cA_3, 40, .inl (fun _ => 0))), (q_38, .inl (cA_3, 40, .inl (fun _ => 0))), (q_47, .inl (cA_3, 40, .inl (fun _ => 0))), (q_107, .inl (cA_108, 5, .inl (fun _ => 0)))] H := hP
  have hD : va_D A [(h0, .inr (6, fs_106)), (q_2, .inl (cA_3, 8, .inl (fun _ => 0))), (q_5, .inl (cA_3, 32, .inl (fun _ => 0))), (q_8, .inl (cA_3, 100, .inl (fun _ => 0))), (q_11, .inl (cA_3, 40, .inl (fun _ => 0))), (q_14, .inl (cA_3, 40, .inl (fun _ => 0))), (q_17, .inl (cA_3, 40, .inl (fun _ => 0))), (q_20, .inl (cA_3, 40, .inl (fun _ => 0))), (q_23, .inl (cA_3, 40, .inl (fun _ => 0))), (q_32, .inl (cA_3, 40, .inl (fun _ => 0))), (q_35, .inl (cA_3, 40, .inl (fun _ => 0))), (q_38, .inl (cA_3, 40, .inl (fun _ => 0))), (q_47, .inl (cA_3, 40, .inl (fun _ => 0))), (q_107, .inl (cA_108, 5, .inl (fun _ => 0)))] := hD
  refine va_putF (D := (dC, dI)) (ci := 6) (v := .ref q_107) (ty := .array (.int)) (C := RX6) (T := TX6) (N := 51) hx hb hts uB6 tyX6 tyX6_ok nmX6 hown hK hP hD hS 0 rfl rfl 48 (by decide) (hts _ wm_186) (fun _ h9 => h9) rfl hin rfl (by decide +kernel) rfl rfl (by rw [hlen_h0]; decide) dX6_init_300 (fun H locs hP hD hS => ?_)
  obtain ⟨fs_109, efs_109⟩ : ∃ z9, z9 = (fs_106).set 48 (.ref q_107) := ⟨_, rfl⟩
  have hP : va_P (dC, dI) vwCl [(h0, .inr (6, fs_109)), (q_2, .inl (cA_3, 8, .inl (fun _ => 0))), (q_5, .inl (cA_3, 32, .inl (fun _ => 0))), (q_8, .inl (cA_3, 100, .inl (fun _ => 0))), (q_11, .inl (cA_3, 40, .inl (fun _ => 0))), (q_14, .inl (cA_3, 40, .inl (fun _ => 0))), (q_17, .inl (cA_3, 40, .inl (fun _ => 0))), (q_20, .inl (cA_3, 40, .inl (fun _ => 0))), (q_23, .inl (cA_3, 40, .inl (fun _ => 0))), (q_32, .inl (cA_3, 40, .inl (fun _ => 0))), (q_35, .inl (cA_3, 40, .inl (fun _ => 0))), (q_38, .inl (cA_3, 40, .inl (fun _ => 0))), (q_47, .inl (cA_3, 40, .inl (fun _ => 0))), (q_107, .inl (cA_108, 5, .inl (fun _ => 0)))] H := by rw [efs_109]; exact hP
  have hD : va_D A [(h0, .inr (6, fs_109)), (q_2, .inl (cA_3, 8, .inl (fun _ => 0))), (q_5, .inl (cA_3, 32, .inl (fun _ => 0))), (q_8, .inl (cA_3, 100, .inl (fun _ => 0))), (q_11, .inl (cA_3, 40, .inl (fun _ => 0))), (q_14, .inl (cA_3, 40, .inl (fun _ => 0))), (q_17, .inl (cA_3, 40, .inl (fun _ => 0))), (q_20, .inl (cA_3, 40, .inl (fun _ => 0))), (q_23, .inl (cA_3, 40, .inl (fun _ => 0))), (q_32, .inl (cA_3, 40, .inl (fun _ => 0))), (q_35, .inl (cA_3, 40, .inl (fun _ => 0))), (q_38, .inl (cA_3, 40, .inl (fun _ => 0))), (q_47, .inl (cA_3, 40, .inl (fun _ => 0))), (q_107, .inl (cA_108, 5, .inl (fun _ => 0)))] := by rw [efs_109]; exact hD
  have hf1_h0 : fs_109[1]? = some (.int 0) := by rw [efs_109, List.getElem?_set_ne (by decide)]; exact hf1_h0
  have hf2_h0 : fs_109[2]? = some (.int 0) := by rw [efs_109, List.getElem?_set_ne (by decide)]; exact hf2_h0
  have hf3_h0 : fs_109[3]? = some (.int 0) := by rw [efs_109, List.getElem?_set_ne (by decide)]; exact hf3_h0
  have hf5_h0 : fs_109[5]? = some (.int 0) := by rw [efs_109, List.getElem?_set_ne (by decide)]; exact hf5_h0
  have hf9_h0 : fs_109[9]? = some (.int 0) := by rw [efs_109, List.getElem?_set_ne (by decide)]; exact hf9_h0
  have hf25_h0 : fs_109[25]? = some (.int 0) := by rw [efs_109, List.getElem?_set_ne (by decide)]; exact hf25_h0
  have hf6_h0 : fs_109[6]? = some (.ref q_2) := by rw [efs_109, List.getElem?_set_ne (by decide)]; exact hf6_h0
  have hf7_h0 : fs_109[7]? = some (.ref q_5) := by rw [efs_109, List.getElem?_set_ne (by decide)]; exact hf7_h0
  have hf8_h0 : fs_109[8]? = some (.ref q_8) := by rw [efs_109, List.getElem?_set_ne (by decide)]; exact hf8_h0
  have hf10_h0 : fs_109[10]? = some (.ref q_11) := by rw [efs_109, List.getElem?_set_ne (by decide)]; exact hf10_h0
  have hf11_h0 : fs_109[11]? = some (.ref q_14) := by rw [efs_109, List.getElem?_set_ne (by decide)]; exact hf11_h0
  have hf12_h0 : fs_109[12]? = some (.ref q_17) := by rw [efs_109, List.getElem?_set_ne (by decide)]; exact hf12_h0
  have hf13_h0 : fs_109[13]? = some (.ref q_20) := by rw [efs_109, List.getElem?_set_ne (by decide)]; exact hf13_h0
  have hf14_h0 : fs_109[14]? = some (.ref q_23) := by rw [efs_109, List.getElem?_set_ne (by decide)]; exact hf14_h0
  have hf17_h0 : fs_109[17]? = some (.ref q_32) := by rw [efs_109, List.getElem?_set_ne (by decide)]; exact hf17_h0
  have hf18_h0 : fs_109[18]? = some (.ref q_35) := by rw [efs_109, List.getElem?_set_ne (by decide)]; exact hf18_h0
  have hf19_h0 : fs_109[19]? = some (.ref q_38) := by rw [efs_109, List.getElem?_set_ne (by decide)]; exact hf19_h0
  have hf22_h0 : fs_109[22]? = some (.ref q_47) := by rw [efs_109, List.getElem?_set_ne (by decide)]; exact hf22_h0
  have hlen_h0 : fs_109.length = 51 := by rw [efs_109, List.length_set]; exact hlen_h0
  have hK := hK.sub (tys' := [(cA_3, .int)]) [0] rfl
  have hP := hP.sub (ws' := [(h0, .inr (6, fs_109)), (q_2, .inl (cA_3, 8, .inl (fun _ => 0))), (q_5, .inl (cA_3, 32, .inl (fun _ => 0))), (q_8, .inl (cA_3, 100, .inl (fun _ => 0))), (q_11, .inl (cA_3, 40, .inl (fun _ => 0))), (q_14, .inl (cA_3, 40, .inl (fun _ => 0))), (q_17, .inl (cA_3, 40, .inl (fun _ => 0))), (q_20, .inl (cA_3, 40, .inl (fun _ => 0))), (q_23, .inl (cA_3, 40, .inl (fun _ => 0))), (q_32, .inl (cA_3, 40, .inl (fun _ => 0))), (q_35, .inl (cA_3, 40, .inl (fun _ => 0))), (q_38, .inl (cA_3, 40, .inl (fun _ => 0))), (q_47, .inl (cA_3, 40, .inl (fun _ => 0)))]) [0, 1, 2, 3, 4, 5, 6, 7, 8, 9, 10, 11, 12] rfl
  have hD := hD.sub (ws' := [(h0, .inr (6, fs_109)), (q_2, .inl (cA_3, 8, .inl (fun _ => 0))), (q_5, .inl (cA_3, 32, .inl (fun _ => 0))), (q_8, .inl (cA_3, 100, .inl (fun _ => 0))), (q_11, .inl (cA_3, 40, .inl (fun _ => 0))), (q_14, .inl (cA_3, 40, .inl (fun _ => 0))), (q_17, .inl (cA_3, 40, .inl (fun _ => 0))), (q_20, .inl (cA_3, 40, .inl (fun _ => 0))), (q_23, .inl (cA_3, 40, .inl (fun _ => 0))), (q_32, .inl (cA_3, 40, .inl (fun _ => 0))), (q_35, .inl (cA_3, 40, .inl (fun _ => 0))), (q_38, .inl (cA_3, 40, .inl (fun _ => 0))), (q_47, .inl (cA_3, 40, .inl (fun _ => 0)))]) [0, 1, 2, 3, 4, 5, 6, 7, 8, 9, 10, 11, 12] (by decide) rfl
  refine lv_aload_n hx hb dX6_init_303 rfl (lv_at hl 0 rfl) ?_
  refine lv_iconst (v := 4) hx hb dX6_init_304 (by decide) ?_
  refine va_newa (atype := .int) (N' := 4) (a0 := (4, .inl (fun _ => 0))) hx hb (hts _ wm_80) rfl hK hP hD hS hA (fun _ => rfl) (by decide) rfl (Nat.le_of_ble_eq_true rfl) (Nat.le_of_ble_eq_true rfl) (Nat.le_of_ble_eq_true rfl) dX6_init_305 (fun q_110 cA_111 H hK hP hD hS => ?_)
  have hK : va_K (dC, dI) vwCl [(cA_3, .int), (cA_111, .int)] s := hK
  have hP : va_P (dC, dI) vwCl [(h0, .inr (6, fs_109)), (q_2, .inl (cA_3, 8, .inl (fun _ => 0))), (q_5, .inl (cA_3, 32, .inl (fun _ => 0))), (q_8, .inl (cA_3, 100, .inl (fun _ => 0))), (q_11, .inl (cA_3, 40, .inl (fun _ => 0))), (q_14, .inl (cA_3, 40, .inl (fun _ => 0))), (q_17, .inl (cA_3, 40, .inl (fun _ => 0))), (q_20, .inl (cA_3, 40, .inl (fun _ => 0))), (q_23, .inl (cA_3, 40, .inl (fun _ => 0))), (q_32, .inl (cA_3, 40, .inl (fun _ => 0))), (q_35, .inl (cA_3, 40, .inl (fun _ => 0))), (q_38, .inl (cA_3, 40, .inl (fun _ => 0))), (q_47, .inl (cA_3, 40, .inl (fun _ => 0))), (q_110, .inl (cA_111, 4, .inl (fun _ => 0)))] H := hP
  have hD : va_D A [(h0, .inr (6, fs_109)), (q_2, .inl (cA_3, 8, .inl (fun _ => 0))), (q_5, .inl (cA_3, 32, .inl (fun _ => 0))), (q_8, .inl (cA_3, 100, .inl (fun _ => 0))), (q_11, .inl (cA_3, 40, .inl (fun _ => 0))), (q_14, .inl (cA_3, 40, .inl (fun _ => 0))), (q_17, .inl (cA_3, 40, .inl (fun _ => 0))), (q_20, .inl (cA_3, 40, .inl (fun _ => 0))), (q_23, .inl (cA_3, 40, .inl (fun _ => 0))), (q_32, .inl (cA_3, 40, .inl (fun _ => 0))), (q_35, .inl (cA_3, 40, .inl (fun _ => 0))), (q_38, .inl (cA_3, 40, .inl (fun _ => 0))), (q_47, .inl (cA_3, 40, .inl (fun _ => 0))), (q_110, .inl (cA_111, 4, .inl (fun _ => 0)))] := hD
  refine va_putF (D := (dC, dI)) (ci := 6) (v := .ref q_110) (ty := .array (.int)) (C := RX6) (T := TX6) (N := 51) hx hb hts uB6 tyX6 tyX6_ok nmX6 hown hK hP hD hS 0 rfl rfl 49 (by decide) (hts _ wm_187) (fun _ h9 => h9) rfl hin rfl (by decide +kernel) rfl rfl (by rw [hlen_h0]; decide) dX6_init_307 (fun H locs hP hD hS => ?_)
  obtain ⟨fs_112, efs_112⟩ : ∃ z9, z9 = (fs_109).set 49 (.ref q_110) := ⟨_, rfl⟩
  have hP : va_P (dC, dI) vwCl [(h0, .inr (6, fs_112)), (q_2, .inl (cA_3, 8, .inl (fun _ => 0))), (q_5, .inl (cA_3, 32, .inl (fun _ => 0))), (q_8, .inl (cA_3, 100, .inl (fun _ => 0))), (q_11, .inl (cA_3, 40, .inl (fun _ => 0))), (q_14, .inl (cA_3, 40, .inl (fun _ => 0))), (q_17, .inl (cA_3, 40, .inl (fun _ => 0))), (q_20, .inl (cA_3, 40, .inl (fun _ => 0))), (q_23, .inl (cA_3, 40, .inl (fun _ => 0))), (q_32, .inl (cA_3, 40, .inl (fun _ => 0))), (q_35, .inl (cA_3, 40, .inl (fun _ => 0))), (q_38, .inl (cA_3, 40, .inl (fun _ => 0))), (q_47, .inl (cA_3, 40, .inl (fun _ => 0))), (q_110, .inl (cA_111, 4, .inl (fun _ => 0)))] H := by rw [efs_112]; exact hP
  have hD : va_D A [(h0, .inr (6, fs_112)), (q_2, .inl (cA_3, 8, .inl (fun _ => 0))), (q_5, .inl (cA_3, 32, .inl (fun _ => 0))), (q_8, .inl (cA_3, 100, .inl (fun _ => 0))), (q_11, .inl (cA_3, 40, .inl (fun _ => 0))), (q_14, .inl (cA_3, 40, .inl (fun _ => 0))), (q_17, .inl (cA_3, 40, .inl (fun _ => 0))), (q_20, .inl (cA_3, 40, .inl (fun _ => 0))), (q_23, .inl (cA_3, 40, .inl (fun _ => 0))), (q_32, .inl (cA_3, 40, .inl (fun _ => 0))), (q_35, .inl (cA_3, 40, .inl (fun _ => 0))), (q_38, .inl (cA_3, 40, .inl (fun _ => 0))), (q_47, .inl (cA_3, 40, .inl (fun _ => 0))), (q_110, .inl (cA_111, 4, .inl (fun _ => 0)))] := by rw [efs_112]; exact hD
  have hf1_h0 : fs_112[1]? = some (.int 0) := by rw [efs_112, List.getElem?_set_ne (by decide)]; exact hf1_h0
  have hf2_h0 : fs_112[2]? = some (.int 0) := by rw [efs_112, List.getElem?_set_ne (by decide)]; exact hf2_h0
  have hf3_h0 : fs_112[3]? = some (.int 0) := by rw [efs_112, List.getElem?_set_ne (by decide)]; exact hf3_h0
  have hf5_h0 : fs_112[5]? = some (.int 0) := by rw [efs_112, List.getElem?_set_ne (by decide)]; exact hf5_h0
  have hf9_h0 : fs_112[9]? = some (.int 0) := by rw [efs_112, List.getElem?_set_ne (by decide)]; exact hf9_h0
  have hf25_h0 : fs_112[25]? = some (.int 0) := by rw [efs_112, List.getElem?_set_ne (by decide)]; exact hf25_h0
  have hf6_h0 : fs_112[6]? = some (.ref q_2) := by rw [efs_112, List.getElem?_set_ne (by decide)]; exact hf6_h0
  have hf7_h0 : fs_112[7]? = some (.ref q_5) := by rw [efs_112, List.getElem?_set_ne (by decide)]; exact hf7_h0
  have hf8_h0 : fs_112[8]? = some (.ref q_8) := by rw [efs_112, List.getElem?_set_ne (by decide)]; exact hf8_h0
  have hf10_h0 : fs_112[10]? = some (.ref q_11) := by rw [efs_112, List.getElem?_set_ne (by decide)]; exact hf10_h0
  have hf11_h0 : fs_112[11]? = some (.ref q_14) := by rw [efs_112, List.getElem?_set_ne (by decide)]; exact hf11_h0
  have hf12_h0 : fs_112[12]? = some (.ref q_17) := by rw [efs_112, List.getElem?_set_ne (by decide)]; exact hf12_h0
  have hf13_h0 : fs_112[13]? = some (.ref q_20) := by rw [efs_112, List.getElem?_set_ne (by decide)]; exact hf13_h0
  have hf14_h0 : fs_112[14]? = some (.ref q_23) := by rw [efs_112, List.getElem?_set_ne (by decide)]; exact hf14_h0
  have hf17_h0 : fs_112[17]? = some (.ref q_32) := by rw [efs_112, List.getElem?_set_ne (by decide)]; exact hf17_h0
  have hf18_h0 : fs_112[18]? = some (.ref q_35) := by rw [efs_112, List.getElem?_set_ne (by decide)]; exact hf18_h0
  have hf19_h0 : fs_112[19]? = some (.ref q_38) := by rw [efs_112, List.getElem?_set_ne (by decide)]; exact hf19_h0
  have hf22_h0 : fs_112[22]? = some (.ref q_47) := by rw [efs_112, List.getElem?_set_ne (by decide)]; exact hf22_h0
  have hlen_h0 : fs_112.length = 51 := by rw [efs_112, List.length_set]; exact hlen_h0
  have hK := hK.sub (tys' := [(cA_3, .int)]) [0] rfl
  have hP := hP.sub (ws' := [(h0, .inr (6, fs_112)), (q_2, .inl (cA_3, 8, .inl (fun _ => 0))), (q_5, .inl (cA_3, 32, .inl (fun _ => 0))), (q_8, .inl (cA_3, 100, .inl (fun _ => 0))), (q_11, .inl (cA_3, 40, .inl (fun _ => 0))), (q_14, .inl (cA_3, 40, .inl (fun _ => 0))), (q_17, .inl (cA_3, 40, .inl (fun _ => 0))), (q_20, .inl (cA_3, 40, .inl (fun _ => 0))), (q_23, .inl (cA_3, 40, .inl (fun _ => 0))), (q_32, .inl (cA_3, 40, .inl (fun _ => 0))), (q_35, .inl (cA_3, 40, .inl (fun _ => 0))), (q_38, .inl (cA_3, 40, .inl (fun _ => 0))), (q_47, .inl (cA_3, 40, .inl (fun _ => 0)))]) [0, 1, 2, 3, 4, 5, 6, 7, 8, 9, 10, 11, 12] rfl
  have hD := hD.sub (ws' := [(h0, .inr (6, fs_112)), (q_2, .inl (cA_3, 8, .inl (fun _ => 0))), (q_5, .inl (cA_3, 32, .inl (fun _ => 0))), (q_8, .inl (cA_3, 100, .inl (fun _ => 0))), (q_11, .inl (cA_3, 40, .inl (fun _ => 0))), (q_14, .inl (cA_3, 40, .inl (fun _ => 0))), (q_17, .inl (cA_3, 40, .inl (fun _ => 0))), (q_20, .inl (cA_3, 40, .inl (fun _ => 0))), (q_23, .inl (cA_3, 40, .inl (fun _ => 0))), (q_32, .inl (cA_3, 40, .inl (fun _ => 0))), (q_35, .inl (cA_3, 40, .inl (fun _ => 0))), (q_38, .inl (cA_3, 40, .inl (fun _ => 0))), (q_47, .inl (cA_3, 40, .inl (fun _ => 0)))]) [0, 1, 2, 3, 4, 5, 6, 7, 8, 9, 10, 11, 12] (by decide) rfl
  refine lv_aload_n hx hb dX6_init_310 rfl (lv_at hl 0 rfl) ?_
  refine lv_iconst (v := 4) hx hb dX6_init_311 (by decide) ?_
  refine va_newa (atype := .int) (N' := 4) (a0 := (4, .inl (fun _ => 0))) hx hb (hts _ wm_80) rfl hK hP hD hS hA (fun _ => rfl) (by decide) rfl (Nat.le_of_ble_eq_true rfl) (Nat.le_of_ble_eq_true rfl) (Nat.le_of_ble_eq_true rfl) dX6_init_312 (fun q_113 cA_114 H hK hP hD hS => ?_)
  have hK : va_K (dC, dI) vwCl [(cA_3, .int), (cA_114, .int)] s := hK
  have hP : va_P (dC, dI) vwCl [(h0, .inr (6, fs_112)), (q_2, .inl (cA_3, 8, .inl (fun _ => 0))), (q_5, .inl (cA_3, 32, .inl (fun _ => 0))), (q_8, .inl (cA_3, 100, .inl (fun _ => 0))), (q_11, .inl (cA_3, 40, .inl (fun _ => 0))), (q_14, .inl (cA_3, 40, .inl (fun _ => 0))), (q_17, .inl (cA_3, 40, .inl (fun _ => 0))), (q_20, .inl (cA_3, 40, .inl (fun _ => 0))), (q_23, .inl (cA_3, 40, .inl (fun _ => 0))), (q_32, .inl (cA_3, 40, .inl (fun _ => 0))), (q_35, .inl (cA_3, 40, .inl (fun _ => 0))), (q_38, .inl (cA_3, 40, .inl (fun _ => 0))), (q_47, .inl (cA_3, 40, .inl (fun _ => 0))), (q_113, .inl (cA_114, 4, .inl (fun _ => 0)))] H := hP
  have hD : va_D A [(h0, .inr (6, fs_112)), (q_2, .inl (cA_3, 8, .inl (fun _ => 0))), (q_5, .inl (cA_3, 32, .inl (fun _ => 0))), (q_8, .inl (cA_3, 100, .inl (fun _ => 0))), (q_11, .inl (cA_3, 40, .inl (fun _ => 0))), (q_14, .inl (cA_3, 40, .inl (fun _ => 0))), (q_17, .inl (cA_3, 40, .inl (fun _ => 0))), (q_20, .inl (cA_3, 40, .inl (fun _ => 0))), (q_23, .inl (cA_3, 40, .inl (fun _ => 0))), (q_32, .inl (cA_3, 40, .inl (fun _ => 0))), (q_35, .inl (cA_3, 40, .inl (fun _ => 0))), (q_38, .inl (cA_3, 40, .inl (fun _ => 0))), (q_47, .inl (cA_3, 40, .inl (fun _ => 0))), (q_113, .inl (cA_114, 4, .inl (fun _ => 0)))] := hD
  refine va_putF (D := (dC, dI)) (ci := 6) (v := .ref q_113) (ty := .array (.int)) (C := RX6) (T := TX6) (N := 51) hx hb hts uB6 tyX6 tyX6_ok nmX6 hown hK hP hD hS 0 rfl rfl 50 (by decide) (hts _ wm_188) (fun _ h9 => h9) rfl hin rfl (by decide +kernel) rfl rfl (by rw [hlen_h0]; decide) dX6_init_314 (fun H locs hP hD hS => ?_)
  obtain ⟨fs_115, efs_115⟩ : ∃ z9, z9 = (fs_112).set 50 (.ref q_113) := ⟨_, rfl⟩
  have hP : va_P (dC, dI) vwCl [(h0, .inr (6, fs_115)), (q_2, .inl (cA_3, 8, .inl (fun _ => 0))), (q_5, .inl (cA_3, 32, .inl (fun _ => 0))), (q_8, .inl (cA_3, 100, .inl (fun _ => 0))), (q_11, .inl (cA_3, 40, .inl (fun _ => 0))), (q_14, .inl (cA_3, 40, .inl (fun _ => 0))), (q_17, .inl (cA_3, 40, .inl (fun _ => 0))), (q_20, .inl (cA_3, 40, .inl (fun _ => 0))), (q_23, .inl (cA_3, 40, .inl (fun _ => 0))), (q_32, .inl (cA_3, 40, .inl (fun _ => 0))), (q_35, .inl (cA_3, 40, .inl (fun _ => 0))), (q_38, .inl (cA_3, 40, .inl (fun _ => 0))), (q_47, .inl (cA_3, 40, .inl (fun _ => 0))), (q_113, .inl (cA_114, 4, .inl (fun _ => 0)))] H := by rw [efs_115]; exact hP
  have hD : va_D A [(h0, .inr (6, fs_115)), (q_2, .inl (cA_3, 8, .inl (fun _ => 0))), (q_5, .inl (cA_3, 32, .inl (fun _ => 0))), (q_8, .inl (cA_3, 100, .inl (fun _ => 0))), (q_11, .inl (cA_3, 40, .inl (fun _ => 0))), (q_14, .inl (cA_3, 40, .inl (fun _ => 0))), (q_17, .inl (cA_3, 40, .inl (fun _ => 0))), (q_20, .inl (cA_3, 40, .inl (fun _ => 0))), (q_23, .inl (cA_3, 40, .inl (fun _ => 0))), (q_32, .inl (cA_3, 40, .inl (fun _ => 0))), (q_35, .inl (cA_3, 40, .inl (fun _ => 0))), (q_38, .inl (cA_3, 40, .inl (fun _ => 0))), (q_47, .inl (cA_3, 40, .inl (fun _ => 0))), (q_113, .inl (cA_114, 4, .inl (fun _ => 0)))] := by rw [efs_115]; exact hD
  have hf1_h0 : fs_115[1]? = some (.int 0) := by rw [efs_115, List.getElem?_set_ne (by decide)]; exact hf1_h0
  have hf2_h0 : fs_115[2]? = some (.int 0) := by rw [efs_115, List.getElem?_set_ne (by decide)]; exact hf2_h0
  have hf3_h0 : fs_115[3]? = some (.int 0) := by rw [efs_115, List.getElem?_set_ne (by decide)]; exact hf3_h0
  have hf5_h0 : fs_115[5]? = some (.int 0) := by rw [efs_115, List.getElem?_set_ne (by decide)]; exact hf5_h0
  have hf9_h0 : fs_115[9]? = some (.int 0) := by rw [efs_115, List.getElem?_set_ne (by decide)]; exact hf9_h0
  have hf25_h0 : fs_115[25]? = some (.int 0) := by rw [efs_115, List.getElem?_set_ne (by decide)]; exact hf25_h0
  have hf6_h0 : fs_115[6]? = some (.ref q_2) := by rw [efs_115, List.getElem?_set_ne (by decide)]; exact hf6_h0
  have hf7_h0 : fs_115[7]? = some (.ref q_5) := by rw [efs_115, List.getElem?_set_ne (by decide)]; exact hf7_h0
  have hf8_h0 : fs_115[8]? = some (.ref q_8) := by rw [efs_115, List.getElem?_set_ne (by decide)]; exact hf8_h0
  have hf10_h0 : fs_115[10]? = some (.ref q_11) := by rw [efs_115, List.getElem?_set_ne (by decide)]; exact hf10_h0
  have hf11_h0 : fs_115[11]? = some (.ref q_14) := by rw [efs_115, List.getElem?_set_ne (by decide)]; exact hf11_h0
  have hf12_h0 : fs_115[12]? = some (.ref q_17) := by rw [efs_115, List.getElem?_set_ne (by decide)]; exact hf12_h0
  have hf13_h0 : fs_115[13]? = some (.ref q_20) := by rw [efs_115, List.getElem?_set_ne (by decide)]; exact hf13_h0
  have hf14_h0 : fs_115[14]? = some (.ref q_23) := by rw [efs_115, List.getElem?_set_ne (by decide)]; exact hf14_h0
  have hf17_h0 : fs_115[17]? = some (.ref q_32) := by rw [efs_115, List.getElem?_set_ne (by decide)]; exact hf17_h0
  have hf18_h0 : fs_115[18]? = some (.ref q_35) := by rw [efs_115, List.getElem?_set_ne (by decide)]; exact hf18_h0
  have hf19_h0 : fs_115[19]? = some (.ref q_38) := by rw [efs_115, List.getElem?_set_ne (by decide)]; exact hf19_h0
  have hf22_h0 : fs_115[22]? = some (.ref q_47) := by rw [efs_115, List.getElem?_set_ne (by decide)]; exact hf22_h0
  have hlen_h0 : fs_115.length = 51 := by rw [efs_115, List.length_set]; exact hlen_h0
  have hK := hK.sub (tys' := [(cA_3, .int)]) [0] rfl
  have hP := hP.sub (ws' := [(h0, .inr (6, fs_115)), (q_2, .inl (cA_3, 8, .inl (fun _ => 0))), (q_5, .inl (cA_3, 32, .inl (fun _ => 0))), (q_8, .inl (cA_3, 100, .inl (fun _ => 0))), (q_11, .inl (cA_3, 40, .inl (fun _ => 0))), (q_14, .inl (cA_3, 40, .inl (fun _ => 0))), (q_17, .inl (cA_3, 40, .inl (fun _ => 0))), (q_20, .inl (cA_3, 40, .inl (fun _ => 0))), (q_23, .inl (cA_3, 40, .inl (fun _ => 0))), (q_32, .inl (cA_3, 40, .inl (fun _ => 0))), (q_35, .inl (cA_3, 40, .inl (fun _ => 0))), (q_38, .inl (cA_3, 40, .inl (fun _ => 0))), (q_47, .inl (cA_3, 40, .inl (fun _ => 0)))]) [0, 1, 2, 3, 4, 5, 6, 7, 8, 9, 10, 11, 12] rfl
  have hD := hD.sub (ws' := [(h0, .inr (6, fs_115)), (q_2, .inl (cA_3, 8, .inl (fun _ => 0))), (q_5, .inl (cA_3, 32, .inl (fun _ => 0))), (q_8, .inl (cA_3, 100, .inl (fun _ => 0))), (q_11, .inl (cA_3, 40, .inl (fun _ => 0))), (q_14, .inl (cA_3, 40, .inl (fun _ => 0))), (q_17, .inl (cA_3, 40, .inl (fun _ => 0))), (q_20, .inl (cA_3, 40, .inl (fun _ => 0))), (q_23, .inl (cA_3, 40, .inl (fun _ => 0))), (q_32, .inl (cA_3, 40, .inl (fun _ => 0))), (q_35, .inl (cA_3, 40, .inl (fun _ => 0))), (q_38, .inl (cA_3, 40, .inl (fun _ => 0))), (q_47, .inl (cA_3, 40, .inl (fun _ => 0)))]) [0, 1, 2, 3, 4, 5, 6, 7, 8, 9, 10, 11, 12] (by decide) rfl
  exact W.vret hx hb hr (fun t ht hW => ⟨⟨(fs_115, q_2, q_5, q_8, q_11, q_14, q_17, q_20, q_23, q_32, q_35, q_38, q_47, cA_3), rfl, ⟨hlen_h0, hf6_h0, hf7_h0, hf8_h0, hf10_h0, hf11_h0, hf12_h0, hf13_h0, hf14_h0, hf17_h0, hf18_h0, hf19_h0, hf22_h0, hf1_h0, hf2_h0, hf3_h0, hf5_h0, hf9_h0, hf25_h0⟩, by show va_P (dC, dI) vwCl [(h0, .inr (6, fs_115)), (q_2, .inl (cA_3, 8, .inl (fun _ => 0))), (q_5, .inl (cA_3, 32, .inl (fun _ => 0))), (q_8, .inl (cA_3, 100, .inl (fun _ => 0))), (q_11, .inl (cA_3, 40, .inl (fun _ => 0))), (q_14, .inl (cA_3, 40, .inl (fun _ => 0))), (q_17, .inl (cA_3, 40, .inl (fun _ => 0))), (q_20, .inl (cA_3, 40, .inl (fun _ => 0))), (q_23, .inl (cA_3, 40, .inl (fun _ => 0))), (q_32, .inl (cA_3, 40, .inl (fun _ => 0))), (q_35, .inl (cA_3, 40, .inl (fun _ => 0))), (q_38, .inl (cA_3, 40, .inl (fun _ => 0))), (q_47, .inl (cA_3, 40, .inl (fun _ => 0)))] t.heap; rw [ht]; exact hP, va_K.moved hW.alike hK, hD⟩, hS.F ht⟩) hS.2.2 dX6_init_317
end
section
theorem i_vc : Claimed_1_1 ∧ Claimed_1_2 := sorry
end
