section
-- ===== PART A: goes FIRST, ahead of the names: the tables' words, and 'selects' of the private methods out of them =====
/-- a private method of a class that the tables say can be made, by its rows of tables_1 -/
def lw_okq (q : MethodName × Nat) : Prop := (q.1.cls ≠ "java/lang/invoke/MethodHandle" ∧ q.1.cls ≠ "java/lang/invoke/VarHandle") ∧ Cond.instantiable q.1.cls q.2 ∈ tables_1 ∧ Cond.privateMethod q.1 ∈ tables_1 ∧ Cond.instanceMethod q.1 ∈ tables_1
theorem lw_p0 : lw_okq (⟨"NoticeMarket", "isCampaign", "(I)Z"⟩, 17) := ⟨⟨by decide +kernel, by decide +kernel⟩, List.mem_of_getElem? (i := 10) (by decide +kernel), List.mem_of_getElem? (i := 277) (by decide +kernel), List.mem_of_getElem? (i := 278) (by decide +kernel)⟩
theorem lw_p1 : lw_okq (⟨"NoticeMarket", "closeTick", "()V"⟩, 17) := ⟨⟨by decide +kernel, by decide +kernel⟩, List.mem_of_getElem? (i := 10) (by decide +kernel), List.mem_of_getElem? (i := 324) (by decide +kernel), List.mem_of_getElem? (i := 325) (by decide +kernel)⟩
theorem lw_p2 : lw_okq (⟨"NoticeMarket", "goOneTick", "()V"⟩, 17) := ⟨⟨by decide +kernel, by decide +kernel⟩, List.mem_of_getElem? (i := 10) (by decide +kernel), List.mem_of_getElem? (i := 332) (by decide +kernel), List.mem_of_getElem? (i := 333) (by decide +kernel)⟩
theorem lw_p3 : lw_okq (⟨"NoticeMarket", "closeDay", "()V"⟩, 17) := ⟨⟨by decide +kernel, by decide +kernel⟩, List.mem_of_getElem? (i := 10) (by decide +kernel), List.mem_of_getElem? (i := 336) (by decide +kernel), List.mem_of_getElem? (i := 337) (by decide +kernel)⟩
theorem lw_p4 : lw_okq (⟨"NoticeMarket", "freeLateSales", "()V"⟩, 17) := ⟨⟨by decide +kernel, by decide +kernel⟩, List.mem_of_getElem? (i := 10) (by decide +kernel), List.mem_of_getElem? (i := 340) (by decide +kernel), List.mem_of_getElem? (i := 341) (by decide +kernel)⟩
theorem lw_p5 : lw_okq (⟨"NoticeMarket", "freeHeld", "(LNoticeMarket$Sale;)V"⟩, 17) := ⟨⟨by decide +kernel, by decide +kernel⟩, List.mem_of_getElem? (i := 10) (by decide +kernel), List.mem_of_getElem? (i := 344) (by decide +kernel), List.mem_of_getElem? (i := 345) (by decide +kernel)⟩
theorem lw_p6 : lw_okq (⟨"NoticeMarket", "lessenDay", "(LNoticeMarket$Sale;I)V"⟩, 17) := ⟨⟨by decide +kernel, by decide +kernel⟩, List.mem_of_getElem? (i := 10) (by decide +kernel), List.mem_of_getElem? (i := 348) (by decide +kernel), List.mem_of_getElem? (i := 349) (by decide +kernel)⟩
theorem lw_p7 : lw_okq (⟨"NoticeMarket", "setThrottles", "()V"⟩, 17) := ⟨⟨by decide +kernel, by decide +kernel⟩, List.mem_of_getElem? (i := 10) (by decide +kernel), List.mem_of_getElem? (i := 353) (by decide +kernel), List.mem_of_getElem? (i := 354) (by decide +kernel)⟩
theorem lw_p8 : lw_okq (⟨"NoticeMarket", "isPage", "(I)Z"⟩, 17) := ⟨⟨by decide +kernel, by decide +kernel⟩, List.mem_of_getElem? (i := 10) (by decide +kernel), List.mem_of_getElem? (i := 370) (by decide +kernel), List.mem_of_getElem? (i := 371) (by decide +kernel)⟩
theorem lw_p9 : lw_okq (⟨"NoticeMarket", "seekBest", "(ILNoticeMarket$Page;)J"⟩, 17) := ⟨⟨by decide +kernel, by decide +kernel⟩, List.mem_of_getElem? (i := 10) (by decide +kernel), List.mem_of_getElem? (i := 374) (by decide +kernel), List.mem_of_getElem? (i := 375) (by decide +kernel)⟩
theorem lw_p10 : lw_okq (⟨"NoticeMarket", "hindrance", "(IILNoticeMarket$Page;)I"⟩, 17) := ⟨⟨by decide +kernel, by decide +kernel⟩, List.mem_of_getElem? (i := 10) (by decide +kernel), List.mem_of_getElem? (i := 383) (by decide +kernel), List.mem_of_getElem? (i := 384) (by decide +kernel)⟩
theorem lw_p11 : lw_okq (⟨"NoticeMarket", "drawn", "(II)I"⟩, 17) := ⟨⟨by decide +kernel, by decide +kernel⟩, List.mem_of_getElem? (i := 10) (by decide +kernel), List.mem_of_getElem? (i := 403) (by decide +kernel), List.mem_of_getElem? (i := 404) (by decide +kernel)⟩
theorem lw_p12 : lw_okq (⟨"NoticeMarket", "offer", "(ILNoticeMarket$Page;)V"⟩, 17) := ⟨⟨by decide +kernel, by decide +kernel⟩, List.mem_of_getElem? (i := 10) (by decide +kernel), List.mem_of_getElem? (i := 409) (by decide +kernel), List.mem_of_getElem? (i := 410) (by decide +kernel)⟩
theorem lw_p13 : lw_okq (⟨"NoticeMarket$Campaign", "dueBy", "(I)J"⟩, 16) := ⟨⟨by decide +kernel, by decide +kernel⟩, List.mem_of_getElem? (i := 169) (by decide +kernel), List.mem_of_getElem? (i := 417) (by decide +kernel), List.mem_of_getElem? (i := 418) (by decide +kernel)⟩
theorem lw_p14 : lw_okq (⟨"NoticeMarket$Giver", "fillFrom", "(IJJ)V"⟩, 9) := ⟨⟨by decide +kernel, by decide +kernel⟩, List.mem_of_getElem? (i := 24) (by decide +kernel), List.mem_of_getElem? (i := 447) (by decide +kernel), List.mem_of_getElem? (i := 448) (by decide +kernel)⟩
theorem lw_p15 : lw_okq (⟨"NoticeMarket$Giver", "keepIfBetter", "(J)V"⟩, 9) := ⟨⟨by decide +kernel, by decide +kernel⟩, List.mem_of_getElem? (i := 24) (by decide +kernel), List.mem_of_getElem? (i := 451) (by decide +kernel), List.mem_of_getElem? (i := 452) (by decide +kernel)⟩
def lw_privs_1 : List (MethodName × Nat) := [(⟨"NoticeMarket", "isCampaign", "(I)Z"⟩, 17), (⟨"NoticeMarket", "closeTick", "()V"⟩, 17), (⟨"NoticeMarket", "goOneTick", "()V"⟩, 17), (⟨"NoticeMarket", "closeDay", "()V"⟩, 17), (⟨"NoticeMarket", "freeLateSales", "()V"⟩, 17), (⟨"NoticeMarket", "freeHeld", "(LNoticeMarket$Sale;)V"⟩, 17), (⟨"NoticeMarket", "lessenDay", "(LNoticeMarket$Sale;I)V"⟩, 17), (⟨"NoticeMarket", "setThrottles", "()V"⟩, 17), (⟨"NoticeMarket", "isPage", "(I)Z"⟩, 17), (⟨"NoticeMarket", "seekBest", "(ILNoticeMarket$Page;)J"⟩, 17), (⟨"NoticeMarket", "hindrance", "(IILNoticeMarket$Page;)I"⟩, 17), (⟨"NoticeMarket", "drawn", "(II)I"⟩, 17), (⟨"NoticeMarket", "offer", "(ILNoticeMarket$Page;)V"⟩, 17), (⟨"NoticeMarket$Campaign", "dueBy", "(I)J"⟩, 16), (⟨"NoticeMarket$Giver", "fillFrom", "(IJJ)V"⟩, 9), (⟨"NoticeMarket$Giver", "keepIfBetter", "(J)V"⟩, 9)]
theorem lw_r1 : ∀ q ∈ lw_privs_1, lw_okq q := List.forall_mem_cons.mpr ⟨lw_p0, List.forall_mem_cons.mpr ⟨lw_p1, List.forall_mem_cons.mpr ⟨lw_p2, List.forall_mem_cons.mpr ⟨lw_p3, List.forall_mem_cons.mpr ⟨lw_p4, List.forall_mem_cons.mpr ⟨lw_p5, List.forall_mem_cons.mpr ⟨lw_p6, List.forall_mem_cons.mpr ⟨lw_p7, List.forall_mem_cons.mpr ⟨lw_p8, List.forall_mem_cons.mpr ⟨lw_p9, List.forall_mem_cons.mpr ⟨lw_p10, List.forall_mem_cons.mpr ⟨lw_p11, List.forall_mem_cons.mpr ⟨lw_p12, List.forall_mem_cons.mpr ⟨lw_p13, List.forall_mem_cons.mpr ⟨lw_p14, List.forall_mem_cons.mpr ⟨lw_p15, fun _ h => absurd h List.not_mem_nil⟩⟩⟩⟩⟩⟩⟩⟩⟩⟩⟩⟩⟩⟩⟩⟩
theorem lw_p16 : lw_okq (⟨"NoticeMarket$Giver", "mostFrom", "(IJ)J"⟩, 9) := ⟨⟨by decide +kernel, by decide +kernel⟩, List.mem_of_getElem? (i := 24) (by decide +kernel), List.mem_of_getElem? (i := 455) (by decide +kernel), List.mem_of_getElem? (i := 456) (by decide +kernel)⟩
theorem lw_p17 : lw_okq (⟨"NoticeMarket$Giver", "greatestAt", "(IJ)J"⟩, 9) := ⟨⟨by decide +kernel, by decide +kernel⟩, List.mem_of_getElem? (i := 24) (by decide +kernel), List.mem_of_getElem? (i := 459) (by decide +kernel), List.mem_of_getElem? (i := 460) (by decide +kernel)⟩
theorem lw_p18 : lw_okq (⟨"NoticeMarket$Giver", "tryAt", "(IIJJ)V"⟩, 9) := ⟨⟨by decide +kernel, by decide +kernel⟩, List.mem_of_getElem? (i := 24) (by decide +kernel), List.mem_of_getElem? (i := 463) (by decide +kernel), List.mem_of_getElem? (i := 464) (by decide +kernel)⟩
theorem lw_p19 : lw_okq (⟨"NoticeMarket", "keepGivenAndPrices", "(LNoticeMarket$Page;)V"⟩, 17) := ⟨⟨by decide +kernel, by decide +kernel⟩, List.mem_of_getElem? (i := 10) (by decide +kernel), List.mem_of_getElem? (i := 471) (by decide +kernel), List.mem_of_getElem? (i := 472) (by decide +kernel)⟩
theorem lw_p20 : lw_okq (⟨"NoticeMarket", "priceAt", "(ILNoticeMarket$Page;J)I"⟩, 17) := ⟨⟨by decide +kernel, by decide +kernel⟩, List.mem_of_getElem? (i := 10) (by decide +kernel), List.mem_of_getElem? (i := 476) (by decide +kernel), List.mem_of_getElem? (i := 477) (by decide +kernel)⟩
theorem lw_p21 : lw_okq (⟨"NoticeMarket", "sell", "(III)V"⟩, 17) := ⟨⟨by decide +kernel, by decide +kernel⟩, List.mem_of_getElem? (i := 10) (by decide +kernel), List.mem_of_getElem? (i := 492) (by decide +kernel), List.mem_of_getElem? (i := 493) (by decide +kernel)⟩
theorem lw_p22 : lw_okq (⟨"NoticeMarket", "hold", "(LNoticeMarket$Sale;)V"⟩, 17) := ⟨⟨by decide +kernel, by decide +kernel⟩, List.mem_of_getElem? (i := 10) (by decide +kernel), List.mem_of_getElem? (i := 550) (by decide +kernel), List.mem_of_getElem? (i := 551) (by decide +kernel)⟩
theorem lw_p23 : lw_okq (⟨"NoticeMarket", "spend", "(LNoticeMarket$Sale;)V"⟩, 17) := ⟨⟨by decide +kernel, by decide +kernel⟩, List.mem_of_getElem? (i := 10) (by decide +kernel), List.mem_of_getElem? (i := 554) (by decide +kernel), List.mem_of_getElem? (i := 555) (by decide +kernel)⟩
theorem lw_p24 : lw_okq (⟨"NoticeMarket", "addSpent", "(LNoticeMarket$Sale;I)V"⟩, 17) := ⟨⟨by decide +kernel, by decide +kernel⟩, List.mem_of_getElem? (i := 10) (by decide +kernel), List.mem_of_getElem? (i := 558) (by decide +kernel), List.mem_of_getElem? (i := 559) (by decide +kernel)⟩
theorem lw_p25 : lw_okq (⟨"NoticeMarket", "isSale", "(I)Z"⟩, 17) := ⟨⟨by decide +kernel, by decide +kernel⟩, List.mem_of_getElem? (i := 10) (by decide +kernel), List.mem_of_getElem? (i := 579) (by decide +kernel), List.mem_of_getElem? (i := 580) (by decide +kernel)⟩
theorem lw_p26 : lw_okq (⟨"NoticeMarket", "spendHeld", "(LNoticeMarket$Sale;)V"⟩, 17) := ⟨⟨by decide +kernel, by decide +kernel⟩, List.mem_of_getElem? (i := 10) (by decide +kernel), List.mem_of_getElem? (i := 587) (by decide +kernel), List.mem_of_getElem? (i := 588) (by decide +kernel)⟩
theorem lw_p27 : lw_okq (⟨"NoticeMarket", "givePaidBack", "(LNoticeMarket$Sale;)V"⟩, 17) := ⟨⟨by decide +kernel, by decide +kernel⟩, List.mem_of_getElem? (i := 10) (by decide +kernel), List.mem_of_getElem? (i := 595) (by decide +kernel), List.mem_of_getElem? (i := 596) (by decide +kernel)⟩
theorem lw_p28 : lw_okq (⟨"NoticeMarket", "uncount", "(LNoticeMarket$Sale;)V"⟩, 17) := ⟨⟨by decide +kernel, by decide +kernel⟩, List.mem_of_getElem? (i := 10) (by decide +kernel), List.mem_of_getElem? (i := 599) (by decide +kernel), List.mem_of_getElem? (i := 600) (by decide +kernel)⟩
theorem lw_p29 : lw_okq (⟨"NoticeMarketModel", "isCampaign", "(I)Z"⟩, 51) := ⟨⟨by decide +kernel, by decide +kernel⟩, List.mem_of_getElem? (i := 625) (by decide +kernel), List.mem_of_getElem? (i := 808) (by decide +kernel), List.mem_of_getElem? (i := 809) (by decide +kernel)⟩
theorem lw_p30 : lw_okq (⟨"NoticeMarketModel", "goesBy", "()V"⟩, 51) := ⟨⟨by decide +kernel, by decide +kernel⟩, List.mem_of_getElem? (i := 625) (by decide +kernel), List.mem_of_getElem? (i := 841) (by decide +kernel), List.mem_of_getElem? (i := 842) (by decide +kernel)⟩
theorem lw_p31 : lw_okq (⟨"NoticeMarketModel", "sum", "(IIZZ)I"⟩, 51) := ⟨⟨by decide +kernel, by decide +kernel⟩, List.mem_of_getElem? (i := 625) (by decide +kernel), List.mem_of_getElem? (i := 845) (by decide +kernel), List.mem_of_getElem? (i := 846) (by decide +kernel)⟩
def lw_privs_2 : List (MethodName × Nat) := [(⟨"NoticeMarket$Giver", "mostFrom", "(IJ)J"⟩, 9), (⟨"NoticeMarket$Giver", "greatestAt", "(IJ)J"⟩, 9), (⟨"NoticeMarket$Giver", "tryAt", "(IIJJ)V"⟩, 9), (⟨"NoticeMarket", "keepGivenAndPrices", "(LNoticeMarket$Page;)V"⟩, 17), (⟨"NoticeMarket", "priceAt", "(ILNoticeMarket$Page;J)I"⟩, 17), (⟨"NoticeMarket", "sell", "(III)V"⟩, 17), (⟨"NoticeMarket", "hold", "(LNoticeMarket$Sale;)V"⟩, 17), (⟨"NoticeMarket", "spend", "(LNoticeMarket$Sale;)V"⟩, 17), (⟨"NoticeMarket", "addSpent", "(LNoticeMarket$Sale;I)V"⟩, 17), (⟨"NoticeMarket", "isSale", "(I)Z"⟩, 17), (⟨"NoticeMarket", "spendHeld", "(LNoticeMarket$Sale;)V"⟩, 17), (⟨"NoticeMarket", "givePaidBack", "(LNoticeMarket$Sale;)V"⟩, 17), (⟨"NoticeMarket", "uncount", "(LNoticeMarket$Sale;)V"⟩, 17), (⟨"NoticeMarketModel", "isCampaign", "(I)Z"⟩, 51), (⟨"NoticeMarketModel", "goesBy", "()V"⟩, 51), (⟨"NoticeMarketModel", "sum", "(IIZZ)I"⟩, 51)]
theorem lw_r2 : ∀ q ∈ lw_privs_2, lw_okq q := List.forall_mem_cons.mpr ⟨lw_p16, List.forall_mem_cons.mpr ⟨lw_p17, List.forall_mem_cons.mpr ⟨lw_p18, List.forall_mem_cons.mpr ⟨lw_p19, List.forall_mem_cons.mpr ⟨lw_p20, List.forall_mem_cons.mpr ⟨lw_p21, List.forall_mem_cons.mpr ⟨lw_p22, List.forall_mem_cons.mpr ⟨lw_p23, List.forall_mem_cons.mpr ⟨lw_p24, List.forall_mem_cons.mpr ⟨lw_p25, List.forall_mem_cons.mpr ⟨lw_p26, List.forall_mem_cons.mpr ⟨lw_p27, List.forall_mem_cons.mpr ⟨lw_p28, List.forall_mem_cons.mpr ⟨lw_p29, List.forall_mem_cons.mpr ⟨lw_p30, List.forall_mem_cons.mpr ⟨lw_p31, fun _ h => absurd h List.not_mem_nil⟩⟩⟩⟩⟩⟩⟩⟩⟩⟩⟩⟩⟩⟩⟩⟩
theorem lw_p32 : lw_okq (⟨"NoticeMarketModel", "coins", "(IZ)I"⟩, 51) := ⟨⟨by decide +kernel, by decide +kernel⟩, List.mem_of_getElem? (i := 625) (by decide +kernel), List.mem_of_getElem? (i := 849) (by decide +kernel), List.mem_of_getElem? (i := 850) (by decide +kernel)⟩
theorem lw_p33 : lw_okq (⟨"NoticeMarketModel", "isPage", "(I)Z"⟩, 51) := ⟨⟨by decide +kernel, by decide +kernel⟩, List.mem_of_getElem? (i := 625) (by decide +kernel), List.mem_of_getElem? (i := 858) (by decide +kernel), List.mem_of_getElem? (i := 859) (by decide +kernel)⟩
theorem lw_p34 : lw_okq (⟨"NoticeMarketModel", "find", "(II)J"⟩, 51) := ⟨⟨by decide +kernel, by decide +kernel⟩, List.mem_of_getElem? (i := 625) (by decide +kernel), List.mem_of_getElem? (i := 862) (by decide +kernel), List.mem_of_getElem? (i := 863) (by decide +kernel)⟩
theorem lw_p35 : lw_okq (⟨"NoticeMarketModel", "gather", "(II)V"⟩, 51) := ⟨⟨by decide +kernel, by decide +kernel⟩, List.mem_of_getElem? (i := 625) (by decide +kernel), List.mem_of_getElem? (i := 866) (by decide +kernel), List.mem_of_getElem? (i := 867) (by decide +kernel)⟩
theorem lw_p36 : lw_okq (⟨"NoticeMarketModel", "hinders", "(III)I"⟩, 51) := ⟨⟨by decide +kernel, by decide +kernel⟩, List.mem_of_getElem? (i := 625) (by decide +kernel), List.mem_of_getElem? (i := 870) (by decide +kernel), List.mem_of_getElem? (i := 871) (by decide +kernel)⟩
theorem lw_p37 : lw_okq (⟨"NoticeMarketModel", "leftOfDay", "(I)I"⟩, 51) := ⟨⟨by decide +kernel, by decide +kernel⟩, List.mem_of_getElem? (i := 625) (by decide +kernel), List.mem_of_getElem? (i := 874) (by decide +kernel), List.mem_of_getElem? (i := 875) (by decide +kernel)⟩
theorem lw_p38 : lw_okq (⟨"NoticeMarketModel", "leftInAll", "(I)I"⟩, 51) := ⟨⟨by decide +kernel, by decide +kernel⟩, List.mem_of_getElem? (i := 625) (by decide +kernel), List.mem_of_getElem? (i := 878) (by decide +kernel), List.mem_of_getElem? (i := 879) (by decide +kernel)⟩
theorem lw_p39 : lw_okq (⟨"NoticeMarketModel", "drawOf", "(II)I"⟩, 51) := ⟨⟨by decide +kernel, by decide +kernel⟩, List.mem_of_getElem? (i := 625) (by decide +kernel), List.mem_of_getElem? (i := 882) (by decide +kernel), List.mem_of_getElem? (i := 883) (by decide +kernel)⟩
theorem lw_p40 : lw_okq (⟨"NoticeMarketModel", "worthOf", "(II)J"⟩, 51) := ⟨⟨by decide +kernel, by decide +kernel⟩, List.mem_of_getElem? (i := 625) (by decide +kernel), List.mem_of_getElem? (i := 888) (by decide +kernel), List.mem_of_getElem? (i := 889) (by decide +kernel)⟩
theorem lw_p41 : lw_okq (⟨"NoticeMarketModel", "presses", "(II)I"⟩, 51) := ⟨⟨by decide +kernel, by decide +kernel⟩, List.mem_of_getElem? (i := 625) (by decide +kernel), List.mem_of_getElem? (i := 893) (by decide +kernel), List.mem_of_getElem? (i := 894) (by decide +kernel)⟩
theorem lw_p42 : lw_okq (⟨"NoticeMarketModel", "showings", "(II)I"⟩, 51) := ⟨⟨by decide +kernel, by decide +kernel⟩, List.mem_of_getElem? (i := 625) (by decide +kernel), List.mem_of_getElem? (i := 897) (by decide +kernel), List.mem_of_getElem? (i := 898) (by decide +kernel)⟩
theorem lw_p43 : lw_okq (⟨"NoticeMarketModel", "isBehind", "(I)Z"⟩, 51) := ⟨⟨by decide +kernel, by decide +kernel⟩, List.mem_of_getElem? (i := 625) (by decide +kernel), List.mem_of_getElem? (i := 901) (by decide +kernel), List.mem_of_getElem? (i := 902) (by decide +kernel)⟩
theorem lw_p44 : lw_okq (⟨"NoticeMarketModel", "reckon", "(I)V"⟩, 51) := ⟨⟨by decide +kernel, by decide +kernel⟩, List.mem_of_getElem? (i := 625) (by decide +kernel), List.mem_of_getElem? (i := 906) (by decide +kernel), List.mem_of_getElem? (i := 907) (by decide +kernel)⟩
theorem lw_p45 : lw_okq (⟨"NoticeMarketModel", "go", "(ZI)V"⟩, 51) := ⟨⟨by decide +kernel, by decide +kernel⟩, List.mem_of_getElem? (i := 625) (by decide +kernel), List.mem_of_getElem? (i := 910) (by decide +kernel), List.mem_of_getElem? (i := 911) (by decide +kernel)⟩
theorem lw_p46 : lw_okq (⟨"NoticeMarketModel", "fits", "(III)Z"⟩, 51) := ⟨⟨by decide +kernel, by decide +kernel⟩, List.mem_of_getElem? (i := 625) (by decide +kernel), List.mem_of_getElem? (i := 914) (by decide +kernel), List.mem_of_getElem? (i := 915) (by decide +kernel)⟩
theorem lw_p47 : lw_okq (⟨"NoticeMarketModel", "priceOf", "(IIIJ)I"⟩, 51) := ⟨⟨by decide +kernel, by decide +kernel⟩, List.mem_of_getElem? (i := 625) (by decide +kernel), List.mem_of_getElem? (i := 918) (by decide +kernel), List.mem_of_getElem? (i := 919) (by decide +kernel)⟩
def lw_privs_3 : List (MethodName × Nat) := [(⟨"NoticeMarketModel", "coins", "(IZ)I"⟩, 51), (⟨"NoticeMarketModel", "isPage", "(I)Z"⟩, 51), (⟨"NoticeMarketModel", "find", "(II)J"⟩, 51), (⟨"NoticeMarketModel", "gather", "(II)V"⟩, 51), (⟨"NoticeMarketModel", "hinders", "(III)I"⟩, 51), (⟨"NoticeMarketModel", "leftOfDay", "(I)I"⟩, 51), (⟨"NoticeMarketModel", "leftInAll", "(I)I"⟩, 51), (⟨"NoticeMarketModel", "drawOf", "(II)I"⟩, 51), (⟨"NoticeMarketModel", "worthOf", "(II)J"⟩, 51), (⟨"NoticeMarketModel", "presses", "(II)I"⟩, 51), (⟨"NoticeMarketModel", "showings", "(II)I"⟩, 51), (⟨"NoticeMarketModel", "isBehind", "(I)Z"⟩, 51), (⟨"NoticeMarketModel", "reckon", "(I)V"⟩, 51), (⟨"NoticeMarketModel", "go", "(ZI)V"⟩, 51), (⟨"NoticeMarketModel", "fits", "(III)Z"⟩, 51), (⟨"NoticeMarketModel", "priceOf", "(IIIJ)I"⟩, 51)]
theorem lw_r3 : ∀ q ∈ lw_privs_3, lw_okq q := List.forall_mem_cons.mpr ⟨lw_p32, List.forall_mem_cons.mpr ⟨lw_p33, List.forall_mem_cons.mpr ⟨lw_p34, List.forall_mem_cons.mpr ⟨lw_p35, List.forall_mem_cons.mpr ⟨lw_p36, List.forall_mem_cons.mpr ⟨lw_p37, List.forall_mem_cons.mpr ⟨lw_p38, List.forall_mem_cons.mpr ⟨lw_p39, List.forall_mem_cons.mpr ⟨lw_p40, List.forall_mem_cons.mpr ⟨lw_p41, List.forall_mem_cons.mpr ⟨lw_p42, List.forall_mem_cons.mpr ⟨lw_p43, List.forall_mem_cons.mpr ⟨lw_p44, List.forall_mem_cons.mpr ⟨lw_p45, List.forall_mem_cons.mpr ⟨lw_p46, List.forall_mem_cons.mpr ⟨lw_p47, fun _ h => absurd h List.not_mem_nil⟩⟩⟩⟩⟩⟩⟩⟩⟩⟩⟩⟩⟩⟩⟩⟩
theorem lw_p48 : lw_okq (⟨"NoticeMarketModel", "sumWithout", "(I)J"⟩, 51) := ⟨⟨by decide +kernel, by decide +kernel⟩, List.mem_of_getElem? (i := 625) (by decide +kernel), List.mem_of_getElem? (i := 922) (by decide +kernel), List.mem_of_getElem? (i := 923) (by decide +kernel)⟩
theorem lw_p49 : lw_okq (⟨"NoticeMarketModel", "sell", "(III)V"⟩, 51) := ⟨⟨by decide +kernel, by decide +kernel⟩, List.mem_of_getElem? (i := 625) (by decide +kernel), List.mem_of_getElem? (i := 927) (by decide +kernel), List.mem_of_getElem? (i := 928) (by decide +kernel)⟩
theorem lw_p50 : lw_okq (⟨"NoticeMarketModel", "isSale", "(I)Z"⟩, 51) := ⟨⟨by decide +kernel, by decide +kernel⟩, List.mem_of_getElem? (i := 625) (by decide +kernel), List.mem_of_getElem? (i := 948) (by decide +kernel), List.mem_of_getElem? (i := 949) (by decide +kernel)⟩
def lw_privs_4 : List (MethodName × Nat) := [(⟨"NoticeMarketModel", "sumWithout", "(I)J"⟩, 51), (⟨"NoticeMarketModel", "sell", "(III)V"⟩, 51), (⟨"NoticeMarketModel", "isSale", "(I)Z"⟩, 51)]
theorem lw_r4 : ∀ q ∈ lw_privs_4, lw_okq q := List.forall_mem_cons.mpr ⟨lw_p48, List.forall_mem_cons.mpr ⟨lw_p49, List.forall_mem_cons.mpr ⟨lw_p50, fun _ h => absurd h List.not_mem_nil⟩⟩⟩
def lw_privs : List (MethodName × Nat) := lw_privs_1 ++ (lw_privs_2 ++ (lw_privs_3 ++ (lw_privs_4)))
def lw_tbl : List Cond := k2_sels lw_privs ++ tables_1
theorem lw_privs_ok : ∀ q ∈ lw_privs, lw_okq q := by
  show ∀ q ∈ lw_privs_1 ++ (lw_privs_2 ++ (lw_privs_3 ++ (lw_privs_4))), lw_okq q
  exact List.forall_mem_append.mpr ⟨lw_r1, List.forall_mem_append.mpr ⟨lw_r2, List.forall_mem_append.mpr ⟨lw_r3, lw_r4⟩⟩⟩
end
section
def RX0 : String := "NoticeMarket$Campaign"
def TX0 : u_T := fun k => match k with
  | 0 => ("NoticeMarket$Campaign", "sort", "I", true)
  | 1 => ("NoticeMarket$Campaign", "paysByPress", "Z", true)
  | 2 => ("NoticeMarket$Campaign", "mustHave", "I", true)
  | 3 => ("NoticeMarket$Campaign", "mustLack", "I", true)
  | 4 => ("NoticeMarket$Campaign", "bid", "I", true)
  | 5 => ("NoticeMarket$Campaign", "tally", "LNoticeMarket$Tally;", true)
  | 6 => ("NoticeMarket$Campaign", "dayBudget", "I", false)
  | 7 => ("NoticeMarket$Campaign", "allBudget", "I", false)
  | 8 => ("NoticeMarket$Campaign", "mostShowings", "I", false)
  | 9 => ("NoticeMarket$Campaign", "capSpan", "I", false)
  | 10 => ("NoticeMarket$Campaign", "throttle", "I", false)
  | 11 => ("NoticeMarket$Campaign", "stopped", "I", false)
  | 12 => ("NoticeMarket$Campaign", "apartFrom", "J", false)
  | 13 => ("NoticeMarket$Campaign", "promisedMany", "I", false)
  | 14 => ("NoticeMarket$Campaign", "promisedAt", "I", false)
  | _ => ("NoticeMarket$Campaign", "promiseEnd", "J", false)
def tyX0 : Nat → FieldType := fun k => match k with
  | 0 => .int
  | 1 => .boolean
  | 2 => .int
  | 3 => .int
  | 4 => .int
  | 5 => .object "NoticeMarket$Tally"
  | 6 => .int
  | 7 => .int
  | 8 => .int
  | 9 => .int
  | 10 => .int
  | 11 => .int
  | 12 => .long
  | 13 => .int
  | 14 => .int
  | _ => .long
abbrev wsX00 : List Cond := u_ws RX0 TX0 16
theorem nmX0 : ∀ a, a < 16 → ∀ b, b < 16 → a ≠ b → (TX0 a).2.1 ≠ (TX0 b).2.1 := by decide +kernel
theorem tyX0_ok : ∀ k, k < 16 → parseFieldDescriptor (TX0 k).2.2.1 = some (tyX0 k) := by decide +kernel
abbrev cX0_init : ByteArray := prog_2_method_1_code
def yX0_init : MethodName := ⟨RX0, "<init>", "(III)V"⟩
abbrev cX0_isApartFrom : ByteArray := prog_2_method_2_code
def yX0_isApartFrom : MethodName := ⟨RX0, "isApartFrom", "(I)Z"⟩
abbrev cX0_setApart : ByteArray := prog_2_method_3_code
def yX0_setApart : MethodName := ⟨RX0, "setApart", "(IZ)V"⟩
abbrev cX0_takePromise : ByteArray := prog_2_method_4_code
def yX0_takePromise : MethodName := ⟨RX0, "takePromise", "(IIJ)V"⟩
abbrev cX0_wants : ByteArray := prog_2_method_5_code
def yX0_wants : MethodName := ⟨RX0, "wants", "(I)Z"⟩
abbrev cX0_leftToday : ByteArray := prog_2_method_6_code
def yX0_leftToday : MethodName := ⟨RX0, "leftToday", "()I"⟩
abbrev cX0_leftInAll : ByteArray := prog_2_method_7_code
def yX0_leftInAll : MethodName := ⟨RX0, "leftInAll", "()I"⟩
abbrev cX0_isBehind : ByteArray := prog_2_method_8_code
def yX0_isBehind : MethodName := ⟨RX0, "isBehind", "(I)Z"⟩
abbrev cX0_dueBy : ByteArray := prog_2_method_9_code
def yX0_dueBy : MethodName := ⟨RX0, "dueBy", "(I)J"⟩
abbrev cX0_worthAt : ByteArray := prog_2_method_10_code
def yX0_worthAt : MethodName := ⟨RX0, "worthAt", "(IZ)J"⟩
abbrev cX0_setThrottle : ByteArray := prog_2_method_11_code
def yX0_setThrottle : MethodName := ⟨RX0, "setThrottle", "(I)V"⟩
def RX1 : String := "NoticeMarket$Giver"
def TX1 : u_T := fun k => match k with
  | 0 => ("NoticeMarket$Giver", "chosen", "[I", true)
  | 1 => ("NoticeMarket$Giver", "trial", "[I", true)
  | 2 => ("NoticeMarket$Giver", "weights", "[[J", true)
  | 3 => ("NoticeMarket$Giver", "order", "[[I", true)
  | 4 => ("NoticeMarket$Giver", "apartFrom", "[J", true)
  | 5 => ("NoticeMarket$Giver", "places", "I", false)
  | 6 => ("NoticeMarket$Giver", "offered", "I", false)
  | 7 => ("NoticeMarket$Giver", "offeredSet", "J", false)
  | _ => ("NoticeMarket$Giver", "bestWeight", "J", false)
def tyX1 : Nat → FieldType := fun k => match k with
  | 0 => .array .int
  | 1 => .array .int
  | 2 => .array (.array .long)
  | 3 => .array (.array .int)
  | 4 => .array .long
  | 5 => .int
  | 6 => .int
  | 7 => .long
  | _ => .long
abbrev wsX10 : List Cond := u_ws RX1 TX1 9
theorem nmX1 : ∀ a, a < 9 → ∀ b, b < 9 → a ≠ b → (TX1 a).2.1 ≠ (TX1 b).2.1 := by decide +kernel
theorem tyX1_ok : ∀ k, k < 9 → parseFieldDescriptor (TX1 k).2.2.1 = some (tyX1 k) := by decide +kernel
abbrev cX1_init : ByteArray := prog_3_method_1_code
def yX1_init : MethodName := ⟨RX1, "<init>", "()V"⟩
abbrev cX1_startFor : ByteArray := prog_3_method_2_code
def yX1_startFor : MethodName := ⟨RX1, "startFor", "(I)V"⟩
abbrev cX1_addWorth : ByteArray := prog_3_method_3_code
def yX1_addWorth : MethodName := ⟨RX1, "addWorth", "(IIJ)V"⟩
abbrev cX1_addCampaign : ByteArray := prog_3_method_4_code
def yX1_addCampaign : MethodName := ⟨RX1, "addCampaign", "(IJ)V"⟩
abbrev cX1_worthOf : ByteArray := prog_3_method_5_code
def yX1_worthOf : MethodName := ⟨RX1, "worthOf", "(II)J"⟩
abbrev cX1_bestSum : ByteArray := prog_3_method_6_code
def yX1_bestSum : MethodName := ⟨RX1, "bestSum", "()J"⟩
abbrev cX1_seek : ByteArray := prog_3_method_7_code
def yX1_seek : MethodName := ⟨RX1, "seek", "(I)J"⟩
abbrev cX1_fillFrom : ByteArray := prog_3_method_8_code
def yX1_fillFrom : MethodName := ⟨RX1, "fillFrom", "(IJJ)V"⟩
abbrev cX1_tryAt : ByteArray := prog_3_method_9_code
def yX1_tryAt : MethodName := ⟨RX1, "tryAt", "(IIJJ)V"⟩
abbrev cX1_keepIfBetter : ByteArray := prog_3_method_10_code
def yX1_keepIfBetter : MethodName := ⟨RX1, "keepIfBetter", "(J)V"⟩
abbrev cX1_mostFrom : ByteArray := prog_3_method_11_code
def yX1_mostFrom : MethodName := ⟨RX1, "mostFrom", "(IJ)J"⟩
abbrev cX1_greatestAt : ByteArray := prog_3_method_12_code
def yX1_greatestAt : MethodName := ⟨RX1, "greatestAt", "(IJ)J"⟩
def RX2 : String := "NoticeMarket$Page"
def TX2 : u_T := fun k => match k with
  | 0 => ("NoticeMarket$Page", "sizes", "[I", true)
  | 1 => ("NoticeMarket$Page", "places", "I", true)
  | 2 => ("NoticeMarket$Page", "earned", "I", false)
  | _ => ("NoticeMarket$Page", "shownNow", "J", false)
def tyX2 : Nat → FieldType := fun k => match k with
  | 0 => .array .int
  | 1 => .int
  | 2 => .int
  | _ => .long
abbrev wsX20 : List Cond := u_ws RX2 TX2 4
theorem nmX2 : ∀ a, a < 4 → ∀ b, b < 4 → a ≠ b → (TX2 a).2.1 ≠ (TX2 b).2.1 := by decide +kernel
theorem tyX2_ok : ∀ k, k < 4 → parseFieldDescriptor (TX2 k).2.2.1 = some (tyX2 k) := by decide +kernel
abbrev cX2_init : ByteArray := prog_4_method_1_code
def yX2_init : MethodName := ⟨RX2, "<init>", "(II)V"⟩
def RX3 : String := "NoticeMarket$Sale"
def TX3 : u_T := fun k => match k with
  | 0 => ("NoticeMarket$Sale", "soldAt", "I", true)
  | 1 => ("NoticeMarket$Sale", "reader", "I", true)
  | 2 => ("NoticeMarket$Sale", "page", "I", true)
  | 3 => ("NoticeMarket$Sale", "place", "I", true)
  | 4 => ("NoticeMarket$Sale", "campaign", "I", true)
  | 5 => ("NoticeMarket$Sale", "price", "I", false)
  | 6 => ("NoticeMarket$Sale", "state", "I", false)
  | 7 => ("NoticeMarket$Sale", "lastPress", "I", false)
  | 8 => ("NoticeMarket$Sale", "pressedAt", "I", false)
  | 9 => ("NoticeMarket$Sale", "paid", "I", false)
  | 10 => ("NoticeMarket$Sale", "held", "I", false)
  | _ => ("NoticeMarket$Sale", "earlier", "LNoticeMarket$Sale;", false)
def tyX3 : Nat → FieldType := fun k => match k with
  | 0 => .int
  | 1 => .int
  | 2 => .int
  | 3 => .int
  | 4 => .int
  | 5 => .int
  | 6 => .int
  | 7 => .int
  | 8 => .int
  | 9 => .int
  | 10 => .int
  | _ => .object "NoticeMarket$Sale"
abbrev wsX30 : List Cond := u_ws RX3 TX3 12
theorem nmX3 : ∀ a, a < 12 → ∀ b, b < 12 → a ≠ b → (TX3 a).2.1 ≠ (TX3 b).2.1 := by decide +kernel
theorem tyX3_ok : ∀ k, k < 12 → parseFieldDescriptor (TX3 k).2.2.1 = some (tyX3 k) := by decide +kernel
abbrev cX3_init : ByteArray := prog_5_method_1_code
def yX3_init : MethodName := ⟨RX3, "<init>", "(IIIII)V"⟩
def RX4 : String := "NoticeMarket$Tally"
def TX4 : u_T := fun k => match k with
  | 0 => ("NoticeMarket$Tally", "spent", "I", false)
  | 1 => ("NoticeMarket$Tally", "held", "I", false)
  | 2 => ("NoticeMarket$Tally", "usedToday", "I", false)
  | 3 => ("NoticeMarket$Tally", "shows", "I", false)
  | 4 => ("NoticeMarket$Tally", "showsNow", "I", false)
  | 5 => ("NoticeMarket$Tally", "presses", "I", false)
  | 6 => ("NoticeMarket$Tally", "pressesNow", "I", false)
  | _ => ("NoticeMarket$Tally", "newest", "LNoticeMarket$Sale;", false)
def tyX4 : Nat → FieldType := fun k => match k with
  | 0 => .int
  | 1 => .int
  | 2 => .int
  | 3 => .int
  | 4 => .int
  | 5 => .int
  | 6 => .int
  | _ => .object "NoticeMarket$Sale"
abbrev wsX40 : List Cond := u_ws RX4 TX4 8
theorem nmX4 : ∀ a, a < 8 → ∀ b, b < 8 → a ≠ b → (TX4 a).2.1 ≠ (TX4 b).2.1 := by decide +kernel
theorem tyX4_ok : ∀ k, k < 8 → parseFieldDescriptor (TX4 k).2.2.1 = some (tyX4 k) := by decide +kernel
abbrev cX4_init : ByteArray := prog_6_method_1_code
def yX4_init : MethodName := ⟨RX4, "<init>", "()V"⟩
abbrev cX4_addShowing : ByteArray := prog_6_method_2_code
def yX4_addShowing : MethodName := ⟨RX4, "addShowing", "(LNoticeMarket$Sale;)V"⟩
abbrev cX4_endTick : ByteArray := prog_6_method_3_code
def yX4_endTick : MethodName := ⟨RX4, "endTick", "()V"⟩
abbrev cX4_chanceOf : ByteArray := prog_6_method_4_code
def yX4_chanceOf : MethodName := ⟨RX4, "chanceOf", "(J)J"⟩
abbrev cX4_showsTo : ByteArray := prog_6_method_5_code
def yX4_showsTo : MethodName := ⟨RX4, "showsTo", "(II)I"⟩
def RX5 : String := "NoticeMarket"
def TX5 : u_T := fun k => match k with
  | 0 => ("NoticeMarket", "pages", "[LNoticeMarket$Page;", true)
  | 1 => ("NoticeMarket", "campaigns", "[LNoticeMarket$Campaign;", true)
  | 2 => ("NoticeMarket", "sales", "[LNoticeMarket$Sale;", true)
  | 3 => ("NoticeMarket", "readerMarks", "[I", true)
  | 4 => ("NoticeMarket", "giver", "LNoticeMarket$Giver;", true)
  | 5 => ("NoticeMarket", "given", "[I", true)
  | 6 => ("NoticeMarket", "prices", "[I", true)
  | 7 => ("NoticeMarket", "pageCount", "I", false)
  | 8 => ("NoticeMarket", "campaignCount", "I", false)
  | 9 => ("NoticeMarket", "saleCount", "I", false)
  | 10 => ("NoticeMarket", "backCount", "I", false)
  | 11 => ("NoticeMarket", "spentInAll", "I", false)
  | 12 => ("NoticeMarket", "now", "I", false)
  | 13 => ("NoticeMarket", "priceRule", "I", false)
  | 14 => ("NoticeMarket", "paceTicks", "I", false)
  | 15 => ("NoticeMarket", "pressWait", "I", false)
  | _ => ("NoticeMarket", "noneFreeBy", "I", false)
def tyX5 : Nat → FieldType := fun k => match k with
  | 0 => .array (.object "NoticeMarket$Page")
  | 1 => .array (.object "NoticeMarket$Campaign")
  | 2 => .array (.object "NoticeMarket$Sale")
  | 3 => .array .int
  | 4 => .object "NoticeMarket$Giver"
  | 5 => .array .int
  | 6 => .array .int
  | 7 => .int
  | 8 => .int
  | 9 => .int
  | 10 => .int
  | 11 => .int
  | 12 => .int
  | 13 => .int
  | 14 => .int
  | 15 => .int
  | _ => .int
abbrev wsX50 : List Cond := u_ws RX5 TX5 17
theorem nmX5 : ∀ a, a < 17 → ∀ b, b < 17 → a ≠ b → (TX5 a).2.1 ≠ (TX5 b).2.1 := by decide +kernel
theorem tyX5_ok : ∀ k, k < 17 → parseFieldDescriptor (TX5 k).2.2.1 = some (tyX5 k) := by decide +kernel
abbrev cX5_init : ByteArray := prog_1_method_1_code
def yX5_init : MethodName := ⟨RX5, "<init>", "()V"⟩
abbrev cX5_page : ByteArray := prog_1_method_2_code
def yX5_page : MethodName := ⟨RX5, "page", "(I)I"⟩
abbrev cX5_marks : ByteArray := prog_1_method_3_code
def yX5_marks : MethodName := ⟨RX5, "marks", "(II)I"⟩
abbrev cX5_campaign : ByteArray := prog_1_method_4_code
def yX5_campaign : MethodName := ⟨RX5, "campaign", "(III)I"⟩
abbrev cX5_budget : ByteArray := prog_1_method_5_code
def yX5_budget : MethodName := ⟨RX5, "budget", "(III)I"⟩
abbrev cX5_cap : ByteArray := prog_1_method_6_code
def yX5_cap : MethodName := ⟨RX5, "cap", "(III)I"⟩
abbrev cX5_apart : ByteArray := prog_1_method_7_code
def yX5_apart : MethodName := ⟨RX5, "apart", "(III)I"⟩
abbrev cX5_promise : ByteArray := prog_1_method_8_code
def yX5_promise : MethodName := ⟨RX5, "promise", "(III)I"⟩
abbrev cX5_stop : ByteArray := prog_1_method_9_code
def yX5_stop : MethodName := ⟨RX5, "stop", "(II)I"⟩
abbrev cX5_rule : ByteArray := prog_1_method_10_code
def yX5_rule : MethodName := ⟨RX5, "rule", "(I)I"⟩
abbrev cX5_pace : ByteArray := prog_1_method_11_code
def yX5_pace : MethodName := ⟨RX5, "pace", "(II)I"⟩
abbrev cX5_tick : ByteArray := prog_1_method_12_code
def yX5_tick : MethodName := ⟨RX5, "tick", "(I)I"⟩
abbrev cX5_come : ByteArray := prog_1_method_13_code
def yX5_come : MethodName := ⟨RX5, "come", "(II)I"⟩
abbrev cX5_why : ByteArray := prog_1_method_14_code
def yX5_why : MethodName := ⟨RX5, "why", "(III)I"⟩
abbrev cX5_best : ByteArray := prog_1_method_15_code
def yX5_best : MethodName := ⟨RX5, "best", "(II)J"⟩
abbrev cX5_give : ByteArray := prog_1_method_16_code
def yX5_give : MethodName := ⟨RX5, "give", "(III)I"⟩
abbrev cX5_sale : ByteArray := prog_1_method_17_code
def yX5_sale : MethodName := ⟨RX5, "sale", "(II)I"⟩
abbrev cX5_press : ByteArray := prog_1_method_18_code
def yX5_press : MethodName := ⟨RX5, "press", "(I)I"⟩
abbrev cX5_refund : ByteArray := prog_1_method_19_code
def yX5_refund : MethodName := ⟨RX5, "refund", "(I)I"⟩
abbrev cX5_told : ByteArray := prog_1_method_20_code
def yX5_told : MethodName := ⟨RX5, "told", "(II)I"⟩
abbrev cX5_chance : ByteArray := prog_1_method_21_code
def yX5_chance : MethodName := ⟨RX5, "chance", "(I)I"⟩
abbrev cX5_draw : ByteArray := prog_1_method_22_code
def yX5_draw : MethodName := ⟨RX5, "draw", "(II)I"⟩
abbrev cX5_income : ByteArray := prog_1_method_23_code
def yX5_income : MethodName := ⟨RX5, "income", "(I)I"⟩
abbrev cX5_count : ByteArray := prog_1_method_24_code
def yX5_count : MethodName := ⟨RX5, "count", "(I)I"⟩
abbrev cX5_isWithin : ByteArray := prog_1_method_25_code
def yX5_isWithin : MethodName := ⟨RX5, "isWithin", "(III)Z"⟩
abbrev cX5_isPage : ByteArray := prog_1_method_26_code
def yX5_isPage : MethodName := ⟨RX5, "isPage", "(I)Z"⟩
abbrev cX5_isReader : ByteArray := prog_1_method_27_code
def yX5_isReader : MethodName := ⟨RX5, "isReader", "(I)Z"⟩
abbrev cX5_isCampaign : ByteArray := prog_1_method_28_code
def yX5_isCampaign : MethodName := ⟨RX5, "isCampaign", "(I)Z"⟩
abbrev cX5_isSale : ByteArray := prog_1_method_29_code
def yX5_isSale : MethodName := ⟨RX5, "isSale", "(I)Z"⟩
abbrev cX5_isSort : ByteArray := prog_1_method_30_code
def yX5_isSort : MethodName := ⟨RX5, "isSort", "(I)Z"⟩
abbrev cX5_isWish : ByteArray := prog_1_method_31_code
def yX5_isWish : MethodName := ⟨RX5, "isWish", "(I)Z"⟩
abbrev cX5_isBid : ByteArray := prog_1_method_32_code
def yX5_isBid : MethodName := ⟨RX5, "isBid", "(II)Z"⟩
abbrev cX5_placesIn : ByteArray := prog_1_method_33_code
def yX5_placesIn : MethodName := ⟨RX5, "placesIn", "(I)I"⟩
abbrev cX5_closeTick : ByteArray := prog_1_method_34_code
def yX5_closeTick : MethodName := ⟨RX5, "closeTick", "()V"⟩
abbrev cX5_goOneTick : ByteArray := prog_1_method_35_code
def yX5_goOneTick : MethodName := ⟨RX5, "goOneTick", "()V"⟩
abbrev cX5_closeDay : ByteArray := prog_1_method_36_code
def yX5_closeDay : MethodName := ⟨RX5, "closeDay", "()V"⟩
abbrev cX5_freeLateSales : ByteArray := prog_1_method_37_code
def yX5_freeLateSales : MethodName := ⟨RX5, "freeLateSales", "()V"⟩
abbrev cX5_setThrottles : ByteArray := prog_1_method_38_code
def yX5_setThrottles : MethodName := ⟨RX5, "setThrottles", "()V"⟩
abbrev cX5_drawn : ByteArray := prog_1_method_39_code
def yX5_drawn : MethodName := ⟨RX5, "drawn", "(II)I"⟩
abbrev cX5_hindrance : ByteArray := prog_1_method_40_code
def yX5_hindrance : MethodName := ⟨RX5, "hindrance", "(IILNoticeMarket$Page;)I"⟩
abbrev cX5_seekBest : ByteArray := prog_1_method_41_code
def yX5_seekBest : MethodName := ⟨RX5, "seekBest", "(ILNoticeMarket$Page;)J"⟩
abbrev cX5_offer : ByteArray := prog_1_method_42_code
def yX5_offer : MethodName := ⟨RX5, "offer", "(ILNoticeMarket$Page;)V"⟩
abbrev cX5_keepGivenAndPrices : ByteArray := prog_1_method_43_code
def yX5_keepGivenAndPrices : MethodName := ⟨RX5, "keepGivenAndPrices", "(LNoticeMarket$Page;)V"⟩
abbrev cX5_priceAt : ByteArray := prog_1_method_44_code
def yX5_priceAt : MethodName := ⟨RX5, "priceAt", "(ILNoticeMarket$Page;J)I"⟩
abbrev cX5_sell : ByteArray := prog_1_method_45_code
def yX5_sell : MethodName := ⟨RX5, "sell", "(III)V"⟩
abbrev cX5_hold : ByteArray := prog_1_method_46_code
def yX5_hold : MethodName := ⟨RX5, "hold", "(LNoticeMarket$Sale;)V"⟩
abbrev cX5_spend : ByteArray := prog_1_method_47_code
def yX5_spend : MethodName := ⟨RX5, "spend", "(LNoticeMarket$Sale;)V"⟩
abbrev cX5_addSpent : ByteArray := prog_1_method_48_code
def yX5_addSpent : MethodName := ⟨RX5, "addSpent", "(LNoticeMarket$Sale;I)V"⟩
abbrev cX5_spendHeld : ByteArray := prog_1_method_49_code
def yX5_spendHeld : MethodName := ⟨RX5, "spendHeld", "(LNoticeMarket$Sale;)V"⟩
abbrev cX5_freeHeld : ByteArray := prog_1_method_50_code
def yX5_freeHeld : MethodName := ⟨RX5, "freeHeld", "(LNoticeMarket$Sale;)V"⟩
abbrev cX5_givePaidBack : ByteArray := prog_1_method_51_code
def yX5_givePaidBack : MethodName := ⟨RX5, "givePaidBack", "(LNoticeMarket$Sale;)V"⟩
abbrev cX5_lessenDay : ByteArray := prog_1_method_52_code
def yX5_lessenDay : MethodName := ⟨RX5, "lessenDay", "(LNoticeMarket$Sale;I)V"⟩
abbrev cX5_uncount : ByteArray := prog_1_method_53_code
def yX5_uncount : MethodName := ⟨RX5, "uncount", "(LNoticeMarket$Sale;)V"⟩
def RX6 : String := "NoticeMarketModel"
def TX6 : u_T := fun k => match k with
  | 0 => ("NoticeMarketModel", "code", "I", false)
  | 1 => ("NoticeMarketModel", "tick", "I", false)
  | 2 => ("NoticeMarketModel", "rule", "I", false)
  | 3 => ("NoticeMarketModel", "pace", "I", false)
  | 4 => ("NoticeMarketModel", "wait", "I", false)
  | 5 => ("NoticeMarketModel", "pages", "I", false)
  | 6 => ("NoticeMarketModel", "places", "[I", true)
  | 7 => ("NoticeMarketModel", "sizes", "[I", true)
  | 8 => ("NoticeMarketModel", "marks", "[I", true)
  | 9 => ("NoticeMarketModel", "campaigns", "I", false)
  | 10 => ("NoticeMarketModel", "sort", "[I", true)
  | 11 => ("NoticeMarketModel", "pays", "[I", true)
  | 12 => ("NoticeMarketModel", "must", "[I", true)
  | 13 => ("NoticeMarketModel", "never", "[I", true)
  | 14 => ("NoticeMarketModel", "bid", "[I", true)
  | 15 => ("NoticeMarketModel", "dayBudget", "[I", true)
  | 16 => ("NoticeMarketModel", "allBudget", "[I", true)
  | 17 => ("NoticeMarketModel", "cap", "[I", true)
  | 18 => ("NoticeMarketModel", "span", "[I", true)
  | 19 => ("NoticeMarketModel", "throttle", "[I", true)
  | 20 => ("NoticeMarketModel", "stopped", "[Z", true)
  | 21 => ("NoticeMarketModel", "apart", "[Z", true)
  | 22 => ("NoticeMarketModel", "promised", "[I", true)
  | 23 => ("NoticeMarketModel", "promiseDay", "[I", true)
  | 24 => ("NoticeMarketModel", "promiseFrom", "[I", true)
  | 25 => ("NoticeMarketModel", "sales", "I", false)
  | 26 => ("NoticeMarketModel", "saleTick", "[I", true)
  | 27 => ("NoticeMarketModel", "saleReader", "[I", true)
  | 28 => ("NoticeMarketModel", "salePage", "[I", true)
  | 29 => ("NoticeMarketModel", "salePlace", "[I", true)
  | 30 => ("NoticeMarketModel", "saleOf", "[I", true)
  | 31 => ("NoticeMarketModel", "price", "[I", true)
  | 32 => ("NoticeMarketModel", "state", "[I", true)
  | 33 => ("NoticeMarketModel", "saleWait", "[I", true)
  | 34 => ("NoticeMarketModel", "pressTick", "[I", true)
  | 35 => ("NoticeMarketModel", "may", "I", false)
  | 36 => ("NoticeMarketModel", "mayBe", "[I", true)
  | 37 => ("NoticeMarketModel", "worth", "[J", true)
  | 38 => ("NoticeMarketModel", "mostAt", "[J", true)
  | 39 => ("NoticeMarketModel", "spots", "I", false)
  | 40 => ("NoticeMarketModel", "at", "[I", true)
  | 41 => ("NoticeMarketModel", "upTo", "[J", true)
  | 42 => ("NoticeMarketModel", "filledTo", "[I", true)
  | 43 => ("NoticeMarketModel", "bestSum", "J", false)
  | 44 => ("NoticeMarketModel", "bestFilled", "I", false)
  | 45 => ("NoticeMarketModel", "hasBest", "Z", false)
  | 46 => ("NoticeMarketModel", "given", "[I", true)
  | 47 => ("NoticeMarketModel", "order", "[I", true)
  | 48 => ("NoticeMarketModel", "next", "[I", true)
  | 49 => ("NoticeMarketModel", "toSell", "[I", true)
  | _ => ("NoticeMarketModel", "toPay", "[I", true)
def tyX6 : Nat → FieldType := fun k => match k with
  | 0 => .int
  | 1 => .int
  | 2 => .int
  | 3 => .int
  | 4 => .int
  | 5 => .int
  | 6 => .array .int
  | 7 => .array .int
  | 8 => .array .int
  | 9 => .int
  | 10 => .array .int
  | 11 => .array .int
  | 12 => .array .int
  | 13 => .array .int
  | 14 => .array .int
  | 15 => .array .int
  | 16 => .array .int
  | 17 => .array .int
  | 18 => .array .int
  | 19 => .array .int
  | 20 => .array .boolean
  | 21 => .array .boolean
  | 22 => .array .int
  | 23 => .array .int
  | 24 => .array .int
  | 25 => .int
  | 26 => .array .int
  | 27 => .array .int
  | 28 => .array .int
  | 29 => .array .int
  | 30 => .array .int
  | 31 => .array .int
  | 32 => .array .int
  | 33 => .array .int
  | 34 => .array .int
  | 35 => .int
  | 36 => .array .int
  | 37 => .array .long
  | 38 => .array .long
  | 39 => .int
  | 40 => .array .int
  | 41 => .array .long
  | 42 => .array .int
  | 43 => .long
  | 44 => .int
  | 45 => .boolean
  | 46 => .array .int
  | 47 => .array .int
  | 48 => .array .int
  | 49 => .array .int
  | _ => .array .int
abbrev wsX60 : List Cond := u_ws RX6 TX6 51
theorem nmX6 : ∀ a, a < 51 → ∀ b, b < 51 → a ≠ b → (TX6 a).2.1 ≠ (TX6 b).2.1 := by decide +kernel
theorem tyX6_ok : ∀ k, k < 51 → parseFieldDescriptor (TX6 k).2.2.1 = some (tyX6 k) := by decide +kernel
abbrev cX6_init : ByteArray := prog_8_method_1_code
def yX6_init : MethodName := ⟨RX6, "<init>", "()V"⟩
abbrev cX6_in : ByteArray := prog_8_method_3_code
def yX6_in : MethodName := ⟨RX6, "in", "(III)Z"⟩
abbrev cX6_isPage : ByteArray := prog_8_method_4_code
def yX6_isPage : MethodName := ⟨RX6, "isPage", "(I)Z"⟩
abbrev cX6_isReader : ByteArray := prog_8_method_5_code
def yX6_isReader : MethodName := ⟨RX6, "isReader", "(I)Z"⟩
abbrev cX6_isCampaign : ByteArray := prog_8_method_6_code
def yX6_isCampaign : MethodName := ⟨RX6, "isCampaign", "(I)Z"⟩
abbrev cX6_page : ByteArray := prog_8_method_7_code
def yX6_page : MethodName := ⟨RX6, "page", "(I)I"⟩
abbrev cX6_marks : ByteArray := prog_8_method_8_code
def yX6_marks : MethodName := ⟨RX6, "marks", "(II)I"⟩
abbrev cX6_campaign : ByteArray := prog_8_method_9_code
def yX6_campaign : MethodName := ⟨RX6, "campaign", "(III)I"⟩
abbrev cX6_budget : ByteArray := prog_8_method_10_code
def yX6_budget : MethodName := ⟨RX6, "budget", "(III)I"⟩
abbrev cX6_cap : ByteArray := prog_8_method_11_code
def yX6_cap : MethodName := ⟨RX6, "cap", "(III)I"⟩
abbrev cX6_apart : ByteArray := prog_8_method_12_code
def yX6_apart : MethodName := ⟨RX6, "apart", "(III)I"⟩
abbrev cX6_promise : ByteArray := prog_8_method_13_code
def yX6_promise : MethodName := ⟨RX6, "promise", "(III)I"⟩
abbrev cX6_stop : ByteArray := prog_8_method_14_code
def yX6_stop : MethodName := ⟨RX6, "stop", "(II)I"⟩
abbrev cX6_rule : ByteArray := prog_8_method_15_code
def yX6_rule : MethodName := ⟨RX6, "rule", "(I)I"⟩
abbrev cX6_pace : ByteArray := prog_8_method_16_code
def yX6_pace : MethodName := ⟨RX6, "pace", "(II)I"⟩
abbrev cX6_coins : ByteArray := prog_8_method_17_code
def yX6_coins : MethodName := ⟨RX6, "coins", "(IZ)I"⟩
abbrev cX6_sum : ByteArray := prog_8_method_18_code
def yX6_sum : MethodName := ⟨RX6, "sum", "(IIZZ)I"⟩
abbrev cX6_leftOfDay : ByteArray := prog_8_method_19_code
def yX6_leftOfDay : MethodName := ⟨RX6, "leftOfDay", "(I)I"⟩
abbrev cX6_leftInAll : ByteArray := prog_8_method_20_code
def yX6_leftInAll : MethodName := ⟨RX6, "leftInAll", "(I)I"⟩
abbrev cX6_showings : ByteArray := prog_8_method_21_code
def yX6_showings : MethodName := ⟨RX6, "showings", "(II)I"⟩
abbrev cX6_presses : ByteArray := prog_8_method_22_code
def yX6_presses : MethodName := ⟨RX6, "presses", "(II)I"⟩
abbrev cX6_isBehind : ByteArray := prog_8_method_23_code
def yX6_isBehind : MethodName := ⟨RX6, "isBehind", "(I)Z"⟩
abbrev cX6_drawOf : ByteArray := prog_8_method_24_code
def yX6_drawOf : MethodName := ⟨RX6, "drawOf", "(II)I"⟩
abbrev cX6_hinders : ByteArray := prog_8_method_25_code
def yX6_hinders : MethodName := ⟨RX6, "hinders", "(III)I"⟩
abbrev cX6_worthOf : ByteArray := prog_8_method_26_code
def yX6_worthOf : MethodName := ⟨RX6, "worthOf", "(II)J"⟩
abbrev cX6_gather : ByteArray := prog_8_method_27_code
def yX6_gather : MethodName := ⟨RX6, "gather", "(II)V"⟩
abbrev cX6_reckon : ByteArray := prog_8_method_28_code
def yX6_reckon : MethodName := ⟨RX6, "reckon", "(I)V"⟩
abbrev cX6_fits : ByteArray := prog_8_method_29_code
def yX6_fits : MethodName := ⟨RX6, "fits", "(III)Z"⟩
abbrev cX6_go : ByteArray := prog_8_method_30_code
def yX6_go : MethodName := ⟨RX6, "go", "(ZI)V"⟩
abbrev cX6_find : ByteArray := prog_8_method_31_code
def yX6_find : MethodName := ⟨RX6, "find", "(II)J"⟩
abbrev cX6_sumWithout : ByteArray := prog_8_method_32_code
def yX6_sumWithout : MethodName := ⟨RX6, "sumWithout", "(I)J"⟩
abbrev cX6_tick : ByteArray := prog_8_method_33_code
def yX6_tick : MethodName := ⟨RX6, "tick", "(I)I"⟩
abbrev cX6_goesBy : ByteArray := prog_8_method_34_code
def yX6_goesBy : MethodName := ⟨RX6, "goesBy", "()V"⟩
abbrev cX6_come : ByteArray := prog_8_method_35_code
def yX6_come : MethodName := ⟨RX6, "come", "(II)I"⟩
abbrev cX6_priceOf : ByteArray := prog_8_method_36_code
def yX6_priceOf : MethodName := ⟨RX6, "priceOf", "(IIIJ)I"⟩
abbrev cX6_sell : ByteArray := prog_8_method_37_code
def yX6_sell : MethodName := ⟨RX6, "sell", "(III)V"⟩
abbrev cX6_why : ByteArray := prog_8_method_38_code
def yX6_why : MethodName := ⟨RX6, "why", "(III)I"⟩
abbrev cX6_best : ByteArray := prog_8_method_39_code
def yX6_best : MethodName := ⟨RX6, "best", "(II)J"⟩
abbrev cX6_give : ByteArray := prog_8_method_40_code
def yX6_give : MethodName := ⟨RX6, "give", "(III)I"⟩
abbrev cX6_isSale : ByteArray := prog_8_method_41_code
def yX6_isSale : MethodName := ⟨RX6, "isSale", "(I)Z"⟩
abbrev cX6_sale : ByteArray := prog_8_method_42_code
def yX6_sale : MethodName := ⟨RX6, "sale", "(II)I"⟩
abbrev cX6_press : ByteArray := prog_8_method_43_code
def yX6_press : MethodName := ⟨RX6, "press", "(I)I"⟩
abbrev cX6_refund : ByteArray := prog_8_method_44_code
def yX6_refund : MethodName := ⟨RX6, "refund", "(I)I"⟩
abbrev cX6_told : ByteArray := prog_8_method_45_code
def yX6_told : MethodName := ⟨RX6, "told", "(II)I"⟩
abbrev cX6_chance : ByteArray := prog_8_method_46_code
def yX6_chance : MethodName := ⟨RX6, "chance", "(I)I"⟩
abbrev cX6_draw : ByteArray := prog_8_method_47_code
def yX6_draw : MethodName := ⟨RX6, "draw", "(II)I"⟩
abbrev cX6_income : ByteArray := prog_8_method_48_code
def yX6_income : MethodName := ⟨RX6, "income", "(I)I"⟩
abbrev cX6_count : ByteArray := prog_8_method_49_code
def yX6_count : MethodName := ⟨RX6, "count", "(I)I"⟩
def RJ9 : String := "java/lang/Math"
def TJ9 : u_T := fun k => match k with
  | _ => ("", "", "", false)
def tyJ9 : Nat → FieldType := fun k => match k with
  | _ => .int
abbrev wsJ90 : List Cond := u_ws RJ9 TJ9 0
theorem nmJ9 : ∀ a, a < 0 → ∀ b, b < 0 → a ≠ b → (TJ9 a).2.1 ≠ (TJ9 b).2.1 := by decide +kernel
theorem tyJ9_ok : ∀ k, k < 0 → parseFieldDescriptor (TJ9 k).2.2.1 = some (tyJ9 k) := by decide +kernel
abbrev cJ9_max_7cf53 : ByteArray := prog_9_method_65_code
def yJ9_max_7cf53 : MethodName := ⟨RJ9, "max", "(II)I"⟩
abbrev cJ9_max_f86c9 : ByteArray := prog_9_method_66_code
def yJ9_max_f86c9 : MethodName := ⟨RJ9, "max", "(JJ)J"⟩
abbrev cJ9_min_7cf53 : ByteArray := prog_9_method_69_code
def yJ9_min_7cf53 : MethodName := ⟨RJ9, "min", "(II)I"⟩
abbrev cJ9_min_f86c9 : ByteArray := prog_9_method_70_code
def yJ9_min_f86c9 : MethodName := ⟨RJ9, "min", "(JJ)J"⟩
def RL : String := "NoticeMarketLaw"
abbrev cL_law : ByteArray := code
def yL_law : MethodName := ⟨RL, "law", "([I)Z"⟩
abbrev vwCl : List vw_C := [(RX0, TX0, 16), (RX1, TX1, 9), (RX2, TX2, 4), (RX3, TX3, 12), (RX4, TX4, 8), (RX5, TX5, 17), (RX6, TX6, 51)]
end
section
/-! the words: all good words of the tables, one list for every method -/
def lw_B : List Cond := lw_tbl.filter goodWord
theorem lb_m {w : Cond} (h : w ∈ lw_tbl) (g : goodWord w = true) : w ∈ lw_B := List.mem_filter.mpr ⟨h, g⟩
theorem lb_t {w : Cond} (h : w ∈ tables_1) (g : goodWord w = true) : w ∈ lw_B := lb_m (List.mem_append_right _ h) g
theorem lb_0 (i : Nat) {w : Cond} (h : (k2_sels lw_privs)[i]? = some w) (g : goodWord w = true) : w ∈ lw_B := lb_m (List.mem_append_left _ (List.mem_of_getElem? h)) g
theorem lb_1 (i : Nat) {w : Cond} (h : tables_1_1[i]? = some w) (g : goodWord w = true) : w ∈ lw_B := lb_t (List.mem_append_left _ (List.mem_of_getElem? h)) g
theorem lb_2 (i : Nat) {w : Cond} (h : tables_1_2[i]? = some w) (g : goodWord w = true) : w ∈ lw_B := lb_t (List.mem_append_right _ (List.mem_append_left _ (List.mem_of_getElem? h))) g
theorem lb_3 (i : Nat) {w : Cond} (h : tables_1_3[i]? = some w) (g : goodWord w = true) : w ∈ lw_B := lb_t (List.mem_append_right _ (List.mem_append_right _ (List.mem_append_left _ (List.mem_of_getElem? h)))) g
theorem lb_4 (i : Nat) {w : Cond} (h : tables_1_4[i]? = some w) (g : goodWord w = true) : w ∈ lw_B := lb_t (List.mem_append_right _ (List.mem_append_right _ (List.mem_append_right _ (List.mem_append_left _ (List.mem_of_getElem? h))))) g
theorem lb_5 (i : Nat) {w : Cond} (h : tables_1_5[i]? = some w) (g : goodWord w = true) : w ∈ lw_B := lb_t (List.mem_append_right _ (List.mem_append_right _ (List.mem_append_right _ (List.mem_append_right _ (List.mem_of_getElem? h))))) g
theorem lb_gd {w : Cond} (h : w ∈ lw_B) : (w.onTables && w.keeps) = true ∨ ∃ ty, w = .arrayClass ty := good_of_word (List.mem_filter.mp h).2
theorem lb_GI {ws : List Cond} (h : ∀ w ∈ ws, w ∈ lw_B) : GoodIn lw_B ws := fun w hw => ⟨h w hw, lb_gd (h w hw)⟩
theorem lb_c {c2 : Cond} (h : c2 ∈ lw_B) : ∀ w ∈ c2 :: lw_B, w ∈ lw_B := fun w hw => (List.mem_cons.mp hw).elim (fun e => by rw [e]; exact h) id
theorem lb_ps {ws : List Cond} (ps : List Nat) (hp : ws = ps.filterMap (fun i => tables_1[i]?)) (hg : ws.all goodWord = true) : ∀ w ∈ ws, w ∈ lw_B := by
  intro w hw
  have h1 := List.all_eq_true.mp hg w hw
  rw [hp] at hw
  obtain ⟨i, -, hi⟩ := List.mem_filterMap.mp hw
  exact lb_t (List.mem_of_getElem? hi) h1
theorem lb_V {own : String} {index : Nat} {C : String} {y : MethodName} {c2 : Cond} (w1 : Cond.methodLink own index y ∈ lw_B) (w2 : Cond.instanceMethod y ∈ lw_B) (w3 : Cond.selects C y y ∈ lw_B) (w4 : Cond.initialized C ∈ lw_B) (w5 : c2 ∈ lw_B) : GoodIn lw_B (wsV own index C y (c2 :: lw_B)) := lb_GI (fun w hw => by
  rcases List.mem_append.mp hw with h | h
  · simp only [List.mem_cons, List.not_mem_nil, or_false] at h
    rcases h with rfl | rfl | rfl | rfl <;> assumption
  · exact lb_c w5 w h)
theorem lb_S {own : String} {index : Nat} {y : MethodName} {c2 : Cond} (w1 : Cond.methodLink own index y ∈ lw_B) (w2 : Cond.static y ∈ lw_B) (w3 : Cond.initialized y.cls ∈ lw_B) (w5 : c2 ∈ lw_B) : GoodIn lw_B (va_wsS own index y (c2 :: lw_B)) := lb_GI (fun w hw => by
  rcases List.mem_append.mp hw with h | h
  · simp only [List.mem_cons, List.not_mem_nil, or_false] at h
    rcases h with rfl | rfl | rfl <;> assumption
  · exact lb_c w5 w h)
/-- a room by the depth of calls below -/
abbrev rmD (d cells slots : Nat) : Room := { frames := d, cells := cells, slots := slots, locals := 40 * d }
/-- methods that change nothing: their end -/
abbrev qR (post : Int32 → Prop) : Array Value → State → Outcome → State → Prop := va_Qi (fun r (_ : Unit) => post r) (fun _ _ => True) (fun _ => False)
abbrev qRl (post : Int64 → Prop) : Array Value → State → Outcome → State → Prop := va_Ql (fun r (_ : Unit) => post r) (fun _ _ => True) (fun _ => False)
/-- a static method that changes nothing -/
abbrev mS (l : Launch) (y : MethodName) (bytes : ByteArray) (maxL : Nat) (ret : FieldType) (d : Nat) (As : List Value) (post : Int32 → Prop) : Prop :=
  Met l y (Cond.code y bytes maxL (some ret) :: lw_B) (rmD d 0 0) (va_Pc As (fun _ => True)) (qR post) 0 0 (fun _ => False)
/-- a method of an object that changes nothing -/
abbrev mV (l : Launch) (y : MethodName) (bytes : ByteArray) (maxL : Nat) (ret : FieldType) (d : Nat) (D : va_G) (wc : va_W) (tc : List (ClassId × FieldType)) (As : List Value) (post : Int32 → Prop) : Prop :=
  Met l y (Cond.code y bytes maxL (some ret) :: lw_B) (rmD d 0 0) (va_Pc As (fun U => va_P D vwCl wc U.heap ∧ va_K D vwCl tc U)) (qR post) 0 0 (fun _ => False)
abbrev mVl (l : Launch) (y : MethodName) (bytes : ByteArray) (maxL : Nat) (ret : FieldType) (d : Nat) (D : va_G) (wc : va_W) (tc : List (ClassId × FieldType)) (As : List Value) (post : Int64 → Prop) : Prop :=
  Met l y (Cond.code y bytes maxL (some ret) :: lw_B) (rmD d 0 0) (va_Pc As (fun U => va_P D vwCl wc U.heap ∧ va_K D vwCl tc U)) (qRl post) 0 0 (fun _ => False)
theorem k_no1 (x : Int32) : ¬ (0 ≤ x ∧ x ≤ 0 - 1) := by
  rw [show (0 : Int32) - 1 = -1 from rfl]; simp only [Int32.le_iff_toInt_le, Int32.reduceToInt]; have := (show (-1 : Int32).toInt = -1 from rfl); omega
theorem k_ite {P Q : Prop} [Decidable P] [Decidable Q] (h : P ↔ Q) (a b : Int32) : (if P then a else b) = (if Q then a else b) := by
  by_cases hp : P
  · rw [if_pos hp, if_pos (h.mp hp)]
  · rw [if_neg hp, if_neg (fun q => hp (h.mpr q))]
theorem k_ff {P : Prop} [Decidable P] {r : Int32} (h : r = if P then 1 else 0) (c : r = 0) : ¬ P := fun q => by rw [h, if_pos q] at c; exact absurd c (by decide)
theorem k_ft {P : Prop} [Decidable P] {r : Int32} (h : r = if P then 1 else 0) (c : ¬ r = 0) : P := Classical.byContradiction (fun q => c (by rw [h, if_neg q]))
theorem k_sw5 (x : Int32) : (x.toInt < 0 ∨ 5 < x.toInt) ∨ x = 0 ∨ x = 1 ∨ x = 2 ∨ x = 3 ∨ x = 4 ∨ x = 5 := by
  simp only [← Int32.toInt_inj, Int32.reduceToInt]; omega
theorem k_sw22 (x : Int32) : (x.toInt < 0 ∨ 22 < x.toInt) ∨ x = 0 ∨ x = 1 ∨ x = 2 ∨ x = 3 ∨ x = 4 ∨ x = 5 ∨ x = 6 ∨ x = 7 ∨ x = 8 ∨ x = 9 ∨ x = 10 ∨ x = 11 ∨ x = 12 ∨ x = 13 ∨ x = 14 ∨ x = 15 ∨ x = 16 ∨ x = 17 ∨ x = 18 ∨ x = 19 ∨ x = 20 ∨ x = 21 ∨ x = 22 := by
  simp only [← Int32.toInt_inj, Int32.reduceToInt]; omega
theorem k_no0 (x : Int32) : ¬ (0 ≤ x ∧ x < 0) := by
  simp only [Int32.lt_iff_toInt_lt, Int32.le_iff_toInt_le]; omega
section KC
variable {p : Program} {l : Launch} {e : Env} {R : Room} {s : State} {m : MethodId} {args : Array Value} {below : List Frame} {meth : Method} {c : Code} {H : Heap} {locs : List Loc} {cells slots : Nat} {Q : State → Prop}
variable {A0 : Nat → Prop} {H0 : Heap} {D : va_G} {cl : List vw_C} {ws : va_W} {pc : Nat} {ls : Array Slot} {st0 rest : List Value} {y : MethodName} {bytes cc : ByteArray} {maxL nL index d n : Nat} {ret : FieldType} {own : String} {As : List Value} {post : Int32 → Prop}
theorem k_ro {a : Array Value} (hr : va_Run p l e R s m args below meth c H locs cells slots 0 0 (F0 m pc ls st0) rest (qR post a) (fun _ => False)) (hS : va_S A0 H0 H locs) (hP : va_P D cl ws H)
    (kk : ∀ (r : Int32) (H1 : Heap) (locs1 : List Loc), post r → va_P D cl ws H1 → va_S A0 H0 H1 locs1 → W p l e R s m args below meth c H1 locs1 cells slots Q (F0 m (pc + 3) ls (.int r :: rest))) : W p l e R s m args below meth c H locs cells slots Q (F0 m pc ls st0) :=
  va_calli hr hS (fun _ _ h => h.elim) (fun _ h => h.elim) (fun r _ _ H1 locs1 _ _ hp _ _ hk hS1 => kk r H1 locs1 hp (hP.kept fun k q hq => hk q.1 (hP k q hq).lt id) hS1)
/-- a call of a static method that changes nothing -/
theorem k_S (S : CallFix p m c cc nL s args lw_B own) (hM : mS l y bytes maxL ret d As post) (n : Nat) (w1 : Cond.methodLink own index y ∈ lw_B) (w2 : Cond.static y ∈ lw_B) (w3 : Cond.initialized y.cls ∈ lw_B) (w4 : Cond.code y bytes maxL (some ret) ∈ lw_B)
    (hd : y.cls ≠ "java/lang/invoke/MethodHandle" ∧ y.cls ≠ "java/lang/invoke/VarHandle" ∧ (parseMethodDescriptor y.desc).map (fun d => d.parameters.length) = some n) (hR : d + 1 ≤ R.frames ∧ 8 + (maxL + 11) + 40 * d ≤ R.locals)
    (hn : As.length = n) (hls : ls.size = nL) (hst : st0 = As.reverse ++ rest) (hW : (rest.map fun v => v.category).sum ≤ 8) (hdg : decode cc pc = .ok (.invokestatic index, 3)) (hf : cells + 0 ≤ R.cells ∧ slots + 0 ≤ R.slots)
    (hS : va_S A0 H0 H locs) (hP : va_P D cl ws H)
    (kk : ∀ (r : Int32) (H1 : Heap) (locs1 : List Loc), post r → va_P D cl ws H1 → va_S A0 H0 H1 locs1 → W p l e R s m args below meth c H1 locs1 cells slots Q (F0 m (pc + 3) ls (.int r :: rest))) : W p l e R s m args below meth c H locs cells slots Q (F0 m pc ls st0) :=
  k_ro (va_runS (As := As) (rest := rest) S hM (va_cwS n S.2.2.2.2 (lb_S w1 w2 w3 w4) rfl rfl rfl hd hR) ⟨fun _ _ _ _ q => q, fun _ _ _ => ⟨rfl, trivial⟩⟩ rfl hn hls hst (lv_room hW) hdg hf) hS hP kk
/-- a call of a method of an object that changes nothing -/
theorem k_V {wc : va_W} {tc : List (ClassId × FieldType)} {b ci q0 : Nat} {fs : List Value} {q : vw_C} (S : CallFix p m c cc nL s args lw_B own) (hM : mV l y bytes maxL ret d D wc tc (.ref b :: As) post) (n : Nat) (w1 : Cond.methodLink own index y ∈ lw_B) (w2 : Cond.instanceMethod y ∈ lw_B) (w3 : Cond.selects q.1 y y ∈ lw_B) (w4 : Cond.initialized q.1 ∈ lw_B) (w5 : Cond.code y bytes maxL (some ret) ∈ lw_B)
    (hd : y.cls = q.1 ∧ y.cls ≠ "java/lang/invoke/MethodHandle" ∧ y.cls ≠ "java/lang/invoke/VarHandle" ∧ (parseMethodDescriptor y.desc).map (fun d => d.parameters.length) = some n) (hR : d + 1 ≤ R.frames ∧ 8 + (maxL + 11) + 40 * d ≤ R.locals)
    (hPc : va_P D vwCl wc H) (hKc : va_K D vwCl tc s) (hc : vwCl[ci]? = some q) (he : wc[q0]? = some (b, .inr (ci, fs)))
    (hn : As.length = n) (hls : ls.size = nL) (hst : st0 = As.reverse ++ .ref b :: rest) (hW : (rest.map fun v => v.category).sum ≤ 8) (hdg : decode cc pc = .ok (.invokevirtual index, 3)) (hf : cells + 0 ≤ R.cells ∧ slots + 0 ≤ R.slots)
    (hS : va_S A0 H0 H locs) (hP : va_P D cl ws H)
    (kk : ∀ (r : Int32) (H1 : Heap) (locs1 : List Loc), post r → va_P D cl ws H1 → va_S A0 H0 H1 locs1 → W p l e R s m args below meth c H1 locs1 cells slots Q (F0 m (pc + 3) ls (.int r :: rest))) : W p l e R s m args below meth c H locs cells slots Q (F0 m pc ls st0) :=
  k_ro (va_runV (As := As) (rest := rest) S hM (cwV n S.2.2.2.2 (lb_V w1 w2 w3 w4 w5) rfl rfl rfl hd hR) ⟨fun a U g mk q => ⟨q.1, q.2.1, va_K.moved (u := U) (U := U.calling g mk a) (Vm.Alike.refl U.vm) q.2.2⟩, va_recv hKc hPc hc he, fun U hU hW => ⟨rfl, by rw [hU]; exact hPc, va_K.moved hW.alike hKc⟩⟩ rfl hn hls hst (lv_room hW) hdg hf) hS hP kk
end KC
set_option maxRecDepth 20000 in
theorem uB0 : ∀ w ∈ wsX00, w ∈ lw_B := lb_ps [239, 241, 243, 245, 247, 249, 251, 253, 255, 257, 259, 261, 263, 265, 267, 269] (by decide +kernel) (by decide +kernel)
set_option maxRecDepth 20000 in
theorem uB1 : ∀ w ∈ wsX10, w ∈ lw_B := lb_ps [43, 45, 47, 49, 51, 53, 55, 57, 59] (by decide +kernel) (by decide +kernel)
set_option maxRecDepth 20000 in
theorem uB2 : ∀ w ∈ wsX20, w ∈ lw_B := lb_ps [140, 142, 144, 146] (by decide +kernel) (by decide +kernel)
set_option maxRecDepth 20000 in
theorem uB3 : ∀ w ∈ wsX30, w ∈ lw_B := lb_ps [520, 522, 524, 526, 528, 530, 532, 534, 536, 538, 540, 542] (by decide +kernel) (by decide +kernel)
set_option maxRecDepth 20000 in
theorem uB4 : ∀ w ∈ wsX40, w ∈ lw_B := lb_ps [196, 198, 200, 202, 204, 206, 208, 210] (by decide +kernel) (by decide +kernel)
set_option maxRecDepth 20000 in
theorem uB5 : ∀ w ∈ wsX50, w ∈ lw_B := lb_ps [81, 83, 85, 87, 89, 91, 93, 95, 97, 99, 101, 103, 105, 107, 109, 111, 113] (by decide +kernel) (by decide +kernel)
set_option maxRecDepth 20000 in
theorem uB6 : ∀ w ∈ wsX60, w ∈ lw_B := lb_ps [680, 682, 684, 686, 688, 690, 692, 694, 696, 698, 700, 702, 704, 706, 708, 710, 712, 714, 716, 718, 720, 722, 724, 726, 728, 730, 732, 734, 736, 738, 740, 742, 744, 746, 748, 750, 752, 754, 756, 758, 760, 762, 764, 766, 768, 770, 772, 774, 776, 778, 780] (by decide +kernel) (by decide +kernel)
end
section
theorem wm_0 : Cond.fieldLink RX6 87 "NoticeMarketModel" "state" "[I" ∈ lw_B := lb_3 181 (by decide +kernel) rfl
theorem wm_1 : Cond.fieldLink RX6 26 "NoticeMarketModel" "pays" "[I" ∈ lw_B := lb_3 160 (by decide +kernel) rfl
theorem wm_2 : Cond.fieldLink RX6 81 "NoticeMarketModel" "saleOf" "[I" ∈ lw_B := lb_3 179 (by decide +kernel) rfl
theorem wm_3 : Cond.fieldLink RX6 84 "NoticeMarketModel" "price" "[I" ∈ lw_B := lb_3 180 (by decide +kernel) rfl
theorem wm_4 : Cond.fieldLink RX6 161 "NoticeMarketModel" "sales" "I" ∈ lw_B := lb_3 174 (by decide +kernel) rfl
theorem wm_5 : Cond.methodLink RX6 164 yX6_coins ∈ lw_B := lb_4 128 (by decide +kernel) rfl
theorem wm_6 : Cond.instanceMethod yX6_coins ∈ lw_B := lb_4 130 (by decide +kernel) rfl
theorem wm_7 : Cond.selects RX6 yX6_coins yX6_coins ∈ lw_B := lb_0 32 (by decide +kernel) rfl
theorem wm_8 : Cond.initialized RX6 ∈ lw_B := lb_1 3 (by decide +kernel) rfl
theorem wm_9 : Cond.code yX6_coins cX6_coins 4 (some .int) ∈ lw_B := lb_4 131 (by decide +kernel) rfl
theorem wm_10 : Cond.fieldLink RX6 69 "NoticeMarketModel" "saleTick" "[I" ∈ lw_B := lb_3 175 (by decide +kernel) rfl
theorem wm_11 : Cond.fieldLink RX6 93 "NoticeMarketModel" "pressTick" "[I" ∈ lw_B := lb_3 183 (by decide +kernel) rfl
theorem wm_12 : Cond.fieldLink RX6 38 "NoticeMarketModel" "dayBudget" "[I" ∈ lw_B := lb_3 164 (by decide +kernel) rfl
theorem wm_13 : Cond.fieldLink RX6 152 "NoticeMarketModel" "tick" "I" ∈ lw_B := lb_3 150 (by decide +kernel) rfl
theorem wm_14 : Cond.methodLink RX6 168 yX6_sum ∈ lw_B := lb_4 124 (by decide +kernel) rfl
theorem wm_15 : Cond.instanceMethod yX6_sum ∈ lw_B := lb_4 126 (by decide +kernel) rfl
theorem wm_16 : Cond.selects RX6 yX6_sum yX6_sum ∈ lw_B := lb_0 31 (by decide +kernel) rfl
theorem wm_17 : Cond.code yX6_sum cX6_sum 7 (some .int) ∈ lw_B := lb_4 127 (by decide +kernel) rfl
theorem wm_18 : Cond.fieldLink RX6 41 "NoticeMarketModel" "allBudget" "[I" ∈ lw_B := lb_3 165 (by decide +kernel) rfl
theorem wm_19 : Cond.constant RX6 176 (40503) ∈ lw_B := lb_4 165 (by decide +kernel) rfl
theorem wm_20 : Cond.constant RX6 177 (668265263) ∈ lw_B := lb_4 166 (by decide +kernel) rfl
theorem wm_21 : Cond.fieldLink RX6 23 "NoticeMarketModel" "sort" "[I" ∈ lw_B := lb_3 159 (by decide +kernel) rfl
theorem wm_22 : Cond.fieldLink RX6 60 "NoticeMarketModel" "promised" "[I" ∈ lw_B := lb_3 171 (by decide +kernel) rfl
theorem wm_23 : Cond.methodLink RX6 172 yX6_showings ∈ lw_B := lb_4 176 (by decide +kernel) rfl
theorem wm_24 : Cond.instanceMethod yX6_showings ∈ lw_B := lb_4 178 (by decide +kernel) rfl
theorem wm_25 : Cond.selects RX6 yX6_showings yX6_showings ∈ lw_B := lb_0 42 (by decide +kernel) rfl
theorem wm_26 : Cond.code yX6_showings cX6_showings 5 (some .int) ∈ lw_B := lb_4 179 (by decide +kernel) rfl
theorem wm_27 : Cond.fieldLink RX6 63 "NoticeMarketModel" "promiseDay" "[I" ∈ lw_B := lb_3 172 (by decide +kernel) rfl
theorem wm_28 : Cond.fieldLink RX6 66 "NoticeMarketModel" "promiseFrom" "[I" ∈ lw_B := lb_3 173 (by decide +kernel) rfl
theorem wm_29 : Cond.fieldLink RX6 53 "NoticeMarketModel" "stopped" "[Z" ∈ lw_B := lb_3 169 (by decide +kernel) rfl
theorem wm_30 : Cond.fieldLink RX6 20 "NoticeMarketModel" "marks" "[I" ∈ lw_B := lb_3 157 (by decide +kernel) rfl
theorem wm_31 : Cond.fieldLink RX6 29 "NoticeMarketModel" "must" "[I" ∈ lw_B := lb_3 161 (by decide +kernel) rfl
theorem wm_32 : Cond.fieldLink RX6 32 "NoticeMarketModel" "never" "[I" ∈ lw_B := lb_3 162 (by decide +kernel) rfl
theorem wm_33 : Cond.fieldLink RX6 44 "NoticeMarketModel" "cap" "[I" ∈ lw_B := lb_3 166 (by decide +kernel) rfl
theorem wm_34 : Cond.methodLink RX6 185 yX6_drawOf ∈ lw_B := lb_4 161 (by decide +kernel) rfl
theorem wm_35 : Cond.instanceMethod yX6_drawOf ∈ lw_B := lb_4 163 (by decide +kernel) rfl
theorem wm_36 : Cond.selects RX6 yX6_drawOf yX6_drawOf ∈ lw_B := lb_0 39 (by decide +kernel) rfl
theorem wm_37 : Cond.code yX6_drawOf cX6_drawOf 4 (some .int) ∈ lw_B := lb_4 164 (by decide +kernel) rfl
theorem wm_38 : Cond.fieldLink RX6 50 "NoticeMarketModel" "throttle" "[I" ∈ lw_B := lb_3 168 (by decide +kernel) rfl
theorem wm_39 : Cond.methodLink RX6 178 yX6_leftOfDay ∈ lw_B := lb_4 153 (by decide +kernel) rfl
theorem wm_40 : Cond.instanceMethod yX6_leftOfDay ∈ lw_B := lb_4 155 (by decide +kernel) rfl
theorem wm_41 : Cond.selects RX6 yX6_leftOfDay yX6_leftOfDay ∈ lw_B := lb_0 37 (by decide +kernel) rfl
theorem wm_42 : Cond.code yX6_leftOfDay cX6_leftOfDay 2 (some .int) ∈ lw_B := lb_4 156 (by decide +kernel) rfl
theorem wm_43 : Cond.fieldLink RX6 35 "NoticeMarketModel" "bid" "[I" ∈ lw_B := lb_3 163 (by decide +kernel) rfl
theorem wm_44 : Cond.methodLink RX6 182 yX6_leftInAll ∈ lw_B := lb_4 157 (by decide +kernel) rfl
theorem wm_45 : Cond.instanceMethod yX6_leftInAll ∈ lw_B := lb_4 159 (by decide +kernel) rfl
theorem wm_46 : Cond.selects RX6 yX6_leftInAll yX6_leftInAll ∈ lw_B := lb_0 38 (by decide +kernel) rfl
theorem wm_47 : Cond.code yX6_leftInAll cX6_leftInAll 2 (some .int) ∈ lw_B := lb_4 160 (by decide +kernel) rfl
theorem wm_48 : Cond.fieldLink RX6 75 "NoticeMarketModel" "salePage" "[I" ∈ lw_B := lb_3 177 (by decide +kernel) rfl
theorem wm_49 : Cond.fieldLink RX6 57 "NoticeMarketModel" "apart" "[Z" ∈ lw_B := lb_3 170 (by decide +kernel) rfl
theorem wm_50 : Cond.fieldLink RX6 72 "NoticeMarketModel" "saleReader" "[I" ∈ lw_B := lb_3 176 (by decide +kernel) rfl
theorem wm_51 : Cond.fieldLink RX6 47 "NoticeMarketModel" "span" "[I" ∈ lw_B := lb_3 167 (by decide +kernel) rfl
theorem wm_52 : Cond.constantLong RX6 188 (10000) ∈ lw_B := lb_4 171 (by decide +kernel) rfl
theorem wm_53 : Cond.methodLink RX6 193 yX6_isBehind ∈ lw_B := lb_4 180 (by decide +kernel) rfl
theorem wm_54 : Cond.instanceMethod yX6_isBehind ∈ lw_B := lb_4 182 (by decide +kernel) rfl
theorem wm_55 : Cond.selects RX6 yX6_isBehind yX6_isBehind ∈ lw_B := lb_0 43 (by decide +kernel) rfl
theorem wm_56 : Cond.code yX6_isBehind cX6_isBehind 4 (some .boolean) ∈ lw_B := lb_4 183 (by decide +kernel) rfl
theorem wm_57 : Cond.constantLong RX6 196 (1000000000) ∈ lw_B := lb_4 184 (by decide +kernel) rfl
theorem wm_58 : Cond.methodLink RX6 190 yX6_presses ∈ lw_B := lb_4 172 (by decide +kernel) rfl
theorem wm_59 : Cond.instanceMethod yX6_presses ∈ lw_B := lb_4 174 (by decide +kernel) rfl
theorem wm_60 : Cond.selects RX6 yX6_presses yX6_presses ∈ lw_B := lb_0 41 (by decide +kernel) rfl
theorem wm_61 : Cond.code yX6_presses cX6_presses 5 (some .int) ∈ lw_B := lb_4 175 (by decide +kernel) rfl
theorem wm_62 : Cond.fieldLink RX6 106 "NoticeMarketModel" "at" "[I" ∈ lw_B := lb_3 189 (by decide +kernel) rfl
theorem wm_63 : Cond.fieldLink RX6 198 "NoticeMarketModel" "may" "I" ∈ lw_B := lb_3 184 (by decide +kernel) rfl
theorem wm_64 : Cond.fieldLink RX6 96 "NoticeMarketModel" "mayBe" "[I" ∈ lw_B := lb_3 185 (by decide +kernel) rfl
theorem wm_65 : Cond.methodLink RX5 65 yX5_isWithin ∈ lw_B := lb_1 123 (by decide +kernel) rfl
theorem wm_66 : Cond.static yX5_isWithin ∈ lw_B := lb_1 124 (by decide +kernel) rfl
theorem wm_67 : Cond.initialized RX5 ∈ lw_B := lb_1 1 (by decide +kernel) rfl
theorem wm_68 : Cond.code yX5_isWithin cX5_isWithin 3 (some .boolean) ∈ lw_B := lb_1 125 (by decide +kernel) rfl
theorem wm_69 : Cond.methodLink RX6 136 yX6_in ∈ lw_B := lb_4 68 (by decide +kernel) rfl
theorem wm_70 : Cond.static yX6_in ∈ lw_B := lb_4 69 (by decide +kernel) rfl
theorem wm_71 : Cond.code yX6_in cX6_in 3 (some .boolean) ∈ lw_B := lb_4 70 (by decide +kernel) rfl
theorem wm_72 : Cond.fieldLink RX5 55 "NoticeMarket" "pageCount" "I" ∈ lw_B := lb_1 71 (by decide +kernel) rfl
theorem wm_73 : Cond.fieldLink RX5 79 "NoticeMarket" "campaignCount" "I" ∈ lw_B := lb_1 72 (by decide +kernel) rfl
theorem wm_74 : Cond.fieldLink RX5 138 "NoticeMarket" "saleCount" "I" ∈ lw_B := lb_1 73 (by decide +kernel) rfl
theorem wm_75 : Cond.fieldLink RX6 133 "NoticeMarketModel" "pages" "I" ∈ lw_B := lb_3 154 (by decide +kernel) rfl
theorem wm_76 : Cond.fieldLink RX6 140 "NoticeMarketModel" "campaigns" "I" ∈ lw_B := lb_3 158 (by decide +kernel) rfl
theorem wm_77 : Cond.methodLink RX5 85 yX5_isCampaign ∈ lw_B := lb_2 36 (by decide +kernel) rfl
theorem wm_78 : Cond.instanceMethod yX5_isCampaign ∈ lw_B := lb_2 38 (by decide +kernel) rfl
theorem wm_79 : Cond.selects RX5 yX5_isCampaign yX5_isCampaign ∈ lw_B := lb_0 0 (by decide +kernel) rfl
theorem wm_80 : Cond.code yX5_isCampaign cX5_isCampaign 2 (some .boolean) ∈ lw_B := lb_2 39 (by decide +kernel) rfl
theorem wm_81 : Cond.methodLink RX6 148 yX6_isCampaign ∈ lw_B := lb_4 87 (by decide +kernel) rfl
theorem wm_82 : Cond.instanceMethod yX6_isCampaign ∈ lw_B := lb_4 89 (by decide +kernel) rfl
theorem wm_83 : Cond.selects RX6 yX6_isCampaign yX6_isCampaign ∈ lw_B := lb_0 29 (by decide +kernel) rfl
theorem wm_84 : Cond.code yX6_isCampaign cX6_isCampaign 2 (some .boolean) ∈ lw_B := lb_4 90 (by decide +kernel) rfl
theorem wm_85 : Cond.methodLink RX5 61 yX5_isReader ∈ lw_B := lb_1 153 (by decide +kernel) rfl
theorem wm_86 : Cond.static yX5_isReader ∈ lw_B := lb_1 154 (by decide +kernel) rfl
theorem wm_87 : Cond.code yX5_isReader cX5_isReader 1 (some .boolean) ∈ lw_B := lb_1 155 (by decide +kernel) rfl
theorem wm_88 : Cond.methodLink RX5 135 yX5_isPage ∈ lw_B := lb_2 129 (by decide +kernel) rfl
theorem wm_89 : Cond.instanceMethod yX5_isPage ∈ lw_B := lb_2 131 (by decide +kernel) rfl
theorem wm_90 : Cond.selects RX5 yX5_isPage yX5_isPage ∈ lw_B := lb_0 8 (by decide +kernel) rfl
theorem wm_91 : Cond.code yX5_isPage cX5_isPage 2 (some .boolean) ∈ lw_B := lb_2 132 (by decide +kernel) rfl
theorem wm_92 : Cond.methodLink RX6 143 yX6_isReader ∈ lw_B := lb_4 75 (by decide +kernel) rfl
theorem wm_93 : Cond.static yX6_isReader ∈ lw_B := lb_4 76 (by decide +kernel) rfl
theorem wm_94 : Cond.code yX6_isReader cX6_isReader 1 (some .boolean) ∈ lw_B := lb_4 77 (by decide +kernel) rfl
theorem wm_95 : Cond.methodLink RX6 243 yX6_isPage ∈ lw_B := lb_4 137 (by decide +kernel) rfl
theorem wm_96 : Cond.instanceMethod yX6_isPage ∈ lw_B := lb_4 139 (by decide +kernel) rfl
theorem wm_97 : Cond.selects RX6 yX6_isPage yX6_isPage ∈ lw_B := lb_0 33 (by decide +kernel) rfl
theorem wm_98 : Cond.code yX6_isPage cX6_isPage 2 (some .boolean) ∈ lw_B := lb_4 140 (by decide +kernel) rfl
theorem wm_99 : Cond.constantLong RX5 159 (-1) ∈ lw_B := lb_3 89 (by decide +kernel) rfl
theorem wm_100 : Cond.constantLong RX6 263 (-1) ∈ lw_B := lb_4 218 (by decide +kernel) rfl
theorem wm_101 : Cond.methodLink RX5 164 yX5_isSale ∈ lw_B := lb_3 98 (by decide +kernel) rfl
theorem wm_102 : Cond.instanceMethod yX5_isSale ∈ lw_B := lb_3 100 (by decide +kernel) rfl
theorem wm_103 : Cond.selects RX5 yX5_isSale yX5_isSale ∈ lw_B := lb_0 25 (by decide +kernel) rfl
theorem wm_104 : Cond.code yX5_isSale cX5_isSale 2 (some .boolean) ∈ lw_B := lb_3 101 (by decide +kernel) rfl
theorem wm_105 : Cond.methodLink RX6 265 yX6_isSale ∈ lw_B := lb_4 227 (by decide +kernel) rfl
theorem wm_106 : Cond.instanceMethod yX6_isSale ∈ lw_B := lb_4 229 (by decide +kernel) rfl
theorem wm_107 : Cond.selects RX6 yX6_isSale yX6_isSale ∈ lw_B := lb_0 50 (by decide +kernel) rfl
theorem wm_108 : Cond.code yX6_isSale cX6_isSale 2 (some .boolean) ∈ lw_B := lb_4 230 (by decide +kernel) rfl
theorem wm_109 : Cond.constant RX5 229 (-2000000) ∈ lw_B := lb_3 126 (by decide +kernel) rfl
theorem wm_110 : Cond.constant RX6 268 (-2000000) ∈ lw_B := lb_5 3 (by decide +kernel) rfl
theorem wm_111 : Cond.constant RX6 151 (1000000) ∈ lw_B := lb_4 91 (by decide +kernel) rfl
theorem wm_112 : Cond.fieldLink RX6 155 "NoticeMarketModel" "rule" "I" ∈ lw_B := lb_3 151 (by decide +kernel) rfl
theorem wm_113 : Cond.fieldLink RX6 158 "NoticeMarketModel" "pace" "I" ∈ lw_B := lb_3 152 (by decide +kernel) rfl
theorem wm_114 : Cond.fieldLink RX6 7 "NoticeMarketModel" "wait" "I" ∈ lw_B := lb_3 153 (by decide +kernel) rfl
theorem wm_115 : Cond.constant RX6 147 (16777215) ∈ lw_B := lb_4 82 (by decide +kernel) rfl
theorem wm_116 : Cond.fieldLink RX6 78 "NoticeMarketModel" "salePlace" "[I" ∈ lw_B := lb_3 178 (by decide +kernel) rfl
theorem wm_117 : Cond.constantLong RX6 261 (1000000) ∈ lw_B := lb_4 205 (by decide +kernel) rfl
theorem wm_118 : Cond.methodLink RX6 204 yX6_hinders ∈ lw_B := lb_4 149 (by decide +kernel) rfl
theorem wm_119 : Cond.instanceMethod yX6_hinders ∈ lw_B := lb_4 151 (by decide +kernel) rfl
theorem wm_120 : Cond.selects RX6 yX6_hinders yX6_hinders ∈ lw_B := lb_0 36 (by decide +kernel) rfl
theorem wm_121 : Cond.code yX6_hinders cX6_hinders 8 (some .int) ∈ lw_B := lb_4 152 (by decide +kernel) rfl
theorem wm_122 : Cond.fieldLink RX6 90 "NoticeMarketModel" "saleWait" "[I" ∈ lw_B := lb_3 182 (by decide +kernel) rfl
theorem wm_123 : Cond.constantLong RX6 241 (100) ∈ lw_B := lb_4 132 (by decide +kernel) rfl
theorem wm_124 : Cond.fieldLink RX6 124 "NoticeMarketModel" "toSell" "[I" ∈ lw_B := lb_3 198 (by decide +kernel) rfl
theorem wm_125 : Cond.fieldLink RX6 127 "NoticeMarketModel" "toPay" "[I" ∈ lw_B := lb_3 199 (by decide +kernel) rfl
theorem dX6_coins_0 : decode cX6_coins 0 = .ok (.aload_n 0, 1) := by decide +kernel
theorem dX6_coins_1 : decode cX6_coins 1 = .ok (.getfield 87, 3) := by decide +kernel
theorem dX6_coins_4 : decode cX6_coins 4 = .ok (.iload_n 1, 1) := by decide +kernel
theorem dX6_coins_5 : decode cX6_coins 5 = .ok (.iaload, 1) := by decide +kernel
theorem dX6_coins_6 : decode cX6_coins 6 = .ok (.iconst 3, 1) := by decide +kernel
theorem dX6_coins_7 : decode cX6_coins 7 = .ok (.if_icmp .ne 5, 3) := by decide +kernel
theorem dX6_coins_10 : decode cX6_coins 10 = .ok (.iconst 0, 1) := by decide +kernel
theorem dX6_coins_11 : decode cX6_coins 11 = .ok (.ireturn, 1) := by decide +kernel
theorem dX6_coins_12 : decode cX6_coins 12 = .ok (.aload_n 0, 1) := by decide +kernel
theorem dX6_coins_13 : decode cX6_coins 13 = .ok (.getfield 26, 3) := by decide +kernel
theorem dX6_coins_16 : decode cX6_coins 16 = .ok (.aload_n 0, 1) := by decide +kernel
theorem dX6_coins_17 : decode cX6_coins 17 = .ok (.getfield 81, 3) := by decide +kernel
theorem dX6_coins_20 : decode cX6_coins 20 = .ok (.iload_n 1, 1) := by decide +kernel
theorem dX6_coins_21 : decode cX6_coins 21 = .ok (.iaload, 1) := by decide +kernel
theorem dX6_coins_22 : decode cX6_coins 22 = .ok (.iaload, 1) := by decide +kernel
theorem dX6_coins_23 : decode cX6_coins 23 = .ok (.iconst 1, 1) := by decide +kernel
theorem dX6_coins_24 : decode cX6_coins 24 = .ok (.if_icmp .ne 7, 3) := by decide +kernel
theorem dX6_coins_27 : decode cX6_coins 27 = .ok (.iconst 1, 1) := by decide +kernel
theorem dX6_coins_28 : decode cX6_coins 28 = .ok (.goto 4, 3) := by decide +kernel
theorem dX6_coins_31 : decode cX6_coins 31 = .ok (.iconst 0, 1) := by decide +kernel
theorem dX6_coins_32 : decode cX6_coins 32 = .ok (.istore_n 3, 1) := by decide +kernel
theorem dX6_coins_33 : decode cX6_coins 33 = .ok (.iload_n 2, 1) := by decide +kernel
theorem dX6_coins_34 : decode cX6_coins 34 = .ok (.ifCond .eq 28, 3) := by decide +kernel
theorem dX6_coins_37 : decode cX6_coins 37 = .ok (.iload_n 3, 1) := by decide +kernel
theorem dX6_coins_38 : decode cX6_coins 38 = .ok (.ifCond .eq 22, 3) := by decide +kernel
theorem dX6_coins_41 : decode cX6_coins 41 = .ok (.aload_n 0, 1) := by decide +kernel
theorem dX6_coins_42 : decode cX6_coins 42 = .ok (.getfield 87, 3) := by decide +kernel
theorem dX6_coins_45 : decode cX6_coins 45 = .ok (.iload_n 1, 1) := by decide +kernel
theorem dX6_coins_46 : decode cX6_coins 46 = .ok (.iaload, 1) := by decide +kernel
theorem dX6_coins_47 : decode cX6_coins 47 = .ok (.iconst 1, 1) := by decide +kernel
theorem dX6_coins_48 : decode cX6_coins 48 = .ok (.if_icmp .ne 12, 3) := by decide +kernel
theorem dX6_coins_51 : decode cX6_coins 51 = .ok (.aload_n 0, 1) := by decide +kernel
theorem dX6_coins_52 : decode cX6_coins 52 = .ok (.getfield 84, 3) := by decide +kernel
theorem dX6_coins_55 : decode cX6_coins 55 = .ok (.iload_n 1, 1) := by decide +kernel
theorem dX6_coins_56 : decode cX6_coins 56 = .ok (.iaload, 1) := by decide +kernel
theorem dX6_coins_57 : decode cX6_coins 57 = .ok (.goto 4, 3) := by decide +kernel
theorem dX6_coins_60 : decode cX6_coins 60 = .ok (.iconst 0, 1) := by decide +kernel
theorem dX6_coins_61 : decode cX6_coins 61 = .ok (.ireturn, 1) := by decide +kernel
theorem dX6_coins_62 : decode cX6_coins 62 = .ok (.iload_n 3, 1) := by decide +kernel
theorem dX6_coins_63 : decode cX6_coins 63 = .ok (.ifCond .eq 13, 3) := by decide +kernel
theorem dX6_coins_66 : decode cX6_coins 66 = .ok (.aload_n 0, 1) := by decide +kernel
theorem dX6_coins_67 : decode cX6_coins 67 = .ok (.getfield 87, 3) := by decide +kernel
theorem dX6_coins_70 : decode cX6_coins 70 = .ok (.iload_n 1, 1) := by decide +kernel
theorem dX6_coins_71 : decode cX6_coins 71 = .ok (.iaload, 1) := by decide +kernel
theorem dX6_coins_72 : decode cX6_coins 72 = .ok (.iconst 2, 1) := by decide +kernel
theorem dX6_coins_73 : decode cX6_coins 73 = .ok (.if_icmp .ne 12, 3) := by decide +kernel
theorem dX6_coins_76 : decode cX6_coins 76 = .ok (.aload_n 0, 1) := by decide +kernel
theorem dX6_coins_77 : decode cX6_coins 77 = .ok (.getfield 84, 3) := by decide +kernel
theorem dX6_coins_80 : decode cX6_coins 80 = .ok (.iload_n 1, 1) := by decide +kernel
theorem dX6_coins_81 : decode cX6_coins 81 = .ok (.iaload, 1) := by decide +kernel
theorem dX6_coins_82 : decode cX6_coins 82 = .ok (.goto 4, 3) := by decide +kernel
theorem dX6_coins_85 : decode cX6_coins 85 = .ok (.iconst 0, 1) := by decide +kernel
theorem dX6_coins_86 : decode cX6_coins 86 = .ok (.ireturn, 1) := by decide +kernel
theorem dX6_sum_0 : decode cX6_sum 0 = .ok (.iconst 0, 1) := by decide +kernel
theorem dX6_sum_1 : decode cX6_sum 1 = .ok (.istore 5, 2) := by decide +kernel
theorem dX6_sum_3 : decode cX6_sum 3 = .ok (.iconst 0, 1) := by decide +kernel
theorem dX6_sum_4 : decode cX6_sum 4 = .ok (.istore 6, 2) := by decide +kernel
theorem dX6_sum_6 : decode cX6_sum 6 = .ok (.iload 6, 2) := by decide +kernel
theorem dX6_sum_8 : decode cX6_sum 8 = .ok (.aload_n 0, 1) := by decide +kernel
theorem dX6_sum_9 : decode cX6_sum 9 = .ok (.getfield 161, 3) := by decide +kernel
theorem dX6_sum_12 : decode cX6_sum 12 = .ok (.if_icmp .ge 78, 3) := by decide +kernel
theorem dX6_sum_15 : decode cX6_sum 15 = .ok (.aload_n 0, 1) := by decide +kernel
theorem dX6_sum_16 : decode cX6_sum 16 = .ok (.getfield 81, 3) := by decide +kernel
theorem dX6_sum_19 : decode cX6_sum 19 = .ok (.iload 6, 2) := by decide +kernel
theorem dX6_sum_21 : decode cX6_sum 21 = .ok (.iaload, 1) := by decide +kernel
theorem dX6_sum_22 : decode cX6_sum 22 = .ok (.iload_n 1, 1) := by decide +kernel
theorem dX6_sum_23 : decode cX6_sum 23 = .ok (.if_icmp .ne 61, 3) := by decide +kernel
theorem dX6_sum_26 : decode cX6_sum 26 = .ok (.iload_n 2, 1) := by decide +kernel
theorem dX6_sum_27 : decode cX6_sum 27 = .ok (.ifCond .lt 20, 3) := by decide +kernel
theorem dX6_sum_30 : decode cX6_sum 30 = .ok (.aload_n 0, 1) := by decide +kernel
theorem dX6_sum_31 : decode cX6_sum 31 = .ok (.getfield 69, 3) := by decide +kernel
theorem dX6_sum_34 : decode cX6_sum 34 = .ok (.iload 6, 2) := by decide +kernel
theorem dX6_sum_36 : decode cX6_sum 36 = .ok (.iaload, 1) := by decide +kernel
theorem dX6_sum_37 : decode cX6_sum 37 = .ok (.bipush 100, 2) := by decide +kernel
theorem dX6_sum_39 : decode cX6_sum 39 = .ok (.idiv, 1) := by decide +kernel
theorem dX6_sum_40 : decode cX6_sum 40 = .ok (.iload_n 2, 1) := by decide +kernel
theorem dX6_sum_41 : decode cX6_sum 41 = .ok (.if_icmp .eq 6, 3) := by decide +kernel
theorem dX6_sum_44 : decode cX6_sum 44 = .ok (.goto 40, 3) := by decide +kernel
theorem dX6_sum_47 : decode cX6_sum 47 = .ok (.iload 5, 2) := by decide +kernel
theorem dX6_sum_49 : decode cX6_sum 49 = .ok (.iload_n 3, 1) := by decide +kernel
theorem dX6_sum_50 : decode cX6_sum 50 = .ok (.ifCond .eq 13, 3) := by decide +kernel
theorem dX6_sum_53 : decode cX6_sum 53 = .ok (.aload_n 0, 1) := by decide +kernel
theorem dX6_sum_54 : decode cX6_sum 54 = .ok (.iload 6, 2) := by decide +kernel
theorem dX6_sum_56 : decode cX6_sum 56 = .ok (.iconst 0, 1) := by decide +kernel
theorem dX6_sum_57 : decode cX6_sum 57 = .ok (.invokevirtual 164, 3) := by decide +kernel
theorem dX6_sum_60 : decode cX6_sum 60 = .ok (.goto 4, 3) := by decide +kernel
theorem dX6_sum_63 : decode cX6_sum 63 = .ok (.iconst 0, 1) := by decide +kernel
theorem dX6_sum_64 : decode cX6_sum 64 = .ok (.iload 4, 2) := by decide +kernel
theorem dX6_sum_66 : decode cX6_sum 66 = .ok (.ifCond .eq 13, 3) := by decide +kernel
theorem dX6_sum_69 : decode cX6_sum 69 = .ok (.aload_n 0, 1) := by decide +kernel
theorem dX6_sum_70 : decode cX6_sum 70 = .ok (.iload 6, 2) := by decide +kernel
theorem dX6_sum_72 : decode cX6_sum 72 = .ok (.iconst 1, 1) := by decide +kernel
theorem dX6_sum_73 : decode cX6_sum 73 = .ok (.invokevirtual 164, 3) := by decide +kernel
theorem dX6_sum_76 : decode cX6_sum 76 = .ok (.goto 4, 3) := by decide +kernel
theorem dX6_sum_79 : decode cX6_sum 79 = .ok (.iconst 0, 1) := by decide +kernel
theorem dX6_sum_80 : decode cX6_sum 80 = .ok (.iadd, 1) := by decide +kernel
theorem dX6_sum_81 : decode cX6_sum 81 = .ok (.iadd, 1) := by decide +kernel
theorem dX6_sum_82 : decode cX6_sum 82 = .ok (.istore 5, 2) := by decide +kernel
theorem dX6_sum_84 : decode cX6_sum 84 = .ok (.iinc 6 1, 3) := by decide +kernel
theorem dX6_sum_87 : decode cX6_sum 87 = .ok (.goto (-81), 3) := by decide +kernel
theorem dX6_sum_90 : decode cX6_sum 90 = .ok (.iload 5, 2) := by decide +kernel
theorem dX6_sum_92 : decode cX6_sum 92 = .ok (.ireturn, 1) := by decide +kernel
theorem dX6_showings_0 : decode cX6_showings 0 = .ok (.iconst 0, 1) := by decide +kernel
theorem dX6_showings_1 : decode cX6_showings 1 = .ok (.istore_n 3, 1) := by decide +kernel
theorem dX6_showings_2 : decode cX6_showings 2 = .ok (.iconst 0, 1) := by decide +kernel
theorem dX6_showings_3 : decode cX6_showings 3 = .ok (.istore 4, 2) := by decide +kernel
theorem dX6_showings_5 : decode cX6_showings 5 = .ok (.iload 4, 2) := by decide +kernel
theorem dX6_showings_7 : decode cX6_showings 7 = .ok (.aload_n 0, 1) := by decide +kernel
theorem dX6_showings_8 : decode cX6_showings 8 = .ok (.getfield 161, 3) := by decide +kernel
theorem dX6_showings_11 : decode cX6_showings 11 = .ok (.if_icmp .ge 50, 3) := by decide +kernel
theorem dX6_showings_14 : decode cX6_showings 14 = .ok (.iload_n 3, 1) := by decide +kernel
theorem dX6_showings_15 : decode cX6_showings 15 = .ok (.aload_n 0, 1) := by decide +kernel
theorem dX6_showings_16 : decode cX6_showings 16 = .ok (.getfield 81, 3) := by decide +kernel
theorem dX6_showings_19 : decode cX6_showings 19 = .ok (.iload 4, 2) := by decide +kernel
theorem dX6_showings_21 : decode cX6_showings 21 = .ok (.iaload, 1) := by decide +kernel
theorem dX6_showings_22 : decode cX6_showings 22 = .ok (.iload_n 1, 1) := by decide +kernel
theorem dX6_showings_23 : decode cX6_showings 23 = .ok (.if_icmp .ne 29, 3) := by decide +kernel
theorem dX6_showings_26 : decode cX6_showings 26 = .ok (.aload_n 0, 1) := by decide +kernel
theorem dX6_showings_27 : decode cX6_showings 27 = .ok (.getfield 87, 3) := by decide +kernel
theorem dX6_showings_30 : decode cX6_showings 30 = .ok (.iload 4, 2) := by decide +kernel
theorem dX6_showings_32 : decode cX6_showings 32 = .ok (.iaload, 1) := by decide +kernel
theorem dX6_showings_33 : decode cX6_showings 33 = .ok (.iconst 3, 1) := by decide +kernel
theorem dX6_showings_34 : decode cX6_showings 34 = .ok (.if_icmp .eq 18, 3) := by decide +kernel
theorem dX6_showings_37 : decode cX6_showings 37 = .ok (.aload_n 0, 1) := by decide +kernel
theorem dX6_showings_38 : decode cX6_showings 38 = .ok (.getfield 69, 3) := by decide +kernel
theorem dX6_showings_41 : decode cX6_showings 41 = .ok (.iload 4, 2) := by decide +kernel
theorem dX6_showings_43 : decode cX6_showings 43 = .ok (.iaload, 1) := by decide +kernel
theorem dX6_showings_44 : decode cX6_showings 44 = .ok (.iload_n 2, 1) := by decide +kernel
theorem dX6_showings_45 : decode cX6_showings 45 = .ok (.if_icmp .ge 7, 3) := by decide +kernel
theorem dX6_showings_48 : decode cX6_showings 48 = .ok (.iconst 1, 1) := by decide +kernel
theorem dX6_showings_49 : decode cX6_showings 49 = .ok (.goto 4, 3) := by decide +kernel
theorem dX6_showings_52 : decode cX6_showings 52 = .ok (.iconst 0, 1) := by decide +kernel
theorem dX6_showings_53 : decode cX6_showings 53 = .ok (.iadd, 1) := by decide +kernel
theorem dX6_showings_54 : decode cX6_showings 54 = .ok (.istore_n 3, 1) := by decide +kernel
theorem dX6_showings_55 : decode cX6_showings 55 = .ok (.iinc 4 1, 3) := by decide +kernel
theorem dX6_showings_58 : decode cX6_showings 58 = .ok (.goto (-53), 3) := by decide +kernel
theorem dX6_showings_61 : decode cX6_showings 61 = .ok (.iload_n 3, 1) := by decide +kernel
theorem dX6_showings_62 : decode cX6_showings 62 = .ok (.ireturn, 1) := by decide +kernel
theorem dX6_presses_0 : decode cX6_presses 0 = .ok (.iconst 0, 1) := by decide +kernel
theorem dX6_presses_1 : decode cX6_presses 1 = .ok (.istore_n 3, 1) := by decide +kernel
theorem dX6_presses_2 : decode cX6_presses 2 = .ok (.iconst 0, 1) := by decide +kernel
theorem dX6_presses_3 : decode cX6_presses 3 = .ok (.istore 4, 2) := by decide +kernel
theorem dX6_presses_5 : decode cX6_presses 5 = .ok (.iload 4, 2) := by decide +kernel
theorem dX6_presses_7 : decode cX6_presses 7 = .ok (.aload_n 0, 1) := by decide +kernel
theorem dX6_presses_8 : decode cX6_presses 8 = .ok (.getfield 161, 3) := by decide +kernel
theorem dX6_presses_11 : decode cX6_presses 11 = .ok (.if_icmp .ge 50, 3) := by decide +kernel
theorem dX6_presses_14 : decode cX6_presses 14 = .ok (.iload_n 3, 1) := by decide +kernel
theorem dX6_presses_15 : decode cX6_presses 15 = .ok (.aload_n 0, 1) := by decide +kernel
theorem dX6_presses_16 : decode cX6_presses 16 = .ok (.getfield 81, 3) := by decide +kernel
theorem dX6_presses_19 : decode cX6_presses 19 = .ok (.iload 4, 2) := by decide +kernel
theorem dX6_presses_21 : decode cX6_presses 21 = .ok (.iaload, 1) := by decide +kernel
theorem dX6_presses_22 : decode cX6_presses 22 = .ok (.iload_n 1, 1) := by decide +kernel
theorem dX6_presses_23 : decode cX6_presses 23 = .ok (.if_icmp .ne 29, 3) := by decide +kernel
theorem dX6_presses_26 : decode cX6_presses 26 = .ok (.aload_n 0, 1) := by decide +kernel
theorem dX6_presses_27 : decode cX6_presses 27 = .ok (.getfield 87, 3) := by decide +kernel
theorem dX6_presses_30 : decode cX6_presses 30 = .ok (.iload 4, 2) := by decide +kernel
theorem dX6_presses_32 : decode cX6_presses 32 = .ok (.iaload, 1) := by decide +kernel
theorem dX6_presses_33 : decode cX6_presses 33 = .ok (.iconst 2, 1) := by decide +kernel
theorem dX6_presses_34 : decode cX6_presses 34 = .ok (.if_icmp .ne 18, 3) := by decide +kernel
theorem dX6_presses_37 : decode cX6_presses 37 = .ok (.aload_n 0, 1) := by decide +kernel
theorem dX6_presses_38 : decode cX6_presses 38 = .ok (.getfield 93, 3) := by decide +kernel
theorem dX6_presses_41 : decode cX6_presses 41 = .ok (.iload 4, 2) := by decide +kernel
theorem dX6_presses_43 : decode cX6_presses 43 = .ok (.iaload, 1) := by decide +kernel
theorem dX6_presses_44 : decode cX6_presses 44 = .ok (.iload_n 2, 1) := by decide +kernel
theorem dX6_presses_45 : decode cX6_presses 45 = .ok (.if_icmp .ge 7, 3) := by decide +kernel
theorem dX6_presses_48 : decode cX6_presses 48 = .ok (.iconst 1, 1) := by decide +kernel
theorem dX6_presses_49 : decode cX6_presses 49 = .ok (.goto 4, 3) := by decide +kernel
theorem dX6_presses_52 : decode cX6_presses 52 = .ok (.iconst 0, 1) := by decide +kernel
theorem dX6_presses_53 : decode cX6_presses 53 = .ok (.iadd, 1) := by decide +kernel
theorem dX6_presses_54 : decode cX6_presses 54 = .ok (.istore_n 3, 1) := by decide +kernel
theorem dX6_presses_55 : decode cX6_presses 55 = .ok (.iinc 4 1, 3) := by decide +kernel
theorem dX6_presses_58 : decode cX6_presses 58 = .ok (.goto (-53), 3) := by decide +kernel
theorem dX6_presses_61 : decode cX6_presses 61 = .ok (.iload_n 3, 1) := by decide +kernel
theorem dX6_presses_62 : decode cX6_presses 62 = .ok (.ireturn, 1) := by decide +kernel
theorem dX6_leftOfDay_0 : decode cX6_leftOfDay 0 = .ok (.aload_n 0, 1) := by decide +kernel
theorem dX6_leftOfDay_1 : decode cX6_leftOfDay 1 = .ok (.getfield 38, 3) := by decide +kernel
theorem dX6_leftOfDay_4 : decode cX6_leftOfDay 4 = .ok (.iload_n 1, 1) := by decide +kernel
theorem dX6_leftOfDay_5 : decode cX6_leftOfDay 5 = .ok (.iaload, 1) := by decide +kernel
theorem dX6_leftOfDay_6 : decode cX6_leftOfDay 6 = .ok (.aload_n 0, 1) := by decide +kernel
theorem dX6_leftOfDay_7 : decode cX6_leftOfDay 7 = .ok (.iload_n 1, 1) := by decide +kernel
theorem dX6_leftOfDay_8 : decode cX6_leftOfDay 8 = .ok (.aload_n 0, 1) := by decide +kernel
theorem dX6_leftOfDay_9 : decode cX6_leftOfDay 9 = .ok (.getfield 152, 3) := by decide +kernel
theorem dX6_leftOfDay_12 : decode cX6_leftOfDay 12 = .ok (.bipush 100, 2) := by decide +kernel
theorem dX6_leftOfDay_14 : decode cX6_leftOfDay 14 = .ok (.idiv, 1) := by decide +kernel
theorem dX6_leftOfDay_15 : decode cX6_leftOfDay 15 = .ok (.iconst 1, 1) := by decide +kernel
theorem dX6_leftOfDay_16 : decode cX6_leftOfDay 16 = .ok (.iconst 1, 1) := by decide +kernel
theorem dX6_leftOfDay_17 : decode cX6_leftOfDay 17 = .ok (.invokevirtual 168, 3) := by decide +kernel
theorem dX6_leftOfDay_20 : decode cX6_leftOfDay 20 = .ok (.isub, 1) := by decide +kernel
theorem dX6_leftOfDay_21 : decode cX6_leftOfDay 21 = .ok (.ireturn, 1) := by decide +kernel
theorem dX6_leftInAll_0 : decode cX6_leftInAll 0 = .ok (.aload_n 0, 1) := by decide +kernel
theorem dX6_leftInAll_1 : decode cX6_leftInAll 1 = .ok (.getfield 41, 3) := by decide +kernel
theorem dX6_leftInAll_4 : decode cX6_leftInAll 4 = .ok (.iload_n 1, 1) := by decide +kernel
theorem dX6_leftInAll_5 : decode cX6_leftInAll 5 = .ok (.iaload, 1) := by decide +kernel
theorem dX6_leftInAll_6 : decode cX6_leftInAll 6 = .ok (.aload_n 0, 1) := by decide +kernel
theorem dX6_leftInAll_7 : decode cX6_leftInAll 7 = .ok (.iload_n 1, 1) := by decide +kernel
theorem dX6_leftInAll_8 : decode cX6_leftInAll 8 = .ok (.iconst (-1), 1) := by decide +kernel
theorem dX6_leftInAll_9 : decode cX6_leftInAll 9 = .ok (.iconst 1, 1) := by decide +kernel
theorem dX6_leftInAll_10 : decode cX6_leftInAll 10 = .ok (.iconst 1, 1) := by decide +kernel
theorem dX6_leftInAll_11 : decode cX6_leftInAll 11 = .ok (.invokevirtual 168, 3) := by decide +kernel
theorem dX6_leftInAll_14 : decode cX6_leftInAll 14 = .ok (.isub, 1) := by decide +kernel
theorem dX6_leftInAll_15 : decode cX6_leftInAll 15 = .ok (.ireturn, 1) := by decide +kernel
theorem dX6_drawOf_0 : decode cX6_drawOf 0 = .ok (.aload_n 0, 1) := by decide +kernel
theorem dX6_drawOf_1 : decode cX6_drawOf 1 = .ok (.getfield 152, 3) := by decide +kernel
theorem dX6_drawOf_4 : decode cX6_drawOf 4 = .ok (.ldc 176, 2) := by decide +kernel
theorem dX6_drawOf_6 : decode cX6_drawOf 6 = .ok (.imul, 1) := by decide +kernel
theorem dX6_drawOf_7 : decode cX6_drawOf 7 = .ok (.iload_n 2, 1) := by decide +kernel
theorem dX6_drawOf_8 : decode cX6_drawOf 8 = .ok (.sipush 9973, 3) := by decide +kernel
theorem dX6_drawOf_11 : decode cX6_drawOf 11 = .ok (.imul, 1) := by decide +kernel
theorem dX6_drawOf_12 : decode cX6_drawOf 12 = .ok (.iadd, 1) := by decide +kernel
theorem dX6_drawOf_13 : decode cX6_drawOf 13 = .ok (.iload_n 1, 1) := by decide +kernel
theorem dX6_drawOf_14 : decode cX6_drawOf 14 = .ok (.sipush 7919, 3) := by decide +kernel
theorem dX6_drawOf_17 : decode cX6_drawOf 17 = .ok (.imul, 1) := by decide +kernel
theorem dX6_drawOf_18 : decode cX6_drawOf 18 = .ok (.iadd, 1) := by decide +kernel
theorem dX6_drawOf_19 : decode cX6_drawOf 19 = .ok (.istore_n 3, 1) := by decide +kernel
theorem dX6_drawOf_20 : decode cX6_drawOf 20 = .ok (.iload_n 3, 1) := by decide +kernel
theorem dX6_drawOf_21 : decode cX6_drawOf 21 = .ok (.iload_n 3, 1) := by decide +kernel
theorem dX6_drawOf_22 : decode cX6_drawOf 22 = .ok (.bipush 7, 2) := by decide +kernel
theorem dX6_drawOf_24 : decode cX6_drawOf 24 = .ok (.iushr, 1) := by decide +kernel
theorem dX6_drawOf_25 : decode cX6_drawOf 25 = .ok (.ixor, 1) := by decide +kernel
theorem dX6_drawOf_26 : decode cX6_drawOf 26 = .ok (.ldc 177, 2) := by decide +kernel
theorem dX6_drawOf_28 : decode cX6_drawOf 28 = .ok (.imul, 1) := by decide +kernel
theorem dX6_drawOf_29 : decode cX6_drawOf 29 = .ok (.istore_n 3, 1) := by decide +kernel
theorem dX6_drawOf_30 : decode cX6_drawOf 30 = .ok (.iload_n 3, 1) := by decide +kernel
theorem dX6_drawOf_31 : decode cX6_drawOf 31 = .ok (.bipush 16, 2) := by decide +kernel
theorem dX6_drawOf_33 : decode cX6_drawOf 33 = .ok (.iushr, 1) := by decide +kernel
theorem dX6_drawOf_34 : decode cX6_drawOf 34 = .ok (.sipush 1000, 3) := by decide +kernel
theorem dX6_drawOf_37 : decode cX6_drawOf 37 = .ok (.irem, 1) := by decide +kernel
theorem dX6_drawOf_38 : decode cX6_drawOf 38 = .ok (.ireturn, 1) := by decide +kernel
theorem dX6_isBehind_0 : decode cX6_isBehind 0 = .ok (.aload_n 0, 1) := by decide +kernel
theorem dX6_isBehind_1 : decode cX6_isBehind 1 = .ok (.getfield 23, 3) := by decide +kernel
theorem dX6_isBehind_4 : decode cX6_isBehind 4 = .ok (.iload_n 1, 1) := by decide +kernel
theorem dX6_isBehind_5 : decode cX6_isBehind 5 = .ok (.iaload, 1) := by decide +kernel
theorem dX6_isBehind_6 : decode cX6_isBehind 6 = .ok (.iconst 1, 1) := by decide +kernel
theorem dX6_isBehind_7 : decode cX6_isBehind 7 = .ok (.if_icmp .ne 12, 3) := by decide +kernel
theorem dX6_isBehind_10 : decode cX6_isBehind 10 = .ok (.aload_n 0, 1) := by decide +kernel
theorem dX6_isBehind_11 : decode cX6_isBehind 11 = .ok (.getfield 60, 3) := by decide +kernel
theorem dX6_isBehind_14 : decode cX6_isBehind 14 = .ok (.iload_n 1, 1) := by decide +kernel
theorem dX6_isBehind_15 : decode cX6_isBehind 15 = .ok (.iaload, 1) := by decide +kernel
theorem dX6_isBehind_16 : decode cX6_isBehind 16 = .ok (.ifCond .ne 5, 3) := by decide +kernel
theorem dX6_isBehind_19 : decode cX6_isBehind 19 = .ok (.iconst 0, 1) := by decide +kernel
theorem dX6_isBehind_20 : decode cX6_isBehind 20 = .ok (.ireturn, 1) := by decide +kernel
theorem dX6_isBehind_21 : decode cX6_isBehind 21 = .ok (.aload_n 0, 1) := by decide +kernel
theorem dX6_isBehind_22 : decode cX6_isBehind 22 = .ok (.iload_n 1, 1) := by decide +kernel
theorem dX6_isBehind_23 : decode cX6_isBehind 23 = .ok (.sipush 10001, 3) := by decide +kernel
theorem dX6_isBehind_26 : decode cX6_isBehind 26 = .ok (.invokevirtual 172, 3) := by decide +kernel
theorem dX6_isBehind_29 : decode cX6_isBehind 29 = .ok (.istore_n 2, 1) := by decide +kernel
theorem dX6_isBehind_30 : decode cX6_isBehind 30 = .ok (.bipush 100, 2) := by decide +kernel
theorem dX6_isBehind_32 : decode cX6_isBehind 32 = .ok (.aload_n 0, 1) := by decide +kernel
theorem dX6_isBehind_33 : decode cX6_isBehind 33 = .ok (.getfield 63, 3) := by decide +kernel
theorem dX6_isBehind_36 : decode cX6_isBehind 36 = .ok (.iload_n 1, 1) := by decide +kernel
theorem dX6_isBehind_37 : decode cX6_isBehind 37 = .ok (.iaload, 1) := by decide +kernel
theorem dX6_isBehind_38 : decode cX6_isBehind 38 = .ok (.imul, 1) := by decide +kernel
theorem dX6_isBehind_39 : decode cX6_isBehind 39 = .ok (.bipush 100, 2) := by decide +kernel
theorem dX6_isBehind_41 : decode cX6_isBehind 41 = .ok (.iadd, 1) := by decide +kernel
theorem dX6_isBehind_42 : decode cX6_isBehind 42 = .ok (.istore_n 3, 1) := by decide +kernel
theorem dX6_isBehind_43 : decode cX6_isBehind 43 = .ok (.aload_n 0, 1) := by decide +kernel
theorem dX6_isBehind_44 : decode cX6_isBehind 44 = .ok (.getfield 152, 3) := by decide +kernel
theorem dX6_isBehind_47 : decode cX6_isBehind 47 = .ok (.iload_n 3, 1) := by decide +kernel
theorem dX6_isBehind_48 : decode cX6_isBehind 48 = .ok (.if_icmp .lt 19, 3) := by decide +kernel
theorem dX6_isBehind_51 : decode cX6_isBehind 51 = .ok (.iload_n 2, 1) := by decide +kernel
theorem dX6_isBehind_52 : decode cX6_isBehind 52 = .ok (.aload_n 0, 1) := by decide +kernel
theorem dX6_isBehind_53 : decode cX6_isBehind 53 = .ok (.getfield 60, 3) := by decide +kernel
theorem dX6_isBehind_56 : decode cX6_isBehind 56 = .ok (.iload_n 1, 1) := by decide +kernel
theorem dX6_isBehind_57 : decode cX6_isBehind 57 = .ok (.iaload, 1) := by decide +kernel
theorem dX6_isBehind_58 : decode cX6_isBehind 58 = .ok (.if_icmp .ge 7, 3) := by decide +kernel
theorem dX6_isBehind_61 : decode cX6_isBehind 61 = .ok (.iconst 1, 1) := by decide +kernel
theorem dX6_isBehind_62 : decode cX6_isBehind 62 = .ok (.goto 4, 3) := by decide +kernel
theorem dX6_isBehind_65 : decode cX6_isBehind 65 = .ok (.iconst 0, 1) := by decide +kernel
theorem dX6_isBehind_66 : decode cX6_isBehind 66 = .ok (.ireturn, 1) := by decide +kernel
theorem dX6_isBehind_67 : decode cX6_isBehind 67 = .ok (.iload_n 2, 1) := by decide +kernel
theorem dX6_isBehind_68 : decode cX6_isBehind 68 = .ok (.aload_n 0, 1) := by decide +kernel
theorem dX6_isBehind_69 : decode cX6_isBehind 69 = .ok (.getfield 60, 3) := by decide +kernel
theorem dX6_isBehind_72 : decode cX6_isBehind 72 = .ok (.iload_n 1, 1) := by decide +kernel
theorem dX6_isBehind_73 : decode cX6_isBehind 73 = .ok (.iaload, 1) := by decide +kernel
theorem dX6_isBehind_74 : decode cX6_isBehind 74 = .ok (.aload_n 0, 1) := by decide +kernel
theorem dX6_isBehind_75 : decode cX6_isBehind 75 = .ok (.getfield 152, 3) := by decide +kernel
theorem dX6_isBehind_78 : decode cX6_isBehind 78 = .ok (.aload_n 0, 1) := by decide +kernel
theorem dX6_isBehind_79 : decode cX6_isBehind 79 = .ok (.getfield 66, 3) := by decide +kernel
theorem dX6_isBehind_82 : decode cX6_isBehind 82 = .ok (.iload_n 1, 1) := by decide +kernel
theorem dX6_isBehind_83 : decode cX6_isBehind 83 = .ok (.iaload, 1) := by decide +kernel
theorem dX6_isBehind_84 : decode cX6_isBehind 84 = .ok (.isub, 1) := by decide +kernel
theorem dX6_isBehind_85 : decode cX6_isBehind 85 = .ok (.imul, 1) := by decide +kernel
theorem dX6_isBehind_86 : decode cX6_isBehind 86 = .ok (.iload_n 3, 1) := by decide +kernel
theorem dX6_isBehind_87 : decode cX6_isBehind 87 = .ok (.aload_n 0, 1) := by decide +kernel
theorem dX6_isBehind_88 : decode cX6_isBehind 88 = .ok (.getfield 66, 3) := by decide +kernel
theorem dX6_isBehind_91 : decode cX6_isBehind 91 = .ok (.iload_n 1, 1) := by decide +kernel
theorem dX6_isBehind_92 : decode cX6_isBehind 92 = .ok (.iaload, 1) := by decide +kernel
theorem dX6_isBehind_93 : decode cX6_isBehind 93 = .ok (.isub, 1) := by decide +kernel
theorem dX6_isBehind_94 : decode cX6_isBehind 94 = .ok (.idiv, 1) := by decide +kernel
theorem dX6_isBehind_95 : decode cX6_isBehind 95 = .ok (.if_icmp .ge 7, 3) := by decide +kernel
theorem dX6_isBehind_98 : decode cX6_isBehind 98 = .ok (.iconst 1, 1) := by decide +kernel
theorem dX6_isBehind_99 : decode cX6_isBehind 99 = .ok (.goto 4, 3) := by decide +kernel
theorem dX6_isBehind_102 : decode cX6_isBehind 102 = .ok (.iconst 0, 1) := by decide +kernel
theorem dX6_isBehind_103 : decode cX6_isBehind 103 = .ok (.ireturn, 1) := by decide +kernel
theorem dX6_hinders_0 : decode cX6_hinders 0 = .ok (.aload_n 0, 1) := by decide +kernel
theorem dX6_hinders_1 : decode cX6_hinders 1 = .ok (.getfield 53, 3) := by decide +kernel
theorem dX6_hinders_4 : decode cX6_hinders 4 = .ok (.iload_n 1, 1) := by decide +kernel
theorem dX6_hinders_5 : decode cX6_hinders 5 = .ok (.baload, 1) := by decide +kernel
theorem dX6_hinders_6 : decode cX6_hinders 6 = .ok (.ifCond .eq 5, 3) := by decide +kernel
theorem dX6_hinders_9 : decode cX6_hinders 9 = .ok (.iconst 1, 1) := by decide +kernel
theorem dX6_hinders_10 : decode cX6_hinders 10 = .ok (.ireturn, 1) := by decide +kernel
theorem dX6_hinders_11 : decode cX6_hinders 11 = .ok (.aload_n 0, 1) := by decide +kernel
theorem dX6_hinders_12 : decode cX6_hinders 12 = .ok (.getfield 20, 3) := by decide +kernel
theorem dX6_hinders_15 : decode cX6_hinders 15 = .ok (.iload_n 2, 1) := by decide +kernel
theorem dX6_hinders_16 : decode cX6_hinders 16 = .ok (.iaload, 1) := by decide +kernel
theorem dX6_hinders_17 : decode cX6_hinders 17 = .ok (.aload_n 0, 1) := by decide +kernel
theorem dX6_hinders_18 : decode cX6_hinders 18 = .ok (.getfield 29, 3) := by decide +kernel
theorem dX6_hinders_21 : decode cX6_hinders 21 = .ok (.iload_n 1, 1) := by decide +kernel
theorem dX6_hinders_22 : decode cX6_hinders 22 = .ok (.iaload, 1) := by decide +kernel
theorem dX6_hinders_23 : decode cX6_hinders 23 = .ok (.iand, 1) := by decide +kernel
theorem dX6_hinders_24 : decode cX6_hinders 24 = .ok (.aload_n 0, 1) := by decide +kernel
theorem dX6_hinders_25 : decode cX6_hinders 25 = .ok (.getfield 29, 3) := by decide +kernel
theorem dX6_hinders_28 : decode cX6_hinders 28 = .ok (.iload_n 1, 1) := by decide +kernel
theorem dX6_hinders_29 : decode cX6_hinders 29 = .ok (.iaload, 1) := by decide +kernel
theorem dX6_hinders_30 : decode cX6_hinders 30 = .ok (.if_icmp .ne 19, 3) := by decide +kernel
theorem dX6_hinders_33 : decode cX6_hinders 33 = .ok (.aload_n 0, 1) := by decide +kernel
theorem dX6_hinders_34 : decode cX6_hinders 34 = .ok (.getfield 20, 3) := by decide +kernel
theorem dX6_hinders_37 : decode cX6_hinders 37 = .ok (.iload_n 2, 1) := by decide +kernel
theorem dX6_hinders_38 : decode cX6_hinders 38 = .ok (.iaload, 1) := by decide +kernel
theorem dX6_hinders_39 : decode cX6_hinders 39 = .ok (.aload_n 0, 1) := by decide +kernel
theorem dX6_hinders_40 : decode cX6_hinders 40 = .ok (.getfield 32, 3) := by decide +kernel
theorem dX6_hinders_43 : decode cX6_hinders 43 = .ok (.iload_n 1, 1) := by decide +kernel
theorem dX6_hinders_44 : decode cX6_hinders 44 = .ok (.iaload, 1) := by decide +kernel
theorem dX6_hinders_45 : decode cX6_hinders 45 = .ok (.iand, 1) := by decide +kernel
theorem dX6_hinders_46 : decode cX6_hinders 46 = .ok (.ifCond .eq 5, 3) := by decide +kernel
theorem dX6_hinders_49 : decode cX6_hinders 49 = .ok (.iconst 2, 1) := by decide +kernel
theorem dX6_hinders_50 : decode cX6_hinders 50 = .ok (.ireturn, 1) := by decide +kernel
theorem dX6_hinders_51 : decode cX6_hinders 51 = .ok (.iconst 0, 1) := by decide +kernel
theorem dX6_hinders_52 : decode cX6_hinders 52 = .ok (.istore 4, 2) := by decide +kernel
theorem dX6_hinders_54 : decode cX6_hinders 54 = .ok (.iconst 0, 1) := by decide +kernel
theorem dX6_hinders_55 : decode cX6_hinders 55 = .ok (.istore 5, 2) := by decide +kernel
theorem dX6_hinders_57 : decode cX6_hinders 57 = .ok (.iconst 0, 1) := by decide +kernel
theorem dX6_hinders_58 : decode cX6_hinders 58 = .ok (.istore 6, 2) := by decide +kernel
theorem dX6_hinders_60 : decode cX6_hinders 60 = .ok (.iconst 0, 1) := by decide +kernel
theorem dX6_hinders_61 : decode cX6_hinders 61 = .ok (.istore 7, 2) := by decide +kernel
theorem dX6_hinders_63 : decode cX6_hinders 63 = .ok (.iload 7, 2) := by decide +kernel
theorem dX6_hinders_65 : decode cX6_hinders 65 = .ok (.aload_n 0, 1) := by decide +kernel
theorem dX6_hinders_66 : decode cX6_hinders 66 = .ok (.getfield 161, 3) := by decide +kernel
theorem dX6_hinders_69 : decode cX6_hinders 69 = .ok (.if_icmp .ge 159, 3) := by decide +kernel
theorem dX6_hinders_72 : decode cX6_hinders 72 = .ok (.aload_n 0, 1) := by decide +kernel
theorem dX6_hinders_73 : decode cX6_hinders 73 = .ok (.getfield 87, 3) := by decide +kernel
theorem dX6_hinders_76 : decode cX6_hinders 76 = .ok (.iload 7, 2) := by decide +kernel
theorem dX6_hinders_78 : decode cX6_hinders 78 = .ok (.iaload, 1) := by decide +kernel
theorem dX6_hinders_79 : decode cX6_hinders 79 = .ok (.iconst 3, 1) := by decide +kernel
theorem dX6_hinders_80 : decode cX6_hinders 80 = .ok (.if_icmp .ne 6, 3) := by decide +kernel
theorem dX6_hinders_83 : decode cX6_hinders 83 = .ok (.goto 139, 3) := by decide +kernel
theorem dX6_hinders_86 : decode cX6_hinders 86 = .ok (.iload 4, 2) := by decide +kernel
theorem dX6_hinders_88 : decode cX6_hinders 88 = .ok (.aload_n 0, 1) := by decide +kernel
theorem dX6_hinders_89 : decode cX6_hinders 89 = .ok (.getfield 81, 3) := by decide +kernel
theorem dX6_hinders_92 : decode cX6_hinders 92 = .ok (.iload 7, 2) := by decide +kernel
theorem dX6_hinders_94 : decode cX6_hinders 94 = .ok (.iaload, 1) := by decide +kernel
theorem dX6_hinders_95 : decode cX6_hinders 95 = .ok (.iload_n 1, 1) := by decide +kernel
theorem dX6_hinders_96 : decode cX6_hinders 96 = .ok (.if_icmp .ne 39, 3) := by decide +kernel
theorem dX6_hinders_99 : decode cX6_hinders 99 = .ok (.aload_n 0, 1) := by decide +kernel
theorem dX6_hinders_100 : decode cX6_hinders 100 = .ok (.getfield 72, 3) := by decide +kernel
theorem dX6_hinders_103 : decode cX6_hinders 103 = .ok (.iload 7, 2) := by decide +kernel
theorem dX6_hinders_105 : decode cX6_hinders 105 = .ok (.iaload, 1) := by decide +kernel
theorem dX6_hinders_106 : decode cX6_hinders 106 = .ok (.iload_n 2, 1) := by decide +kernel
theorem dX6_hinders_107 : decode cX6_hinders 107 = .ok (.if_icmp .ne 28, 3) := by decide +kernel
theorem dX6_hinders_110 : decode cX6_hinders 110 = .ok (.aload_n 0, 1) := by decide +kernel
theorem dX6_hinders_111 : decode cX6_hinders 111 = .ok (.getfield 69, 3) := by decide +kernel
theorem dX6_hinders_114 : decode cX6_hinders 114 = .ok (.iload 7, 2) := by decide +kernel
theorem dX6_hinders_116 : decode cX6_hinders 116 = .ok (.iaload, 1) := by decide +kernel
theorem dX6_hinders_117 : decode cX6_hinders 117 = .ok (.aload_n 0, 1) := by decide +kernel
theorem dX6_hinders_118 : decode cX6_hinders 118 = .ok (.getfield 152, 3) := by decide +kernel
theorem dX6_hinders_121 : decode cX6_hinders 121 = .ok (.aload_n 0, 1) := by decide +kernel
theorem dX6_hinders_122 : decode cX6_hinders 122 = .ok (.getfield 47, 3) := by decide +kernel
theorem dX6_hinders_125 : decode cX6_hinders 125 = .ok (.iload_n 1, 1) := by decide +kernel
theorem dX6_hinders_126 : decode cX6_hinders 126 = .ok (.iaload, 1) := by decide +kernel
theorem dX6_hinders_127 : decode cX6_hinders 127 = .ok (.isub, 1) := by decide +kernel
theorem dX6_hinders_128 : decode cX6_hinders 128 = .ok (.if_icmp .le 7, 3) := by decide +kernel
theorem dX6_hinders_131 : decode cX6_hinders 131 = .ok (.iconst 1, 1) := by decide +kernel
theorem dX6_hinders_132 : decode cX6_hinders 132 = .ok (.goto 4, 3) := by decide +kernel
theorem dX6_hinders_135 : decode cX6_hinders 135 = .ok (.iconst 0, 1) := by decide +kernel
theorem dX6_hinders_136 : decode cX6_hinders 136 = .ok (.iadd, 1) := by decide +kernel
theorem dX6_hinders_137 : decode cX6_hinders 137 = .ok (.istore 4, 2) := by decide +kernel
theorem dX6_hinders_139 : decode cX6_hinders 139 = .ok (.aload_n 0, 1) := by decide +kernel
theorem dX6_hinders_140 : decode cX6_hinders 140 = .ok (.getfield 69, 3) := by decide +kernel
theorem dX6_hinders_143 : decode cX6_hinders 143 = .ok (.iload 7, 2) := by decide +kernel
theorem dX6_hinders_145 : decode cX6_hinders 145 = .ok (.iaload, 1) := by decide +kernel
theorem dX6_hinders_146 : decode cX6_hinders 146 = .ok (.aload_n 0, 1) := by decide +kernel
theorem dX6_hinders_147 : decode cX6_hinders 147 = .ok (.getfield 152, 3) := by decide +kernel
theorem dX6_hinders_150 : decode cX6_hinders 150 = .ok (.if_icmp .ne 72, 3) := by decide +kernel
theorem dX6_hinders_153 : decode cX6_hinders 153 = .ok (.aload_n 0, 1) := by decide +kernel
theorem dX6_hinders_154 : decode cX6_hinders 154 = .ok (.getfield 75, 3) := by decide +kernel
theorem dX6_hinders_157 : decode cX6_hinders 157 = .ok (.iload 7, 2) := by decide +kernel
theorem dX6_hinders_159 : decode cX6_hinders 159 = .ok (.iaload, 1) := by decide +kernel
theorem dX6_hinders_160 : decode cX6_hinders 160 = .ok (.iload_n 3, 1) := by decide +kernel
theorem dX6_hinders_161 : decode cX6_hinders 161 = .ok (.if_icmp .eq 6, 3) := by decide +kernel
theorem dX6_hinders_164 : decode cX6_hinders 164 = .ok (.goto 58, 3) := by decide +kernel
theorem dX6_hinders_167 : decode cX6_hinders 167 = .ok (.iload 5, 2) := by decide +kernel
theorem dX6_hinders_169 : decode cX6_hinders 169 = .ok (.ifCond .ne 23, 3) := by decide +kernel
theorem dX6_hinders_172 : decode cX6_hinders 172 = .ok (.aload_n 0, 1) := by decide +kernel
theorem dX6_hinders_173 : decode cX6_hinders 173 = .ok (.getfield 57, 3) := by decide +kernel
theorem dX6_hinders_176 : decode cX6_hinders 176 = .ok (.bipush 40, 2) := by decide +kernel
theorem dX6_hinders_178 : decode cX6_hinders 178 = .ok (.iload_n 1, 1) := by decide +kernel
theorem dX6_hinders_179 : decode cX6_hinders 179 = .ok (.imul, 1) := by decide +kernel
theorem dX6_hinders_180 : decode cX6_hinders 180 = .ok (.aload_n 0, 1) := by decide +kernel
theorem dX6_hinders_181 : decode cX6_hinders 181 = .ok (.getfield 81, 3) := by decide +kernel
theorem dX6_hinders_184 : decode cX6_hinders 184 = .ok (.iload 7, 2) := by decide +kernel
theorem dX6_hinders_186 : decode cX6_hinders 186 = .ok (.iaload, 1) := by decide +kernel
theorem dX6_hinders_187 : decode cX6_hinders 187 = .ok (.iadd, 1) := by decide +kernel
theorem dX6_hinders_188 : decode cX6_hinders 188 = .ok (.baload, 1) := by decide +kernel
theorem dX6_hinders_189 : decode cX6_hinders 189 = .ok (.ifCond .eq 7, 3) := by decide +kernel
theorem dX6_hinders_192 : decode cX6_hinders 192 = .ok (.iconst 1, 1) := by decide +kernel
theorem dX6_hinders_193 : decode cX6_hinders 193 = .ok (.goto 4, 3) := by decide +kernel
theorem dX6_hinders_196 : decode cX6_hinders 196 = .ok (.iconst 0, 1) := by decide +kernel
theorem dX6_hinders_197 : decode cX6_hinders 197 = .ok (.istore 5, 2) := by decide +kernel
theorem dX6_hinders_199 : decode cX6_hinders 199 = .ok (.iload 6, 2) := by decide +kernel
theorem dX6_hinders_201 : decode cX6_hinders 201 = .ok (.ifCond .ne 14, 3) := by decide +kernel
theorem dX6_hinders_204 : decode cX6_hinders 204 = .ok (.aload_n 0, 1) := by decide +kernel
theorem dX6_hinders_205 : decode cX6_hinders 205 = .ok (.getfield 81, 3) := by decide +kernel
theorem dX6_hinders_208 : decode cX6_hinders 208 = .ok (.iload 7, 2) := by decide +kernel
theorem dX6_hinders_210 : decode cX6_hinders 210 = .ok (.iaload, 1) := by decide +kernel
theorem dX6_hinders_211 : decode cX6_hinders 211 = .ok (.iload_n 1, 1) := by decide +kernel
theorem dX6_hinders_212 : decode cX6_hinders 212 = .ok (.if_icmp .ne 7, 3) := by decide +kernel
theorem dX6_hinders_215 : decode cX6_hinders 215 = .ok (.iconst 1, 1) := by decide +kernel
theorem dX6_hinders_216 : decode cX6_hinders 216 = .ok (.goto 4, 3) := by decide +kernel
theorem dX6_hinders_219 : decode cX6_hinders 219 = .ok (.iconst 0, 1) := by decide +kernel
theorem dX6_hinders_220 : decode cX6_hinders 220 = .ok (.istore 6, 2) := by decide +kernel
theorem dX6_hinders_222 : decode cX6_hinders 222 = .ok (.iinc 7 1, 3) := by decide +kernel
theorem dX6_hinders_225 : decode cX6_hinders 225 = .ok (.goto (-162), 3) := by decide +kernel
theorem dX6_hinders_228 : decode cX6_hinders 228 = .ok (.iload 4, 2) := by decide +kernel
theorem dX6_hinders_230 : decode cX6_hinders 230 = .ok (.aload_n 0, 1) := by decide +kernel
theorem dX6_hinders_231 : decode cX6_hinders 231 = .ok (.getfield 44, 3) := by decide +kernel
theorem dX6_hinders_234 : decode cX6_hinders 234 = .ok (.iload_n 1, 1) := by decide +kernel
theorem dX6_hinders_235 : decode cX6_hinders 235 = .ok (.iaload, 1) := by decide +kernel
theorem dX6_hinders_236 : decode cX6_hinders 236 = .ok (.if_icmp .lt 5, 3) := by decide +kernel
theorem dX6_hinders_239 : decode cX6_hinders 239 = .ok (.iconst 3, 1) := by decide +kernel
theorem dX6_hinders_240 : decode cX6_hinders 240 = .ok (.ireturn, 1) := by decide +kernel
theorem dX6_hinders_241 : decode cX6_hinders 241 = .ok (.aload_n 0, 1) := by decide +kernel
theorem dX6_hinders_242 : decode cX6_hinders 242 = .ok (.getfield 23, 3) := by decide +kernel
theorem dX6_hinders_245 : decode cX6_hinders 245 = .ok (.iload_n 1, 1) := by decide +kernel
theorem dX6_hinders_246 : decode cX6_hinders 246 = .ok (.iaload, 1) := by decide +kernel
theorem dX6_hinders_247 : decode cX6_hinders 247 = .ok (.ifCond .ne 33, 3) := by decide +kernel
theorem dX6_hinders_250 : decode cX6_hinders 250 = .ok (.aload_n 0, 1) := by decide +kernel
theorem dX6_hinders_251 : decode cX6_hinders 251 = .ok (.iload_n 1, 1) := by decide +kernel
theorem dX6_hinders_252 : decode cX6_hinders 252 = .ok (.invokevirtual 178, 3) := by decide +kernel
theorem dX6_hinders_255 : decode cX6_hinders 255 = .ok (.aload_n 0, 1) := by decide +kernel
theorem dX6_hinders_256 : decode cX6_hinders 256 = .ok (.getfield 35, 3) := by decide +kernel
theorem dX6_hinders_259 : decode cX6_hinders 259 = .ok (.iload_n 1, 1) := by decide +kernel
theorem dX6_hinders_260 : decode cX6_hinders 260 = .ok (.iaload, 1) := by decide +kernel
theorem dX6_hinders_261 : decode cX6_hinders 261 = .ok (.if_icmp .lt 17, 3) := by decide +kernel
theorem dX6_hinders_264 : decode cX6_hinders 264 = .ok (.aload_n 0, 1) := by decide +kernel
theorem dX6_hinders_265 : decode cX6_hinders 265 = .ok (.iload_n 1, 1) := by decide +kernel
theorem dX6_hinders_266 : decode cX6_hinders 266 = .ok (.invokevirtual 182, 3) := by decide +kernel
theorem dX6_hinders_269 : decode cX6_hinders 269 = .ok (.aload_n 0, 1) := by decide +kernel
theorem dX6_hinders_270 : decode cX6_hinders 270 = .ok (.getfield 35, 3) := by decide +kernel
theorem dX6_hinders_273 : decode cX6_hinders 273 = .ok (.iload_n 1, 1) := by decide +kernel
theorem dX6_hinders_274 : decode cX6_hinders 274 = .ok (.iaload, 1) := by decide +kernel
theorem dX6_hinders_275 : decode cX6_hinders 275 = .ok (.if_icmp .ge 5, 3) := by decide +kernel
theorem dX6_hinders_278 : decode cX6_hinders 278 = .ok (.iconst 4, 1) := by decide +kernel
theorem dX6_hinders_279 : decode cX6_hinders 279 = .ok (.ireturn, 1) := by decide +kernel
theorem dX6_hinders_280 : decode cX6_hinders 280 = .ok (.aload_n 0, 1) := by decide +kernel
theorem dX6_hinders_281 : decode cX6_hinders 281 = .ok (.iload_n 1, 1) := by decide +kernel
theorem dX6_hinders_282 : decode cX6_hinders 282 = .ok (.iload_n 2, 1) := by decide +kernel
theorem dX6_hinders_283 : decode cX6_hinders 283 = .ok (.invokevirtual 185, 3) := by decide +kernel
theorem dX6_hinders_286 : decode cX6_hinders 286 = .ok (.aload_n 0, 1) := by decide +kernel
theorem dX6_hinders_287 : decode cX6_hinders 287 = .ok (.getfield 50, 3) := by decide +kernel
theorem dX6_hinders_290 : decode cX6_hinders 290 = .ok (.iload_n 1, 1) := by decide +kernel
theorem dX6_hinders_291 : decode cX6_hinders 291 = .ok (.iaload, 1) := by decide +kernel
theorem dX6_hinders_292 : decode cX6_hinders 292 = .ok (.if_icmp .lt 5, 3) := by decide +kernel
theorem dX6_hinders_295 : decode cX6_hinders 295 = .ok (.iconst 5, 1) := by decide +kernel
theorem dX6_hinders_296 : decode cX6_hinders 296 = .ok (.ireturn, 1) := by decide +kernel
theorem dX6_hinders_297 : decode cX6_hinders 297 = .ok (.iload 5, 2) := by decide +kernel
theorem dX6_hinders_299 : decode cX6_hinders 299 = .ok (.ifCond .eq 8, 3) := by decide +kernel
theorem dX6_hinders_302 : decode cX6_hinders 302 = .ok (.bipush 6, 2) := by decide +kernel
theorem dX6_hinders_304 : decode cX6_hinders 304 = .ok (.goto 14, 3) := by decide +kernel
theorem dX6_hinders_307 : decode cX6_hinders 307 = .ok (.iload 6, 2) := by decide +kernel
theorem dX6_hinders_309 : decode cX6_hinders 309 = .ok (.ifCond .eq 8, 3) := by decide +kernel
theorem dX6_hinders_312 : decode cX6_hinders 312 = .ok (.bipush 7, 2) := by decide +kernel
theorem dX6_hinders_314 : decode cX6_hinders 314 = .ok (.goto 4, 3) := by decide +kernel
theorem dX6_hinders_317 : decode cX6_hinders 317 = .ok (.iconst 0, 1) := by decide +kernel
theorem dX6_hinders_318 : decode cX6_hinders 318 = .ok (.ireturn, 1) := by decide +kernel
theorem dX6_worthOf_0 : decode cX6_worthOf 0 = .ok (.aload_n 0, 1) := by decide +kernel
theorem dX6_worthOf_1 : decode cX6_worthOf 1 = .ok (.getfield 23, 3) := by decide +kernel
theorem dX6_worthOf_4 : decode cX6_worthOf 4 = .ok (.iload_n 1, 1) := by decide +kernel
theorem dX6_worthOf_5 : decode cX6_worthOf 5 = .ok (.iaload, 1) := by decide +kernel
theorem dX6_worthOf_6 : decode cX6_worthOf 6 = .ok (.iconst 2, 1) := by decide +kernel
theorem dX6_worthOf_7 : decode cX6_worthOf 7 = .ok (.if_icmp .ne 5, 3) := by decide +kernel
theorem dX6_worthOf_10 : decode cX6_worthOf 10 = .ok (.lconst 0, 1) := by decide +kernel
theorem dX6_worthOf_11 : decode cX6_worthOf 11 = .ok (.lreturn, 1) := by decide +kernel
theorem dX6_worthOf_12 : decode cX6_worthOf 12 = .ok (.ldc2_w 188, 3) := by decide +kernel
theorem dX6_worthOf_15 : decode cX6_worthOf 15 = .ok (.aload_n 0, 1) := by decide +kernel
theorem dX6_worthOf_16 : decode cX6_worthOf 16 = .ok (.getfield 35, 3) := by decide +kernel
theorem dX6_worthOf_19 : decode cX6_worthOf 19 = .ok (.iload_n 1, 1) := by decide +kernel
theorem dX6_worthOf_20 : decode cX6_worthOf 20 = .ok (.iaload, 1) := by decide +kernel
theorem dX6_worthOf_21 : decode cX6_worthOf 21 = .ok (.i2l, 1) := by decide +kernel
theorem dX6_worthOf_22 : decode cX6_worthOf 22 = .ok (.lmul, 1) := by decide +kernel
theorem dX6_worthOf_23 : decode cX6_worthOf 23 = .ok (.iload_n 2, 1) := by decide +kernel
theorem dX6_worthOf_24 : decode cX6_worthOf 24 = .ok (.i2l, 1) := by decide +kernel
theorem dX6_worthOf_25 : decode cX6_worthOf 25 = .ok (.lmul, 1) := by decide +kernel
theorem dX6_worthOf_26 : decode cX6_worthOf 26 = .ok (.lstore_n 3, 1) := by decide +kernel
theorem dX6_worthOf_27 : decode cX6_worthOf 27 = .ok (.aload_n 0, 1) := by decide +kernel
theorem dX6_worthOf_28 : decode cX6_worthOf 28 = .ok (.getfield 26, 3) := by decide +kernel
theorem dX6_worthOf_31 : decode cX6_worthOf 31 = .ok (.iload_n 1, 1) := by decide +kernel
theorem dX6_worthOf_32 : decode cX6_worthOf 32 = .ok (.iaload, 1) := by decide +kernel
theorem dX6_worthOf_33 : decode cX6_worthOf 33 = .ok (.iconst 1, 1) := by decide +kernel
theorem dX6_worthOf_34 : decode cX6_worthOf 34 = .ok (.if_icmp .ne 32, 3) := by decide +kernel
theorem dX6_worthOf_37 : decode cX6_worthOf 37 = .ok (.lload_n 3, 1) := by decide +kernel
theorem dX6_worthOf_38 : decode cX6_worthOf 38 = .ok (.aload_n 0, 1) := by decide +kernel
theorem dX6_worthOf_39 : decode cX6_worthOf 39 = .ok (.iload_n 1, 1) := by decide +kernel
theorem dX6_worthOf_40 : decode cX6_worthOf 40 = .ok (.aload_n 0, 1) := by decide +kernel
theorem dX6_worthOf_41 : decode cX6_worthOf 41 = .ok (.getfield 152, 3) := by decide +kernel
theorem dX6_worthOf_44 : decode cX6_worthOf 44 = .ok (.invokevirtual 190, 3) := by decide +kernel
theorem dX6_worthOf_47 : decode cX6_worthOf 47 = .ok (.iconst 1, 1) := by decide +kernel
theorem dX6_worthOf_48 : decode cX6_worthOf 48 = .ok (.iadd, 1) := by decide +kernel
theorem dX6_worthOf_49 : decode cX6_worthOf 49 = .ok (.i2l, 1) := by decide +kernel
theorem dX6_worthOf_50 : decode cX6_worthOf 50 = .ok (.lmul, 1) := by decide +kernel
theorem dX6_worthOf_51 : decode cX6_worthOf 51 = .ok (.aload_n 0, 1) := by decide +kernel
theorem dX6_worthOf_52 : decode cX6_worthOf 52 = .ok (.iload_n 1, 1) := by decide +kernel
theorem dX6_worthOf_53 : decode cX6_worthOf 53 = .ok (.aload_n 0, 1) := by decide +kernel
theorem dX6_worthOf_54 : decode cX6_worthOf 54 = .ok (.getfield 152, 3) := by decide +kernel
theorem dX6_worthOf_57 : decode cX6_worthOf 57 = .ok (.invokevirtual 172, 3) := by decide +kernel
theorem dX6_worthOf_60 : decode cX6_worthOf 60 = .ok (.bipush 20, 2) := by decide +kernel
theorem dX6_worthOf_62 : decode cX6_worthOf 62 = .ok (.iadd, 1) := by decide +kernel
theorem dX6_worthOf_63 : decode cX6_worthOf 63 = .ok (.i2l, 1) := by decide +kernel
theorem dX6_worthOf_64 : decode cX6_worthOf 64 = .ok (.ldiv, 1) := by decide +kernel
theorem dX6_worthOf_65 : decode cX6_worthOf 65 = .ok (.lstore_n 3, 1) := by decide +kernel
theorem dX6_worthOf_66 : decode cX6_worthOf 66 = .ok (.aload_n 0, 1) := by decide +kernel
theorem dX6_worthOf_67 : decode cX6_worthOf 67 = .ok (.iload_n 1, 1) := by decide +kernel
theorem dX6_worthOf_68 : decode cX6_worthOf 68 = .ok (.invokevirtual 193, 3) := by decide +kernel
theorem dX6_worthOf_71 : decode cX6_worthOf 71 = .ok (.ifCond .eq 11, 3) := by decide +kernel
theorem dX6_worthOf_74 : decode cX6_worthOf 74 = .ok (.lload_n 3, 1) := by decide +kernel
theorem dX6_worthOf_75 : decode cX6_worthOf 75 = .ok (.ldc2_w 196, 3) := by decide +kernel
theorem dX6_worthOf_78 : decode cX6_worthOf 78 = .ok (.ladd, 1) := by decide +kernel
theorem dX6_worthOf_79 : decode cX6_worthOf 79 = .ok (.goto 4, 3) := by decide +kernel
theorem dX6_worthOf_82 : decode cX6_worthOf 82 = .ok (.lload_n 3, 1) := by decide +kernel
theorem dX6_worthOf_83 : decode cX6_worthOf 83 = .ok (.lreturn, 1) := by decide +kernel
theorem dX6_fits_0 : decode cX6_fits 0 = .ok (.iload_n 1, 1) := by decide +kernel
theorem dX6_fits_1 : decode cX6_fits 1 = .ok (.iload_n 3, 1) := by decide +kernel
theorem dX6_fits_2 : decode cX6_fits 2 = .ok (.if_icmp .ne 5, 3) := by decide +kernel
theorem dX6_fits_5 : decode cX6_fits 5 = .ok (.iconst 0, 1) := by decide +kernel
theorem dX6_fits_6 : decode cX6_fits 6 = .ok (.ireturn, 1) := by decide +kernel
theorem dX6_fits_7 : decode cX6_fits 7 = .ok (.iconst 0, 1) := by decide +kernel
theorem dX6_fits_8 : decode cX6_fits 8 = .ok (.istore 4, 2) := by decide +kernel
theorem dX6_fits_10 : decode cX6_fits 10 = .ok (.iload 4, 2) := by decide +kernel
theorem dX6_fits_12 : decode cX6_fits 12 = .ok (.iload_n 2, 1) := by decide +kernel
theorem dX6_fits_13 : decode cX6_fits 13 = .ok (.if_icmp .ge 60, 3) := by decide +kernel
theorem dX6_fits_16 : decode cX6_fits 16 = .ok (.aload_n 0, 1) := by decide +kernel
theorem dX6_fits_17 : decode cX6_fits 17 = .ok (.getfield 106, 3) := by decide +kernel
theorem dX6_fits_20 : decode cX6_fits 20 = .ok (.iload 4, 2) := by decide +kernel
theorem dX6_fits_22 : decode cX6_fits 22 = .ok (.iaload, 1) := by decide +kernel
theorem dX6_fits_23 : decode cX6_fits 23 = .ok (.istore 5, 2) := by decide +kernel
theorem dX6_fits_25 : decode cX6_fits 25 = .ok (.iload 5, 2) := by decide +kernel
theorem dX6_fits_27 : decode cX6_fits 27 = .ok (.iload_n 1, 1) := by decide +kernel
theorem dX6_fits_28 : decode cX6_fits 28 = .ok (.if_icmp .eq 37, 3) := by decide +kernel
theorem dX6_fits_31 : decode cX6_fits 31 = .ok (.iload 5, 2) := by decide +kernel
theorem dX6_fits_33 : decode cX6_fits 33 = .ok (.aload_n 0, 1) := by decide +kernel
theorem dX6_fits_34 : decode cX6_fits 34 = .ok (.getfield 198, 3) := by decide +kernel
theorem dX6_fits_37 : decode cX6_fits 37 = .ok (.if_icmp .ge 30, 3) := by decide +kernel
theorem dX6_fits_40 : decode cX6_fits 40 = .ok (.aload_n 0, 1) := by decide +kernel
theorem dX6_fits_41 : decode cX6_fits 41 = .ok (.getfield 57, 3) := by decide +kernel
theorem dX6_fits_44 : decode cX6_fits 44 = .ok (.bipush 40, 2) := by decide +kernel
theorem dX6_fits_46 : decode cX6_fits 46 = .ok (.aload_n 0, 1) := by decide +kernel
theorem dX6_fits_47 : decode cX6_fits 47 = .ok (.getfield 96, 3) := by decide +kernel
theorem dX6_fits_50 : decode cX6_fits 50 = .ok (.iload_n 1, 1) := by decide +kernel
theorem dX6_fits_51 : decode cX6_fits 51 = .ok (.iaload, 1) := by decide +kernel
theorem dX6_fits_52 : decode cX6_fits 52 = .ok (.imul, 1) := by decide +kernel
theorem dX6_fits_53 : decode cX6_fits 53 = .ok (.aload_n 0, 1) := by decide +kernel
theorem dX6_fits_54 : decode cX6_fits 54 = .ok (.getfield 96, 3) := by decide +kernel
theorem dX6_fits_57 : decode cX6_fits 57 = .ok (.iload 5, 2) := by decide +kernel
theorem dX6_fits_59 : decode cX6_fits 59 = .ok (.iaload, 1) := by decide +kernel
theorem dX6_fits_60 : decode cX6_fits 60 = .ok (.iadd, 1) := by decide +kernel
theorem dX6_fits_61 : decode cX6_fits 61 = .ok (.baload, 1) := by decide +kernel
theorem dX6_fits_62 : decode cX6_fits 62 = .ok (.ifCond .eq 5, 3) := by decide +kernel
theorem dX6_fits_65 : decode cX6_fits 65 = .ok (.iconst 0, 1) := by decide +kernel
theorem dX6_fits_66 : decode cX6_fits 66 = .ok (.ireturn, 1) := by decide +kernel
theorem dX6_fits_67 : decode cX6_fits 67 = .ok (.iinc 4 1, 3) := by decide +kernel
theorem dX6_fits_70 : decode cX6_fits 70 = .ok (.goto (-60), 3) := by decide +kernel
theorem dX6_fits_73 : decode cX6_fits 73 = .ok (.iconst 1, 1) := by decide +kernel
theorem dX6_fits_74 : decode cX6_fits 74 = .ok (.ireturn, 1) := by decide +kernel
theorem dX5_isWithin_0 : decode cX5_isWithin 0 = .ok (.iload_n 0, 1) := by decide +kernel
theorem dX5_isWithin_1 : decode cX5_isWithin 1 = .ok (.iload_n 1, 1) := by decide +kernel
theorem dX5_isWithin_2 : decode cX5_isWithin 2 = .ok (.if_icmp .lt 12, 3) := by decide +kernel
theorem dX5_isWithin_5 : decode cX5_isWithin 5 = .ok (.iload_n 0, 1) := by decide +kernel
theorem dX5_isWithin_6 : decode cX5_isWithin 6 = .ok (.iload_n 2, 1) := by decide +kernel
theorem dX5_isWithin_7 : decode cX5_isWithin 7 = .ok (.if_icmp .gt 7, 3) := by decide +kernel
theorem dX5_isWithin_10 : decode cX5_isWithin 10 = .ok (.iconst 1, 1) := by decide +kernel
theorem dX5_isWithin_11 : decode cX5_isWithin 11 = .ok (.goto 4, 3) := by decide +kernel
theorem dX5_isWithin_14 : decode cX5_isWithin 14 = .ok (.iconst 0, 1) := by decide +kernel
theorem dX5_isWithin_15 : decode cX5_isWithin 15 = .ok (.ireturn, 1) := by decide +kernel
theorem dX6_in_0 : decode cX6_in 0 = .ok (.iload_n 0, 1) := by decide +kernel
theorem dX6_in_1 : decode cX6_in 1 = .ok (.iload_n 1, 1) := by decide +kernel
theorem dX6_in_2 : decode cX6_in 2 = .ok (.if_icmp .lt 12, 3) := by decide +kernel
theorem dX6_in_5 : decode cX6_in 5 = .ok (.iload_n 0, 1) := by decide +kernel
theorem dX6_in_6 : decode cX6_in 6 = .ok (.iload_n 2, 1) := by decide +kernel
theorem dX6_in_7 : decode cX6_in 7 = .ok (.if_icmp .gt 7, 3) := by decide +kernel
theorem dX6_in_10 : decode cX6_in 10 = .ok (.iconst 1, 1) := by decide +kernel
theorem dX6_in_11 : decode cX6_in 11 = .ok (.goto 4, 3) := by decide +kernel
theorem dX6_in_14 : decode cX6_in 14 = .ok (.iconst 0, 1) := by decide +kernel
theorem dX6_in_15 : decode cX6_in 15 = .ok (.ireturn, 1) := by decide +kernel
theorem dX5_isReader_0 : decode cX5_isReader 0 = .ok (.iload_n 0, 1) := by decide +kernel
theorem dX5_isReader_1 : decode cX5_isReader 1 = .ok (.ifCond .lt 13, 3) := by decide +kernel
theorem dX5_isReader_4 : decode cX5_isReader 4 = .ok (.iload_n 0, 1) := by decide +kernel
theorem dX5_isReader_5 : decode cX5_isReader 5 = .ok (.bipush 100, 2) := by decide +kernel
theorem dX5_isReader_7 : decode cX5_isReader 7 = .ok (.if_icmp .ge 7, 3) := by decide +kernel
theorem dX5_isReader_10 : decode cX5_isReader 10 = .ok (.iconst 1, 1) := by decide +kernel
theorem dX5_isReader_11 : decode cX5_isReader 11 = .ok (.goto 4, 3) := by decide +kernel
theorem dX5_isReader_14 : decode cX5_isReader 14 = .ok (.iconst 0, 1) := by decide +kernel
theorem dX5_isReader_15 : decode cX5_isReader 15 = .ok (.ireturn, 1) := by decide +kernel
theorem dX5_isSort_0 : decode cX5_isSort 0 = .ok (.iload_n 0, 1) := by decide +kernel
theorem dX5_isSort_1 : decode cX5_isSort 1 = .ok (.ifCond .eq 20, 3) := by decide +kernel
theorem dX5_isSort_4 : decode cX5_isSort 4 = .ok (.iload_n 0, 1) := by decide +kernel
theorem dX5_isSort_5 : decode cX5_isSort 5 = .ok (.iconst 1, 1) := by decide +kernel
theorem dX5_isSort_6 : decode cX5_isSort 6 = .ok (.if_icmp .eq 15, 3) := by decide +kernel
theorem dX5_isSort_9 : decode cX5_isSort 9 = .ok (.iload_n 0, 1) := by decide +kernel
theorem dX5_isSort_10 : decode cX5_isSort 10 = .ok (.bipush 10, 2) := by decide +kernel
theorem dX5_isSort_12 : decode cX5_isSort 12 = .ok (.if_icmp .eq 9, 3) := by decide +kernel
theorem dX5_isSort_15 : decode cX5_isSort 15 = .ok (.iload_n 0, 1) := by decide +kernel
theorem dX5_isSort_16 : decode cX5_isSort 16 = .ok (.bipush 20, 2) := by decide +kernel
theorem dX5_isSort_18 : decode cX5_isSort 18 = .ok (.if_icmp .ne 7, 3) := by decide +kernel
theorem dX5_isSort_21 : decode cX5_isSort 21 = .ok (.iconst 1, 1) := by decide +kernel
theorem dX5_isSort_22 : decode cX5_isSort 22 = .ok (.goto 4, 3) := by decide +kernel
theorem dX5_isSort_25 : decode cX5_isSort 25 = .ok (.iconst 0, 1) := by decide +kernel
theorem dX5_isSort_26 : decode cX5_isSort 26 = .ok (.ireturn, 1) := by decide +kernel
theorem dX5_isWish_0 : decode cX5_isWish 0 = .ok (.iload_n 0, 1) := by decide +kernel
theorem dX5_isWish_1 : decode cX5_isWish 1 = .ok (.ifCond .lt 14, 3) := by decide +kernel
theorem dX5_isWish_4 : decode cX5_isWish 4 = .ok (.iload_n 0, 1) := by decide +kernel
theorem dX5_isWish_5 : decode cX5_isWish 5 = .ok (.sipush 4096, 3) := by decide +kernel
theorem dX5_isWish_8 : decode cX5_isWish 8 = .ok (.idiv, 1) := by decide +kernel
theorem dX5_isWish_9 : decode cX5_isWish 9 = .ok (.sipush 4095, 3) := by decide +kernel
theorem dX5_isWish_12 : decode cX5_isWish 12 = .ok (.if_icmp .le 5, 3) := by decide +kernel
theorem dX5_isWish_15 : decode cX5_isWish 15 = .ok (.iconst 0, 1) := by decide +kernel
theorem dX5_isWish_16 : decode cX5_isWish 16 = .ok (.ireturn, 1) := by decide +kernel
theorem dX5_isWish_17 : decode cX5_isWish 17 = .ok (.iload_n 0, 1) := by decide +kernel
theorem dX5_isWish_18 : decode cX5_isWish 18 = .ok (.sipush 4096, 3) := by decide +kernel
theorem dX5_isWish_21 : decode cX5_isWish 21 = .ok (.idiv, 1) := by decide +kernel
theorem dX5_isWish_22 : decode cX5_isWish 22 = .ok (.iload_n 0, 1) := by decide +kernel
theorem dX5_isWish_23 : decode cX5_isWish 23 = .ok (.sipush 4096, 3) := by decide +kernel
theorem dX5_isWish_26 : decode cX5_isWish 26 = .ok (.irem, 1) := by decide +kernel
theorem dX5_isWish_27 : decode cX5_isWish 27 = .ok (.iand, 1) := by decide +kernel
theorem dX5_isWish_28 : decode cX5_isWish 28 = .ok (.ifCond .ne 7, 3) := by decide +kernel
theorem dX5_isWish_31 : decode cX5_isWish 31 = .ok (.iconst 1, 1) := by decide +kernel
theorem dX5_isWish_32 : decode cX5_isWish 32 = .ok (.goto 4, 3) := by decide +kernel
theorem dX5_isWish_35 : decode cX5_isWish 35 = .ok (.iconst 0, 1) := by decide +kernel
theorem dX5_isWish_36 : decode cX5_isWish 36 = .ok (.ireturn, 1) := by decide +kernel
theorem dX5_isBid_0 : decode cX5_isBid 0 = .ok (.iload_n 0, 1) := by decide +kernel
theorem dX5_isBid_1 : decode cX5_isBid 1 = .ok (.iconst 2, 1) := by decide +kernel
theorem dX5_isBid_2 : decode cX5_isBid 2 = .ok (.if_icmp .ne 15, 3) := by decide +kernel
theorem dX5_isBid_5 : decode cX5_isBid 5 = .ok (.iload_n 1, 1) := by decide +kernel
theorem dX5_isBid_6 : decode cX5_isBid 6 = .ok (.ifCond .ne 7, 3) := by decide +kernel
theorem dX5_isBid_9 : decode cX5_isBid 9 = .ok (.iconst 1, 1) := by decide +kernel
theorem dX5_isBid_10 : decode cX5_isBid 10 = .ok (.goto 15, 3) := by decide +kernel
theorem dX5_isBid_13 : decode cX5_isBid 13 = .ok (.iconst 0, 1) := by decide +kernel
theorem dX5_isBid_14 : decode cX5_isBid 14 = .ok (.goto 11, 3) := by decide +kernel
theorem dX5_isBid_17 : decode cX5_isBid 17 = .ok (.iload_n 1, 1) := by decide +kernel
theorem dX5_isBid_18 : decode cX5_isBid 18 = .ok (.iconst 1, 1) := by decide +kernel
theorem dX5_isBid_19 : decode cX5_isBid 19 = .ok (.sipush 1000, 3) := by decide +kernel
theorem dX5_isBid_22 : decode cX5_isBid 22 = .ok (.invokestatic 65, 3) := by decide +kernel
theorem dX5_isBid_25 : decode cX5_isBid 25 = .ok (.ireturn, 1) := by decide +kernel
theorem dX6_isReader_0 : decode cX6_isReader 0 = .ok (.iload_n 0, 1) := by decide +kernel
theorem dX6_isReader_1 : decode cX6_isReader 1 = .ok (.iconst 0, 1) := by decide +kernel
theorem dX6_isReader_2 : decode cX6_isReader 2 = .ok (.bipush 99, 2) := by decide +kernel
theorem dX6_isReader_4 : decode cX6_isReader 4 = .ok (.invokestatic 136, 3) := by decide +kernel
theorem dX6_isReader_7 : decode cX6_isReader 7 = .ok (.ireturn, 1) := by decide +kernel
theorem dX5_isPage_0 : decode cX5_isPage 0 = .ok (.iload_n 1, 1) := by decide +kernel
theorem dX5_isPage_1 : decode cX5_isPage 1 = .ok (.ifCond .lt 15, 3) := by decide +kernel
theorem dX5_isPage_4 : decode cX5_isPage 4 = .ok (.iload_n 1, 1) := by decide +kernel
theorem dX5_isPage_5 : decode cX5_isPage 5 = .ok (.aload_n 0, 1) := by decide +kernel
theorem dX5_isPage_6 : decode cX5_isPage 6 = .ok (.getfield 55, 3) := by decide +kernel
theorem dX5_isPage_9 : decode cX5_isPage 9 = .ok (.if_icmp .ge 7, 3) := by decide +kernel
theorem dX5_isPage_12 : decode cX5_isPage 12 = .ok (.iconst 1, 1) := by decide +kernel
theorem dX5_isPage_13 : decode cX5_isPage 13 = .ok (.goto 4, 3) := by decide +kernel
theorem dX5_isPage_16 : decode cX5_isPage 16 = .ok (.iconst 0, 1) := by decide +kernel
theorem dX5_isPage_17 : decode cX5_isPage 17 = .ok (.ireturn, 1) := by decide +kernel
theorem dX5_isCampaign_0 : decode cX5_isCampaign 0 = .ok (.iload_n 1, 1) := by decide +kernel
theorem dX5_isCampaign_1 : decode cX5_isCampaign 1 = .ok (.ifCond .lt 15, 3) := by decide +kernel
theorem dX5_isCampaign_4 : decode cX5_isCampaign 4 = .ok (.iload_n 1, 1) := by decide +kernel
theorem dX5_isCampaign_5 : decode cX5_isCampaign 5 = .ok (.aload_n 0, 1) := by decide +kernel
theorem dX5_isCampaign_6 : decode cX5_isCampaign 6 = .ok (.getfield 79, 3) := by decide +kernel
theorem dX5_isCampaign_9 : decode cX5_isCampaign 9 = .ok (.if_icmp .ge 7, 3) := by decide +kernel
theorem dX5_isCampaign_12 : decode cX5_isCampaign 12 = .ok (.iconst 1, 1) := by decide +kernel
theorem dX5_isCampaign_13 : decode cX5_isCampaign 13 = .ok (.goto 4, 3) := by decide +kernel
theorem dX5_isCampaign_16 : decode cX5_isCampaign 16 = .ok (.iconst 0, 1) := by decide +kernel
theorem dX5_isCampaign_17 : decode cX5_isCampaign 17 = .ok (.ireturn, 1) := by decide +kernel
theorem dX5_isSale_0 : decode cX5_isSale 0 = .ok (.iload_n 1, 1) := by decide +kernel
theorem dX5_isSale_1 : decode cX5_isSale 1 = .ok (.ifCond .lt 15, 3) := by decide +kernel
theorem dX5_isSale_4 : decode cX5_isSale 4 = .ok (.iload_n 1, 1) := by decide +kernel
theorem dX5_isSale_5 : decode cX5_isSale 5 = .ok (.aload_n 0, 1) := by decide +kernel
theorem dX5_isSale_6 : decode cX5_isSale 6 = .ok (.getfield 138, 3) := by decide +kernel
theorem dX5_isSale_9 : decode cX5_isSale 9 = .ok (.if_icmp .ge 7, 3) := by decide +kernel
theorem dX5_isSale_12 : decode cX5_isSale 12 = .ok (.iconst 1, 1) := by decide +kernel
theorem dX5_isSale_13 : decode cX5_isSale 13 = .ok (.goto 4, 3) := by decide +kernel
theorem dX5_isSale_16 : decode cX5_isSale 16 = .ok (.iconst 0, 1) := by decide +kernel
theorem dX5_isSale_17 : decode cX5_isSale 17 = .ok (.ireturn, 1) := by decide +kernel
theorem dX6_isPage_0 : decode cX6_isPage 0 = .ok (.iload_n 1, 1) := by decide +kernel
theorem dX6_isPage_1 : decode cX6_isPage 1 = .ok (.iconst 0, 1) := by decide +kernel
theorem dX6_isPage_2 : decode cX6_isPage 2 = .ok (.aload_n 0, 1) := by decide +kernel
theorem dX6_isPage_3 : decode cX6_isPage 3 = .ok (.getfield 133, 3) := by decide +kernel
theorem dX6_isPage_6 : decode cX6_isPage 6 = .ok (.iconst 1, 1) := by decide +kernel
theorem dX6_isPage_7 : decode cX6_isPage 7 = .ok (.isub, 1) := by decide +kernel
theorem dX6_isPage_8 : decode cX6_isPage 8 = .ok (.invokestatic 136, 3) := by decide +kernel
theorem dX6_isPage_11 : decode cX6_isPage 11 = .ok (.ireturn, 1) := by decide +kernel
theorem dX6_isCampaign_0 : decode cX6_isCampaign 0 = .ok (.iload_n 1, 1) := by decide +kernel
theorem dX6_isCampaign_1 : decode cX6_isCampaign 1 = .ok (.iconst 0, 1) := by decide +kernel
theorem dX6_isCampaign_2 : decode cX6_isCampaign 2 = .ok (.aload_n 0, 1) := by decide +kernel
theorem dX6_isCampaign_3 : decode cX6_isCampaign 3 = .ok (.getfield 140, 3) := by decide +kernel
theorem dX6_isCampaign_6 : decode cX6_isCampaign 6 = .ok (.iconst 1, 1) := by decide +kernel
theorem dX6_isCampaign_7 : decode cX6_isCampaign 7 = .ok (.isub, 1) := by decide +kernel
theorem dX6_isCampaign_8 : decode cX6_isCampaign 8 = .ok (.invokestatic 136, 3) := by decide +kernel
theorem dX6_isCampaign_11 : decode cX6_isCampaign 11 = .ok (.ireturn, 1) := by decide +kernel
theorem dX6_isSale_0 : decode cX6_isSale 0 = .ok (.iload_n 1, 1) := by decide +kernel
theorem dX6_isSale_1 : decode cX6_isSale 1 = .ok (.iconst 0, 1) := by decide +kernel
theorem dX6_isSale_2 : decode cX6_isSale 2 = .ok (.aload_n 0, 1) := by decide +kernel
theorem dX6_isSale_3 : decode cX6_isSale 3 = .ok (.getfield 161, 3) := by decide +kernel
theorem dX6_isSale_6 : decode cX6_isSale 6 = .ok (.iconst 1, 1) := by decide +kernel
theorem dX6_isSale_7 : decode cX6_isSale 7 = .ok (.isub, 1) := by decide +kernel
theorem dX6_isSale_8 : decode cX6_isSale 8 = .ok (.invokestatic 136, 3) := by decide +kernel
theorem dX6_isSale_11 : decode cX6_isSale 11 = .ok (.ireturn, 1) := by decide +kernel
theorem dX5_budget_0 : decode cX5_budget 0 = .ok (.aload_n 0, 1) := by decide +kernel
theorem dX5_budget_1 : decode cX5_budget 1 = .ok (.iload_n 1, 1) := by decide +kernel
theorem dX5_budget_2 : decode cX5_budget 2 = .ok (.invokevirtual 85, 3) := by decide +kernel
theorem dX5_budget_5 : decode cX5_budget 5 = .ok (.ifCond .eq 23, 3) := by decide +kernel
theorem dX5_budget_28 : decode cX5_budget 28 = .ok (.iconst (-1), 1) := by decide +kernel
theorem dX5_budget_29 : decode cX5_budget 29 = .ok (.ireturn, 1) := by decide +kernel
theorem dX6_budget_0 : decode cX6_budget 0 = .ok (.aload_n 0, 1) := by decide +kernel
theorem dX6_budget_1 : decode cX6_budget 1 = .ok (.iload_n 1, 1) := by decide +kernel
theorem dX6_budget_2 : decode cX6_budget 2 = .ok (.invokevirtual 148, 3) := by decide +kernel
theorem dX6_budget_5 : decode cX6_budget 5 = .ok (.ifCond .eq 23, 3) := by decide +kernel
theorem dX6_budget_8 : decode cX6_budget 8 = .ok (.iload_n 2, 1) := by decide +kernel
theorem dX6_budget_9 : decode cX6_budget 9 = .ok (.iconst 0, 1) := by decide +kernel
theorem dX6_budget_10 : decode cX6_budget 10 = .ok (.ldc 151, 2) := by decide +kernel
theorem dX6_budget_12 : decode cX6_budget 12 = .ok (.invokestatic 136, 3) := by decide +kernel
theorem dX6_budget_15 : decode cX6_budget 15 = .ok (.ifCond .eq 13, 3) := by decide +kernel
theorem dX6_budget_18 : decode cX6_budget 18 = .ok (.iload_n 3, 1) := by decide +kernel
theorem dX6_budget_19 : decode cX6_budget 19 = .ok (.iconst 0, 1) := by decide +kernel
theorem dX6_budget_20 : decode cX6_budget 20 = .ok (.ldc 151, 2) := by decide +kernel
theorem dX6_budget_22 : decode cX6_budget 22 = .ok (.invokestatic 136, 3) := by decide +kernel
theorem dX6_budget_25 : decode cX6_budget 25 = .ok (.ifCond .ne 5, 3) := by decide +kernel
theorem dX6_budget_28 : decode cX6_budget 28 = .ok (.iconst (-1), 1) := by decide +kernel
theorem dX6_budget_29 : decode cX6_budget 29 = .ok (.ireturn, 1) := by decide +kernel
theorem dX6_budget_30 : decode cX6_budget 30 = .ok (.aload_n 0, 1) := by decide +kernel
theorem dX6_budget_31 : decode cX6_budget 31 = .ok (.getfield 38, 3) := by decide +kernel
theorem dX6_budget_34 : decode cX6_budget 34 = .ok (.iload_n 1, 1) := by decide +kernel
theorem dX6_budget_35 : decode cX6_budget 35 = .ok (.iload_n 2, 1) := by decide +kernel
theorem dX6_budget_36 : decode cX6_budget 36 = .ok (.iastore, 1) := by decide +kernel
theorem dX6_budget_37 : decode cX6_budget 37 = .ok (.aload_n 0, 1) := by decide +kernel
theorem dX6_budget_38 : decode cX6_budget 38 = .ok (.getfield 41, 3) := by decide +kernel
theorem dX6_budget_41 : decode cX6_budget 41 = .ok (.iload_n 1, 1) := by decide +kernel
theorem dX6_budget_42 : decode cX6_budget 42 = .ok (.iload_n 3, 1) := by decide +kernel
theorem dX6_budget_43 : decode cX6_budget 43 = .ok (.iastore, 1) := by decide +kernel
theorem dX6_budget_44 : decode cX6_budget 44 = .ok (.iconst 1, 1) := by decide +kernel
theorem dX6_budget_45 : decode cX6_budget 45 = .ok (.ireturn, 1) := by decide +kernel
theorem dX5_cap_0 : decode cX5_cap 0 = .ok (.aload_n 0, 1) := by decide +kernel
theorem dX5_cap_1 : decode cX5_cap 1 = .ok (.iload_n 1, 1) := by decide +kernel
theorem dX5_cap_2 : decode cX5_cap 2 = .ok (.invokevirtual 85, 3) := by decide +kernel
theorem dX5_cap_5 : decode cX5_cap 5 = .ok (.ifCond .eq 24, 3) := by decide +kernel
theorem dX5_cap_29 : decode cX5_cap 29 = .ok (.iconst (-1), 1) := by decide +kernel
theorem dX5_cap_30 : decode cX5_cap 30 = .ok (.ireturn, 1) := by decide +kernel
theorem dX6_cap_0 : decode cX6_cap 0 = .ok (.aload_n 0, 1) := by decide +kernel
theorem dX6_cap_1 : decode cX6_cap 1 = .ok (.iload_n 1, 1) := by decide +kernel
theorem dX6_cap_2 : decode cX6_cap 2 = .ok (.invokevirtual 148, 3) := by decide +kernel
theorem dX6_cap_5 : decode cX6_cap 5 = .ok (.ifCond .eq 24, 3) := by decide +kernel
theorem dX6_cap_8 : decode cX6_cap 8 = .ok (.iload_n 2, 1) := by decide +kernel
theorem dX6_cap_9 : decode cX6_cap 9 = .ok (.iconst 1, 1) := by decide +kernel
theorem dX6_cap_10 : decode cX6_cap 10 = .ok (.bipush 9, 2) := by decide +kernel
theorem dX6_cap_12 : decode cX6_cap 12 = .ok (.invokestatic 136, 3) := by decide +kernel
theorem dX6_cap_15 : decode cX6_cap 15 = .ok (.ifCond .eq 14, 3) := by decide +kernel
theorem dX6_cap_18 : decode cX6_cap 18 = .ok (.iload_n 3, 1) := by decide +kernel
theorem dX6_cap_19 : decode cX6_cap 19 = .ok (.iconst 1, 1) := by decide +kernel
theorem dX6_cap_20 : decode cX6_cap 20 = .ok (.sipush 1000, 3) := by decide +kernel
theorem dX6_cap_23 : decode cX6_cap 23 = .ok (.invokestatic 136, 3) := by decide +kernel
theorem dX6_cap_26 : decode cX6_cap 26 = .ok (.ifCond .ne 5, 3) := by decide +kernel
theorem dX6_cap_29 : decode cX6_cap 29 = .ok (.iconst (-1), 1) := by decide +kernel
theorem dX6_cap_30 : decode cX6_cap 30 = .ok (.ireturn, 1) := by decide +kernel
theorem dX6_cap_31 : decode cX6_cap 31 = .ok (.aload_n 0, 1) := by decide +kernel
theorem dX6_cap_32 : decode cX6_cap 32 = .ok (.getfield 44, 3) := by decide +kernel
theorem dX6_cap_35 : decode cX6_cap 35 = .ok (.iload_n 1, 1) := by decide +kernel
theorem dX6_cap_36 : decode cX6_cap 36 = .ok (.iload_n 2, 1) := by decide +kernel
theorem dX6_cap_37 : decode cX6_cap 37 = .ok (.iastore, 1) := by decide +kernel
theorem dX6_cap_38 : decode cX6_cap 38 = .ok (.aload_n 0, 1) := by decide +kernel
theorem dX6_cap_39 : decode cX6_cap 39 = .ok (.getfield 47, 3) := by decide +kernel
theorem dX6_cap_42 : decode cX6_cap 42 = .ok (.iload_n 1, 1) := by decide +kernel
theorem dX6_cap_43 : decode cX6_cap 43 = .ok (.iload_n 3, 1) := by decide +kernel
theorem dX6_cap_44 : decode cX6_cap 44 = .ok (.iastore, 1) := by decide +kernel
theorem dX6_cap_45 : decode cX6_cap 45 = .ok (.iconst 1, 1) := by decide +kernel
theorem dX6_cap_46 : decode cX6_cap 46 = .ok (.ireturn, 1) := by decide +kernel
theorem dX5_apart_0 : decode cX5_apart 0 = .ok (.aload_n 0, 1) := by decide +kernel
theorem dX5_apart_1 : decode cX5_apart 1 = .ok (.iload_n 1, 1) := by decide +kernel
theorem dX5_apart_2 : decode cX5_apart 2 = .ok (.invokevirtual 85, 3) := by decide +kernel
theorem dX5_apart_5 : decode cX5_apart 5 = .ok (.ifCond .eq 25, 3) := by decide +kernel
theorem dX5_apart_30 : decode cX5_apart 30 = .ok (.iconst (-1), 1) := by decide +kernel
theorem dX5_apart_31 : decode cX5_apart 31 = .ok (.ireturn, 1) := by decide +kernel
theorem dX6_apart_0 : decode cX6_apart 0 = .ok (.aload_n 0, 1) := by decide +kernel
theorem dX6_apart_1 : decode cX6_apart 1 = .ok (.iload_n 1, 1) := by decide +kernel
theorem dX6_apart_2 : decode cX6_apart 2 = .ok (.invokevirtual 148, 3) := by decide +kernel
theorem dX6_apart_5 : decode cX6_apart 5 = .ok (.ifCond .eq 25, 3) := by decide +kernel
theorem dX6_apart_8 : decode cX6_apart 8 = .ok (.aload_n 0, 1) := by decide +kernel
theorem dX6_apart_9 : decode cX6_apart 9 = .ok (.iload_n 2, 1) := by decide +kernel
theorem dX6_apart_10 : decode cX6_apart 10 = .ok (.invokevirtual 148, 3) := by decide +kernel
theorem dX6_apart_13 : decode cX6_apart 13 = .ok (.ifCond .eq 17, 3) := by decide +kernel
theorem dX6_apart_16 : decode cX6_apart 16 = .ok (.iload_n 1, 1) := by decide +kernel
theorem dX6_apart_17 : decode cX6_apart 17 = .ok (.iload_n 2, 1) := by decide +kernel
theorem dX6_apart_18 : decode cX6_apart 18 = .ok (.if_icmp .eq 12, 3) := by decide +kernel
theorem dX6_apart_21 : decode cX6_apart 21 = .ok (.iload_n 3, 1) := by decide +kernel
theorem dX6_apart_22 : decode cX6_apart 22 = .ok (.iconst 0, 1) := by decide +kernel
theorem dX6_apart_23 : decode cX6_apart 23 = .ok (.iconst 1, 1) := by decide +kernel
theorem dX6_apart_24 : decode cX6_apart 24 = .ok (.invokestatic 136, 3) := by decide +kernel
theorem dX6_apart_27 : decode cX6_apart 27 = .ok (.ifCond .ne 5, 3) := by decide +kernel
theorem dX6_apart_30 : decode cX6_apart 30 = .ok (.iconst (-1), 1) := by decide +kernel
theorem dX6_apart_31 : decode cX6_apart 31 = .ok (.ireturn, 1) := by decide +kernel
theorem dX6_apart_32 : decode cX6_apart 32 = .ok (.aload_n 0, 1) := by decide +kernel
theorem dX6_apart_33 : decode cX6_apart 33 = .ok (.getfield 57, 3) := by decide +kernel
theorem dX6_apart_36 : decode cX6_apart 36 = .ok (.bipush 40, 2) := by decide +kernel
theorem dX6_apart_38 : decode cX6_apart 38 = .ok (.iload_n 1, 1) := by decide +kernel
theorem dX6_apart_39 : decode cX6_apart 39 = .ok (.imul, 1) := by decide +kernel
theorem dX6_apart_40 : decode cX6_apart 40 = .ok (.iload_n 2, 1) := by decide +kernel
theorem dX6_apart_41 : decode cX6_apart 41 = .ok (.iadd, 1) := by decide +kernel
theorem dX6_apart_42 : decode cX6_apart 42 = .ok (.baload, 1) := by decide +kernel
theorem dX6_apart_43 : decode cX6_apart 43 = .ok (.ifCond .eq 7, 3) := by decide +kernel
theorem dX6_apart_46 : decode cX6_apart 46 = .ok (.iconst 1, 1) := by decide +kernel
theorem dX6_apart_47 : decode cX6_apart 47 = .ok (.goto 4, 3) := by decide +kernel
theorem dX6_apart_50 : decode cX6_apart 50 = .ok (.iconst 0, 1) := by decide +kernel
theorem dX6_apart_51 : decode cX6_apart 51 = .ok (.istore 4, 2) := by decide +kernel
theorem dX6_apart_53 : decode cX6_apart 53 = .ok (.aload_n 0, 1) := by decide +kernel
theorem dX6_apart_54 : decode cX6_apart 54 = .ok (.getfield 57, 3) := by decide +kernel
theorem dX6_apart_57 : decode cX6_apart 57 = .ok (.bipush 40, 2) := by decide +kernel
theorem dX6_apart_59 : decode cX6_apart 59 = .ok (.iload_n 1, 1) := by decide +kernel
theorem dX6_apart_60 : decode cX6_apart 60 = .ok (.imul, 1) := by decide +kernel
theorem dX6_apart_61 : decode cX6_apart 61 = .ok (.iload_n 2, 1) := by decide +kernel
theorem dX6_apart_62 : decode cX6_apart 62 = .ok (.iadd, 1) := by decide +kernel
theorem dX6_apart_63 : decode cX6_apart 63 = .ok (.iload_n 3, 1) := by decide +kernel
theorem dX6_apart_64 : decode cX6_apart 64 = .ok (.iconst 1, 1) := by decide +kernel
theorem dX6_apart_65 : decode cX6_apart 65 = .ok (.if_icmp .ne 7, 3) := by decide +kernel
theorem dX6_apart_68 : decode cX6_apart 68 = .ok (.iconst 1, 1) := by decide +kernel
theorem dX6_apart_69 : decode cX6_apart 69 = .ok (.goto 4, 3) := by decide +kernel
theorem dX6_apart_72 : decode cX6_apart 72 = .ok (.iconst 0, 1) := by decide +kernel
theorem dX6_apart_73 : decode cX6_apart 73 = .ok (.bastore, 1) := by decide +kernel
theorem dX6_apart_74 : decode cX6_apart 74 = .ok (.aload_n 0, 1) := by decide +kernel
theorem dX6_apart_75 : decode cX6_apart 75 = .ok (.getfield 57, 3) := by decide +kernel
theorem dX6_apart_78 : decode cX6_apart 78 = .ok (.bipush 40, 2) := by decide +kernel
theorem dX6_apart_80 : decode cX6_apart 80 = .ok (.iload_n 2, 1) := by decide +kernel
theorem dX6_apart_81 : decode cX6_apart 81 = .ok (.imul, 1) := by decide +kernel
theorem dX6_apart_82 : decode cX6_apart 82 = .ok (.iload_n 1, 1) := by decide +kernel
theorem dX6_apart_83 : decode cX6_apart 83 = .ok (.iadd, 1) := by decide +kernel
theorem dX6_apart_84 : decode cX6_apart 84 = .ok (.iload_n 3, 1) := by decide +kernel
theorem dX6_apart_85 : decode cX6_apart 85 = .ok (.iconst 1, 1) := by decide +kernel
theorem dX6_apart_86 : decode cX6_apart 86 = .ok (.if_icmp .ne 7, 3) := by decide +kernel
theorem dX6_apart_89 : decode cX6_apart 89 = .ok (.iconst 1, 1) := by decide +kernel
theorem dX6_apart_90 : decode cX6_apart 90 = .ok (.goto 4, 3) := by decide +kernel
theorem dX6_apart_93 : decode cX6_apart 93 = .ok (.iconst 0, 1) := by decide +kernel
theorem dX6_apart_94 : decode cX6_apart 94 = .ok (.bastore, 1) := by decide +kernel
theorem dX6_apart_95 : decode cX6_apart 95 = .ok (.iload 4, 2) := by decide +kernel
theorem dX6_apart_97 : decode cX6_apart 97 = .ok (.ireturn, 1) := by decide +kernel
theorem dX5_promise_0 : decode cX5_promise 0 = .ok (.aload_n 0, 1) := by decide +kernel
theorem dX5_promise_1 : decode cX5_promise 1 = .ok (.iload_n 1, 1) := by decide +kernel
theorem dX5_promise_2 : decode cX5_promise 2 = .ok (.invokevirtual 85, 3) := by decide +kernel
theorem dX5_promise_5 : decode cX5_promise 5 = .ok (.ifCond .eq 25, 3) := by decide +kernel
theorem dX5_promise_30 : decode cX5_promise 30 = .ok (.iconst (-1), 1) := by decide +kernel
theorem dX5_promise_31 : decode cX5_promise 31 = .ok (.ireturn, 1) := by decide +kernel
theorem dX6_promise_0 : decode cX6_promise 0 = .ok (.aload_n 0, 1) := by decide +kernel
theorem dX6_promise_1 : decode cX6_promise 1 = .ok (.iload_n 1, 1) := by decide +kernel
theorem dX6_promise_2 : decode cX6_promise 2 = .ok (.invokevirtual 148, 3) := by decide +kernel
theorem dX6_promise_5 : decode cX6_promise 5 = .ok (.ifCond .eq 35, 3) := by decide +kernel
theorem dX6_promise_8 : decode cX6_promise 8 = .ok (.iload_n 2, 1) := by decide +kernel
theorem dX6_promise_9 : decode cX6_promise 9 = .ok (.iconst 1, 1) := by decide +kernel
theorem dX6_promise_10 : decode cX6_promise 10 = .ok (.sipush 1000, 3) := by decide +kernel
theorem dX6_promise_13 : decode cX6_promise 13 = .ok (.invokestatic 136, 3) := by decide +kernel
theorem dX6_promise_16 : decode cX6_promise 16 = .ok (.ifCond .eq 24, 3) := by decide +kernel
theorem dX6_promise_19 : decode cX6_promise 19 = .ok (.iload_n 3, 1) := by decide +kernel
theorem dX6_promise_20 : decode cX6_promise 20 = .ok (.iconst 0, 1) := by decide +kernel
theorem dX6_promise_21 : decode cX6_promise 21 = .ok (.bipush 100, 2) := by decide +kernel
theorem dX6_promise_23 : decode cX6_promise 23 = .ok (.invokestatic 136, 3) := by decide +kernel
theorem dX6_promise_26 : decode cX6_promise 26 = .ok (.ifCond .eq 14, 3) := by decide +kernel
theorem dX6_promise_29 : decode cX6_promise 29 = .ok (.iload_n 3, 1) := by decide +kernel
theorem dX6_promise_30 : decode cX6_promise 30 = .ok (.aload_n 0, 1) := by decide +kernel
theorem dX6_promise_31 : decode cX6_promise 31 = .ok (.getfield 152, 3) := by decide +kernel
theorem dX6_promise_34 : decode cX6_promise 34 = .ok (.bipush 100, 2) := by decide +kernel
theorem dX6_promise_36 : decode cX6_promise 36 = .ok (.idiv, 1) := by decide +kernel
theorem dX6_promise_37 : decode cX6_promise 37 = .ok (.if_icmp .ge 5, 3) := by decide +kernel
theorem dX6_promise_40 : decode cX6_promise 40 = .ok (.iconst (-1), 1) := by decide +kernel
theorem dX6_promise_41 : decode cX6_promise 41 = .ok (.ireturn, 1) := by decide +kernel
theorem dX6_promise_42 : decode cX6_promise 42 = .ok (.aload_n 0, 1) := by decide +kernel
theorem dX6_promise_43 : decode cX6_promise 43 = .ok (.getfield 23, 3) := by decide +kernel
theorem dX6_promise_46 : decode cX6_promise 46 = .ok (.iload_n 1, 1) := by decide +kernel
theorem dX6_promise_47 : decode cX6_promise 47 = .ok (.iaload, 1) := by decide +kernel
theorem dX6_promise_48 : decode cX6_promise 48 = .ok (.iconst 1, 1) := by decide +kernel
theorem dX6_promise_49 : decode cX6_promise 49 = .ok (.if_icmp .eq 6, 3) := by decide +kernel
theorem dX6_promise_52 : decode cX6_promise 52 = .ok (.bipush (-2), 2) := by decide +kernel
theorem dX6_promise_54 : decode cX6_promise 54 = .ok (.ireturn, 1) := by decide +kernel
theorem dX6_promise_55 : decode cX6_promise 55 = .ok (.aload_n 0, 1) := by decide +kernel
theorem dX6_promise_56 : decode cX6_promise 56 = .ok (.getfield 60, 3) := by decide +kernel
theorem dX6_promise_59 : decode cX6_promise 59 = .ok (.iload_n 1, 1) := by decide +kernel
theorem dX6_promise_60 : decode cX6_promise 60 = .ok (.iload_n 2, 1) := by decide +kernel
theorem dX6_promise_61 : decode cX6_promise 61 = .ok (.iastore, 1) := by decide +kernel
theorem dX6_promise_62 : decode cX6_promise 62 = .ok (.aload_n 0, 1) := by decide +kernel
theorem dX6_promise_63 : decode cX6_promise 63 = .ok (.getfield 63, 3) := by decide +kernel
theorem dX6_promise_66 : decode cX6_promise 66 = .ok (.iload_n 1, 1) := by decide +kernel
theorem dX6_promise_67 : decode cX6_promise 67 = .ok (.iload_n 3, 1) := by decide +kernel
theorem dX6_promise_68 : decode cX6_promise 68 = .ok (.iastore, 1) := by decide +kernel
theorem dX6_promise_69 : decode cX6_promise 69 = .ok (.aload_n 0, 1) := by decide +kernel
theorem dX6_promise_70 : decode cX6_promise 70 = .ok (.getfield 66, 3) := by decide +kernel
theorem dX6_promise_73 : decode cX6_promise 73 = .ok (.iload_n 1, 1) := by decide +kernel
theorem dX6_promise_74 : decode cX6_promise 74 = .ok (.aload_n 0, 1) := by decide +kernel
theorem dX6_promise_75 : decode cX6_promise 75 = .ok (.getfield 152, 3) := by decide +kernel
theorem dX6_promise_78 : decode cX6_promise 78 = .ok (.iastore, 1) := by decide +kernel
theorem dX6_promise_79 : decode cX6_promise 79 = .ok (.iconst 1, 1) := by decide +kernel
theorem dX6_promise_80 : decode cX6_promise 80 = .ok (.ireturn, 1) := by decide +kernel
theorem dX5_stop_0 : decode cX5_stop 0 = .ok (.aload_n 0, 1) := by decide +kernel
theorem dX5_stop_1 : decode cX5_stop 1 = .ok (.iload_n 1, 1) := by decide +kernel
theorem dX5_stop_2 : decode cX5_stop 2 = .ok (.invokevirtual 85, 3) := by decide +kernel
theorem dX5_stop_5 : decode cX5_stop 5 = .ok (.ifCond .eq 12, 3) := by decide +kernel
theorem dX5_stop_17 : decode cX5_stop 17 = .ok (.iconst (-1), 1) := by decide +kernel
theorem dX5_stop_18 : decode cX5_stop 18 = .ok (.ireturn, 1) := by decide +kernel
theorem dX6_stop_0 : decode cX6_stop 0 = .ok (.aload_n 0, 1) := by decide +kernel
theorem dX6_stop_1 : decode cX6_stop 1 = .ok (.iload_n 1, 1) := by decide +kernel
theorem dX6_stop_2 : decode cX6_stop 2 = .ok (.invokevirtual 148, 3) := by decide +kernel
theorem dX6_stop_5 : decode cX6_stop 5 = .ok (.ifCond .eq 12, 3) := by decide +kernel
theorem dX6_stop_8 : decode cX6_stop 8 = .ok (.iload_n 2, 1) := by decide +kernel
theorem dX6_stop_9 : decode cX6_stop 9 = .ok (.iconst 0, 1) := by decide +kernel
theorem dX6_stop_10 : decode cX6_stop 10 = .ok (.iconst 1, 1) := by decide +kernel
theorem dX6_stop_11 : decode cX6_stop 11 = .ok (.invokestatic 136, 3) := by decide +kernel
theorem dX6_stop_14 : decode cX6_stop 14 = .ok (.ifCond .ne 5, 3) := by decide +kernel
theorem dX6_stop_17 : decode cX6_stop 17 = .ok (.iconst (-1), 1) := by decide +kernel
theorem dX6_stop_18 : decode cX6_stop 18 = .ok (.ireturn, 1) := by decide +kernel
theorem dX6_stop_19 : decode cX6_stop 19 = .ok (.aload_n 0, 1) := by decide +kernel
theorem dX6_stop_20 : decode cX6_stop 20 = .ok (.getfield 53, 3) := by decide +kernel
theorem dX6_stop_23 : decode cX6_stop 23 = .ok (.iload_n 1, 1) := by decide +kernel
theorem dX6_stop_24 : decode cX6_stop 24 = .ok (.baload, 1) := by decide +kernel
theorem dX6_stop_25 : decode cX6_stop 25 = .ok (.ifCond .eq 7, 3) := by decide +kernel
theorem dX6_stop_28 : decode cX6_stop 28 = .ok (.iconst 1, 1) := by decide +kernel
theorem dX6_stop_29 : decode cX6_stop 29 = .ok (.goto 4, 3) := by decide +kernel
theorem dX6_stop_32 : decode cX6_stop 32 = .ok (.iconst 0, 1) := by decide +kernel
theorem dX6_stop_33 : decode cX6_stop 33 = .ok (.istore_n 3, 1) := by decide +kernel
theorem dX6_stop_34 : decode cX6_stop 34 = .ok (.aload_n 0, 1) := by decide +kernel
theorem dX6_stop_35 : decode cX6_stop 35 = .ok (.getfield 53, 3) := by decide +kernel
theorem dX6_stop_38 : decode cX6_stop 38 = .ok (.iload_n 1, 1) := by decide +kernel
theorem dX6_stop_39 : decode cX6_stop 39 = .ok (.iload_n 2, 1) := by decide +kernel
theorem dX6_stop_40 : decode cX6_stop 40 = .ok (.iconst 1, 1) := by decide +kernel
theorem dX6_stop_41 : decode cX6_stop 41 = .ok (.if_icmp .ne 7, 3) := by decide +kernel
theorem dX6_stop_44 : decode cX6_stop 44 = .ok (.iconst 1, 1) := by decide +kernel
theorem dX6_stop_45 : decode cX6_stop 45 = .ok (.goto 4, 3) := by decide +kernel
theorem dX6_stop_48 : decode cX6_stop 48 = .ok (.iconst 0, 1) := by decide +kernel
theorem dX6_stop_49 : decode cX6_stop 49 = .ok (.bastore, 1) := by decide +kernel
theorem dX6_stop_50 : decode cX6_stop 50 = .ok (.iload_n 3, 1) := by decide +kernel
theorem dX6_stop_51 : decode cX6_stop 51 = .ok (.ireturn, 1) := by decide +kernel
theorem dX5_come_0 : decode cX5_come 0 = .ok (.iload_n 1, 1) := by decide +kernel
theorem dX5_come_1 : decode cX5_come 1 = .ok (.invokestatic 61, 3) := by decide +kernel
theorem dX5_come_4 : decode cX5_come 4 = .ok (.ifCond .eq 11, 3) := by decide +kernel
theorem dX5_come_7 : decode cX5_come 7 = .ok (.aload_n 0, 1) := by decide +kernel
theorem dX5_come_8 : decode cX5_come 8 = .ok (.iload_n 2, 1) := by decide +kernel
theorem dX5_come_9 : decode cX5_come 9 = .ok (.invokevirtual 135, 3) := by decide +kernel
theorem dX5_come_12 : decode cX5_come 12 = .ok (.ifCond .ne 5, 3) := by decide +kernel
theorem dX5_come_15 : decode cX5_come 15 = .ok (.iconst (-1), 1) := by decide +kernel
theorem dX5_come_16 : decode cX5_come 16 = .ok (.ireturn, 1) := by decide +kernel
theorem dX6_come_0 : decode cX6_come 0 = .ok (.iload_n 1, 1) := by decide +kernel
theorem dX6_come_1 : decode cX6_come 1 = .ok (.invokestatic 143, 3) := by decide +kernel
theorem dX6_come_4 : decode cX6_come 4 = .ok (.ifCond .eq 11, 3) := by decide +kernel
theorem dX6_come_7 : decode cX6_come 7 = .ok (.aload_n 0, 1) := by decide +kernel
theorem dX6_come_8 : decode cX6_come 8 = .ok (.iload_n 2, 1) := by decide +kernel
theorem dX6_come_9 : decode cX6_come 9 = .ok (.invokevirtual 243, 3) := by decide +kernel
theorem dX6_come_12 : decode cX6_come 12 = .ok (.ifCond .ne 5, 3) := by decide +kernel
theorem dX6_come_15 : decode cX6_come 15 = .ok (.iconst (-1), 1) := by decide +kernel
theorem dX6_come_16 : decode cX6_come 16 = .ok (.ireturn, 1) := by decide +kernel
theorem dX5_why_0 : decode cX5_why 0 = .ok (.aload_n 0, 1) := by decide +kernel
theorem dX5_why_1 : decode cX5_why 1 = .ok (.iload_n 1, 1) := by decide +kernel
theorem dX5_why_2 : decode cX5_why 2 = .ok (.invokevirtual 85, 3) := by decide +kernel
theorem dX5_why_5 : decode cX5_why 5 = .ok (.ifCond .eq 18, 3) := by decide +kernel
theorem dX5_why_23 : decode cX5_why 23 = .ok (.iconst (-1), 1) := by decide +kernel
theorem dX5_why_24 : decode cX5_why 24 = .ok (.ireturn, 1) := by decide +kernel
theorem dX6_why_0 : decode cX6_why 0 = .ok (.aload_n 0, 1) := by decide +kernel
theorem dX6_why_1 : decode cX6_why 1 = .ok (.iload_n 1, 1) := by decide +kernel
theorem dX6_why_2 : decode cX6_why 2 = .ok (.invokevirtual 148, 3) := by decide +kernel
theorem dX6_why_5 : decode cX6_why 5 = .ok (.ifCond .eq 28, 3) := by decide +kernel
theorem dX6_why_8 : decode cX6_why 8 = .ok (.iload_n 2, 1) := by decide +kernel
theorem dX6_why_9 : decode cX6_why 9 = .ok (.invokestatic 143, 3) := by decide +kernel
theorem dX6_why_12 : decode cX6_why 12 = .ok (.ifCond .eq 21, 3) := by decide +kernel
theorem dX6_why_15 : decode cX6_why 15 = .ok (.aload_n 0, 1) := by decide +kernel
theorem dX6_why_16 : decode cX6_why 16 = .ok (.iload_n 3, 1) := by decide +kernel
theorem dX6_why_17 : decode cX6_why 17 = .ok (.invokevirtual 243, 3) := by decide +kernel
theorem dX6_why_20 : decode cX6_why 20 = .ok (.ifCond .eq 13, 3) := by decide +kernel
theorem dX6_why_23 : decode cX6_why 23 = .ok (.aload_n 0, 1) := by decide +kernel
theorem dX6_why_24 : decode cX6_why 24 = .ok (.iload_n 1, 1) := by decide +kernel
theorem dX6_why_25 : decode cX6_why 25 = .ok (.iload_n 2, 1) := by decide +kernel
theorem dX6_why_26 : decode cX6_why 26 = .ok (.iload_n 3, 1) := by decide +kernel
theorem dX6_why_27 : decode cX6_why 27 = .ok (.invokevirtual 204, 3) := by decide +kernel
theorem dX6_why_30 : decode cX6_why 30 = .ok (.goto 4, 3) := by decide +kernel
theorem dX6_why_33 : decode cX6_why 33 = .ok (.iconst (-1), 1) := by decide +kernel
theorem dX6_why_34 : decode cX6_why 34 = .ok (.ireturn, 1) := by decide +kernel
theorem dX5_best_0 : decode cX5_best 0 = .ok (.iload_n 1, 1) := by decide +kernel
theorem dX5_best_1 : decode cX5_best 1 = .ok (.invokestatic 61, 3) := by decide +kernel
theorem dX5_best_4 : decode cX5_best 4 = .ok (.ifCond .eq 11, 3) := by decide +kernel
theorem dX5_best_7 : decode cX5_best 7 = .ok (.aload_n 0, 1) := by decide +kernel
theorem dX5_best_8 : decode cX5_best 8 = .ok (.iload_n 2, 1) := by decide +kernel
theorem dX5_best_9 : decode cX5_best 9 = .ok (.invokevirtual 135, 3) := by decide +kernel
theorem dX5_best_12 : decode cX5_best 12 = .ok (.ifCond .ne 7, 3) := by decide +kernel
theorem dX5_best_15 : decode cX5_best 15 = .ok (.ldc2_w 159, 3) := by decide +kernel
theorem dX5_best_18 : decode cX5_best 18 = .ok (.lreturn, 1) := by decide +kernel
theorem dX6_best_0 : decode cX6_best 0 = .ok (.iload_n 1, 1) := by decide +kernel
theorem dX6_best_1 : decode cX6_best 1 = .ok (.invokestatic 143, 3) := by decide +kernel
theorem dX6_best_4 : decode cX6_best 4 = .ok (.ifCond .eq 20, 3) := by decide +kernel
theorem dX6_best_7 : decode cX6_best 7 = .ok (.aload_n 0, 1) := by decide +kernel
theorem dX6_best_8 : decode cX6_best 8 = .ok (.iload_n 2, 1) := by decide +kernel
theorem dX6_best_9 : decode cX6_best 9 = .ok (.invokevirtual 243, 3) := by decide +kernel
theorem dX6_best_12 : decode cX6_best 12 = .ok (.ifCond .eq 12, 3) := by decide +kernel
theorem dX6_best_24 : decode cX6_best 24 = .ok (.ldc2_w 263, 3) := by decide +kernel
theorem dX6_best_27 : decode cX6_best 27 = .ok (.lreturn, 1) := by decide +kernel
theorem dX5_give_0 : decode cX5_give 0 = .ok (.iload_n 1, 1) := by decide +kernel
theorem dX5_give_1 : decode cX5_give 1 = .ok (.invokestatic 61, 3) := by decide +kernel
theorem dX5_give_4 : decode cX5_give 4 = .ok (.ifCond .eq 30, 3) := by decide +kernel
theorem dX5_give_7 : decode cX5_give 7 = .ok (.aload_n 0, 1) := by decide +kernel
theorem dX5_give_8 : decode cX5_give 8 = .ok (.iload_n 2, 1) := by decide +kernel
theorem dX5_give_9 : decode cX5_give 9 = .ok (.invokevirtual 135, 3) := by decide +kernel
theorem dX5_give_12 : decode cX5_give 12 = .ok (.ifCond .eq 22, 3) := by decide +kernel
theorem dX5_give_34 : decode cX5_give 34 = .ok (.iconst (-1), 1) := by decide +kernel
theorem dX5_give_35 : decode cX5_give 35 = .ok (.ireturn, 1) := by decide +kernel
theorem dX6_give_0 : decode cX6_give 0 = .ok (.iload_n 1, 1) := by decide +kernel
theorem dX6_give_1 : decode cX6_give 1 = .ok (.invokestatic 143, 3) := by decide +kernel
theorem dX6_give_4 : decode cX6_give 4 = .ok (.ifCond .eq 27, 3) := by decide +kernel
theorem dX6_give_7 : decode cX6_give 7 = .ok (.aload_n 0, 1) := by decide +kernel
theorem dX6_give_8 : decode cX6_give 8 = .ok (.iload_n 2, 1) := by decide +kernel
theorem dX6_give_9 : decode cX6_give 9 = .ok (.invokevirtual 243, 3) := by decide +kernel
theorem dX6_give_12 : decode cX6_give 12 = .ok (.ifCond .eq 19, 3) := by decide +kernel
theorem dX6_give_31 : decode cX6_give 31 = .ok (.iconst (-1), 1) := by decide +kernel
theorem dX6_give_32 : decode cX6_give 32 = .ok (.ireturn, 1) := by decide +kernel
theorem dX5_sale_0 : decode cX5_sale 0 = .ok (.aload_n 0, 1) := by decide +kernel
theorem dX5_sale_1 : decode cX5_sale 1 = .ok (.iload_n 1, 1) := by decide +kernel
theorem dX5_sale_2 : decode cX5_sale 2 = .ok (.invokevirtual 164, 3) := by decide +kernel
theorem dX5_sale_5 : decode cX5_sale 5 = .ok (.ifCond .ne 5, 3) := by decide +kernel
theorem dX5_sale_8 : decode cX5_sale 8 = .ok (.iconst (-1), 1) := by decide +kernel
theorem dX5_sale_9 : decode cX5_sale 9 = .ok (.ireturn, 1) := by decide +kernel
theorem dX6_sale_0 : decode cX6_sale 0 = .ok (.aload_n 0, 1) := by decide +kernel
theorem dX6_sale_1 : decode cX6_sale 1 = .ok (.iload_n 1, 1) := by decide +kernel
theorem dX6_sale_2 : decode cX6_sale 2 = .ok (.invokevirtual 265, 3) := by decide +kernel
theorem dX6_sale_5 : decode cX6_sale 5 = .ok (.ifCond .ne 5, 3) := by decide +kernel
theorem dX6_sale_8 : decode cX6_sale 8 = .ok (.iconst (-1), 1) := by decide +kernel
theorem dX6_sale_9 : decode cX6_sale 9 = .ok (.ireturn, 1) := by decide +kernel
theorem dX6_sale_10 : decode cX6_sale 10 = .ok (.iload_n 2, 1) := by decide +kernel
theorem dX6_sale_11 : decode cX6_sale 11 = .ok (.tableswitch 90 0 6 #[41, 48, 55, 62, 69, 76, 83], 41) := by decide +kernel
theorem dX6_sale_52 : decode cX6_sale 52 = .ok (.aload_n 0, 1) := by decide +kernel
theorem dX6_sale_53 : decode cX6_sale 53 = .ok (.getfield 69, 3) := by decide +kernel
theorem dX6_sale_56 : decode cX6_sale 56 = .ok (.iload_n 1, 1) := by decide +kernel
theorem dX6_sale_57 : decode cX6_sale 57 = .ok (.iaload, 1) := by decide +kernel
theorem dX6_sale_58 : decode cX6_sale 58 = .ok (.ireturn, 1) := by decide +kernel
theorem dX6_sale_59 : decode cX6_sale 59 = .ok (.aload_n 0, 1) := by decide +kernel
theorem dX6_sale_60 : decode cX6_sale 60 = .ok (.getfield 72, 3) := by decide +kernel
theorem dX6_sale_63 : decode cX6_sale 63 = .ok (.iload_n 1, 1) := by decide +kernel
theorem dX6_sale_64 : decode cX6_sale 64 = .ok (.iaload, 1) := by decide +kernel
theorem dX6_sale_65 : decode cX6_sale 65 = .ok (.ireturn, 1) := by decide +kernel
theorem dX6_sale_66 : decode cX6_sale 66 = .ok (.aload_n 0, 1) := by decide +kernel
theorem dX6_sale_67 : decode cX6_sale 67 = .ok (.getfield 75, 3) := by decide +kernel
theorem dX6_sale_70 : decode cX6_sale 70 = .ok (.iload_n 1, 1) := by decide +kernel
theorem dX6_sale_71 : decode cX6_sale 71 = .ok (.iaload, 1) := by decide +kernel
theorem dX6_sale_72 : decode cX6_sale 72 = .ok (.ireturn, 1) := by decide +kernel
theorem dX6_sale_73 : decode cX6_sale 73 = .ok (.aload_n 0, 1) := by decide +kernel
theorem dX6_sale_74 : decode cX6_sale 74 = .ok (.getfield 78, 3) := by decide +kernel
theorem dX6_sale_77 : decode cX6_sale 77 = .ok (.iload_n 1, 1) := by decide +kernel
theorem dX6_sale_78 : decode cX6_sale 78 = .ok (.iaload, 1) := by decide +kernel
theorem dX6_sale_79 : decode cX6_sale 79 = .ok (.ireturn, 1) := by decide +kernel
theorem dX6_sale_80 : decode cX6_sale 80 = .ok (.aload_n 0, 1) := by decide +kernel
theorem dX6_sale_81 : decode cX6_sale 81 = .ok (.getfield 81, 3) := by decide +kernel
theorem dX6_sale_84 : decode cX6_sale 84 = .ok (.iload_n 1, 1) := by decide +kernel
theorem dX6_sale_85 : decode cX6_sale 85 = .ok (.iaload, 1) := by decide +kernel
theorem dX6_sale_86 : decode cX6_sale 86 = .ok (.ireturn, 1) := by decide +kernel
theorem dX6_sale_87 : decode cX6_sale 87 = .ok (.aload_n 0, 1) := by decide +kernel
theorem dX6_sale_88 : decode cX6_sale 88 = .ok (.getfield 84, 3) := by decide +kernel
theorem dX6_sale_91 : decode cX6_sale 91 = .ok (.iload_n 1, 1) := by decide +kernel
theorem dX6_sale_92 : decode cX6_sale 92 = .ok (.iaload, 1) := by decide +kernel
theorem dX6_sale_93 : decode cX6_sale 93 = .ok (.ireturn, 1) := by decide +kernel
theorem dX6_sale_94 : decode cX6_sale 94 = .ok (.aload_n 0, 1) := by decide +kernel
theorem dX6_sale_95 : decode cX6_sale 95 = .ok (.getfield 87, 3) := by decide +kernel
theorem dX6_sale_98 : decode cX6_sale 98 = .ok (.iload_n 1, 1) := by decide +kernel
theorem dX6_sale_99 : decode cX6_sale 99 = .ok (.iaload, 1) := by decide +kernel
theorem dX6_sale_100 : decode cX6_sale 100 = .ok (.ireturn, 1) := by decide +kernel
theorem dX6_sale_101 : decode cX6_sale 101 = .ok (.iconst (-1), 1) := by decide +kernel
theorem dX6_sale_102 : decode cX6_sale 102 = .ok (.ireturn, 1) := by decide +kernel
theorem dX5_press_0 : decode cX5_press 0 = .ok (.aload_n 0, 1) := by decide +kernel
theorem dX5_press_1 : decode cX5_press 1 = .ok (.iload_n 1, 1) := by decide +kernel
theorem dX5_press_2 : decode cX5_press 2 = .ok (.invokevirtual 164, 3) := by decide +kernel
theorem dX5_press_5 : decode cX5_press 5 = .ok (.ifCond .ne 5, 3) := by decide +kernel
theorem dX5_press_8 : decode cX5_press 8 = .ok (.iconst (-1), 1) := by decide +kernel
theorem dX5_press_9 : decode cX5_press 9 = .ok (.ireturn, 1) := by decide +kernel
theorem dX6_press_0 : decode cX6_press 0 = .ok (.aload_n 0, 1) := by decide +kernel
theorem dX6_press_1 : decode cX6_press 1 = .ok (.iload_n 1, 1) := by decide +kernel
theorem dX6_press_2 : decode cX6_press 2 = .ok (.invokevirtual 265, 3) := by decide +kernel
theorem dX6_press_5 : decode cX6_press 5 = .ok (.ifCond .ne 5, 3) := by decide +kernel
theorem dX6_press_8 : decode cX6_press 8 = .ok (.iconst (-1), 1) := by decide +kernel
theorem dX6_press_9 : decode cX6_press 9 = .ok (.ireturn, 1) := by decide +kernel
theorem dX6_press_10 : decode cX6_press 10 = .ok (.aload_n 0, 1) := by decide +kernel
theorem dX6_press_11 : decode cX6_press 11 = .ok (.getfield 26, 3) := by decide +kernel
theorem dX6_press_14 : decode cX6_press 14 = .ok (.aload_n 0, 1) := by decide +kernel
theorem dX6_press_15 : decode cX6_press 15 = .ok (.getfield 81, 3) := by decide +kernel
theorem dX6_press_18 : decode cX6_press 18 = .ok (.iload_n 1, 1) := by decide +kernel
theorem dX6_press_19 : decode cX6_press 19 = .ok (.iaload, 1) := by decide +kernel
theorem dX6_press_20 : decode cX6_press 20 = .ok (.iaload, 1) := by decide +kernel
theorem dX6_press_21 : decode cX6_press 21 = .ok (.iconst 1, 1) := by decide +kernel
theorem dX6_press_22 : decode cX6_press 22 = .ok (.if_icmp .ne 21, 3) := by decide +kernel
theorem dX6_press_25 : decode cX6_press 25 = .ok (.aload_n 0, 1) := by decide +kernel
theorem dX6_press_26 : decode cX6_press 26 = .ok (.getfield 87, 3) := by decide +kernel
theorem dX6_press_29 : decode cX6_press 29 = .ok (.iload_n 1, 1) := by decide +kernel
theorem dX6_press_30 : decode cX6_press 30 = .ok (.iaload, 1) := by decide +kernel
theorem dX6_press_31 : decode cX6_press 31 = .ok (.iconst 1, 1) := by decide +kernel
theorem dX6_press_32 : decode cX6_press 32 = .ok (.if_icmp .ne 7, 3) := by decide +kernel
theorem dX6_press_35 : decode cX6_press 35 = .ok (.iconst 1, 1) := by decide +kernel
theorem dX6_press_36 : decode cX6_press 36 = .ok (.goto 41, 3) := by decide +kernel
theorem dX6_press_39 : decode cX6_press 39 = .ok (.iconst 0, 1) := by decide +kernel
theorem dX6_press_40 : decode cX6_press 40 = .ok (.goto 37, 3) := by decide +kernel
theorem dX6_press_43 : decode cX6_press 43 = .ok (.aload_n 0, 1) := by decide +kernel
theorem dX6_press_44 : decode cX6_press 44 = .ok (.getfield 87, 3) := by decide +kernel
theorem dX6_press_47 : decode cX6_press 47 = .ok (.iload_n 1, 1) := by decide +kernel
theorem dX6_press_48 : decode cX6_press 48 = .ok (.iaload, 1) := by decide +kernel
theorem dX6_press_49 : decode cX6_press 49 = .ok (.ifCond .ne 27, 3) := by decide +kernel
theorem dX6_press_52 : decode cX6_press 52 = .ok (.aload_n 0, 1) := by decide +kernel
theorem dX6_press_53 : decode cX6_press 53 = .ok (.getfield 152, 3) := by decide +kernel
theorem dX6_press_56 : decode cX6_press 56 = .ok (.aload_n 0, 1) := by decide +kernel
theorem dX6_press_57 : decode cX6_press 57 = .ok (.getfield 69, 3) := by decide +kernel
theorem dX6_press_60 : decode cX6_press 60 = .ok (.iload_n 1, 1) := by decide +kernel
theorem dX6_press_61 : decode cX6_press 61 = .ok (.iaload, 1) := by decide +kernel
theorem dX6_press_62 : decode cX6_press 62 = .ok (.aload_n 0, 1) := by decide +kernel
theorem dX6_press_63 : decode cX6_press 63 = .ok (.getfield 90, 3) := by decide +kernel
theorem dX6_press_66 : decode cX6_press 66 = .ok (.iload_n 1, 1) := by decide +kernel
theorem dX6_press_67 : decode cX6_press 67 = .ok (.iaload, 1) := by decide +kernel
theorem dX6_press_68 : decode cX6_press 68 = .ok (.iadd, 1) := by decide +kernel
theorem dX6_press_69 : decode cX6_press 69 = .ok (.if_icmp .gt 7, 3) := by decide +kernel
theorem dX6_press_72 : decode cX6_press 72 = .ok (.iconst 1, 1) := by decide +kernel
theorem dX6_press_73 : decode cX6_press 73 = .ok (.goto 4, 3) := by decide +kernel
theorem dX6_press_76 : decode cX6_press 76 = .ok (.iconst 0, 1) := by decide +kernel
theorem dX6_press_77 : decode cX6_press 77 = .ok (.istore_n 2, 1) := by decide +kernel
theorem dX6_press_78 : decode cX6_press 78 = .ok (.iload_n 2, 1) := by decide +kernel
theorem dX6_press_79 : decode cX6_press 79 = .ok (.ifCond .ne 6, 3) := by decide +kernel
theorem dX6_press_82 : decode cX6_press 82 = .ok (.bipush (-2), 2) := by decide +kernel
theorem dX6_press_84 : decode cX6_press 84 = .ok (.ireturn, 1) := by decide +kernel
theorem dX6_press_85 : decode cX6_press 85 = .ok (.aload_n 0, 1) := by decide +kernel
theorem dX6_press_86 : decode cX6_press 86 = .ok (.getfield 87, 3) := by decide +kernel
theorem dX6_press_89 : decode cX6_press 89 = .ok (.iload_n 1, 1) := by decide +kernel
theorem dX6_press_90 : decode cX6_press 90 = .ok (.iconst 2, 1) := by decide +kernel
theorem dX6_press_91 : decode cX6_press 91 = .ok (.iastore, 1) := by decide +kernel
theorem dX6_press_92 : decode cX6_press 92 = .ok (.aload_n 0, 1) := by decide +kernel
theorem dX6_press_93 : decode cX6_press 93 = .ok (.getfield 93, 3) := by decide +kernel
theorem dX6_press_96 : decode cX6_press 96 = .ok (.iload_n 1, 1) := by decide +kernel
theorem dX6_press_97 : decode cX6_press 97 = .ok (.aload_n 0, 1) := by decide +kernel
theorem dX6_press_98 : decode cX6_press 98 = .ok (.getfield 152, 3) := by decide +kernel
theorem dX6_press_101 : decode cX6_press 101 = .ok (.iastore, 1) := by decide +kernel
theorem dX6_press_102 : decode cX6_press 102 = .ok (.iconst 1, 1) := by decide +kernel
theorem dX6_press_103 : decode cX6_press 103 = .ok (.ireturn, 1) := by decide +kernel
theorem dX5_refund_0 : decode cX5_refund 0 = .ok (.aload_n 0, 1) := by decide +kernel
theorem dX5_refund_1 : decode cX5_refund 1 = .ok (.iload_n 1, 1) := by decide +kernel
theorem dX5_refund_2 : decode cX5_refund 2 = .ok (.invokevirtual 164, 3) := by decide +kernel
theorem dX5_refund_5 : decode cX5_refund 5 = .ok (.ifCond .ne 5, 3) := by decide +kernel
theorem dX5_refund_8 : decode cX5_refund 8 = .ok (.iconst (-1), 1) := by decide +kernel
theorem dX5_refund_9 : decode cX5_refund 9 = .ok (.ireturn, 1) := by decide +kernel
theorem dX6_refund_0 : decode cX6_refund 0 = .ok (.aload_n 0, 1) := by decide +kernel
theorem dX6_refund_1 : decode cX6_refund 1 = .ok (.iload_n 1, 1) := by decide +kernel
theorem dX6_refund_2 : decode cX6_refund 2 = .ok (.invokevirtual 265, 3) := by decide +kernel
theorem dX6_refund_5 : decode cX6_refund 5 = .ok (.ifCond .ne 5, 3) := by decide +kernel
theorem dX6_refund_8 : decode cX6_refund 8 = .ok (.iconst (-1), 1) := by decide +kernel
theorem dX6_refund_9 : decode cX6_refund 9 = .ok (.ireturn, 1) := by decide +kernel
theorem dX6_refund_10 : decode cX6_refund 10 = .ok (.aload_n 0, 1) := by decide +kernel
theorem dX6_refund_11 : decode cX6_refund 11 = .ok (.getfield 87, 3) := by decide +kernel
theorem dX6_refund_14 : decode cX6_refund 14 = .ok (.iload_n 1, 1) := by decide +kernel
theorem dX6_refund_15 : decode cX6_refund 15 = .ok (.iaload, 1) := by decide +kernel
theorem dX6_refund_16 : decode cX6_refund 16 = .ok (.iconst 3, 1) := by decide +kernel
theorem dX6_refund_17 : decode cX6_refund 17 = .ok (.if_icmp .ne 6, 3) := by decide +kernel
theorem dX6_refund_20 : decode cX6_refund 20 = .ok (.bipush (-2), 2) := by decide +kernel
theorem dX6_refund_22 : decode cX6_refund 22 = .ok (.ireturn, 1) := by decide +kernel
theorem dX6_refund_23 : decode cX6_refund 23 = .ok (.aload_n 0, 1) := by decide +kernel
theorem dX6_refund_24 : decode cX6_refund 24 = .ok (.iload_n 1, 1) := by decide +kernel
theorem dX6_refund_25 : decode cX6_refund 25 = .ok (.iconst 0, 1) := by decide +kernel
theorem dX6_refund_26 : decode cX6_refund 26 = .ok (.invokevirtual 164, 3) := by decide +kernel
theorem dX6_refund_29 : decode cX6_refund 29 = .ok (.istore_n 2, 1) := by decide +kernel
theorem dX6_refund_30 : decode cX6_refund 30 = .ok (.aload_n 0, 1) := by decide +kernel
theorem dX6_refund_31 : decode cX6_refund 31 = .ok (.getfield 87, 3) := by decide +kernel
theorem dX6_refund_34 : decode cX6_refund 34 = .ok (.iload_n 1, 1) := by decide +kernel
theorem dX6_refund_35 : decode cX6_refund 35 = .ok (.iconst 3, 1) := by decide +kernel
theorem dX6_refund_36 : decode cX6_refund 36 = .ok (.iastore, 1) := by decide +kernel
theorem dX6_refund_37 : decode cX6_refund 37 = .ok (.iload_n 2, 1) := by decide +kernel
theorem dX6_refund_38 : decode cX6_refund 38 = .ok (.ireturn, 1) := by decide +kernel
theorem dX5_told_0 : decode cX5_told 0 = .ok (.aload_n 0, 1) := by decide +kernel
theorem dX5_told_1 : decode cX5_told 1 = .ok (.iload_n 1, 1) := by decide +kernel
theorem dX5_told_2 : decode cX5_told 2 = .ok (.invokevirtual 85, 3) := by decide +kernel
theorem dX5_told_5 : decode cX5_told 5 = .ok (.ifCond .ne 6, 3) := by decide +kernel
theorem dX5_told_8 : decode cX5_told 8 = .ok (.ldc 229, 2) := by decide +kernel
theorem dX5_told_10 : decode cX5_told 10 = .ok (.ireturn, 1) := by decide +kernel
theorem dX6_told_0 : decode cX6_told 0 = .ok (.aload_n 0, 1) := by decide +kernel
theorem dX6_told_1 : decode cX6_told 1 = .ok (.iload_n 1, 1) := by decide +kernel
theorem dX6_told_2 : decode cX6_told 2 = .ok (.invokevirtual 148, 3) := by decide +kernel
theorem dX6_told_5 : decode cX6_told 5 = .ok (.ifCond .ne 7, 3) := by decide +kernel
theorem dX6_told_8 : decode cX6_told 8 = .ok (.ldc_w 268, 3) := by decide +kernel
theorem dX6_told_11 : decode cX6_told 11 = .ok (.ireturn, 1) := by decide +kernel
theorem dX6_told_12 : decode cX6_told 12 = .ok (.iload_n 2, 1) := by decide +kernel
theorem dX6_told_13 : decode cX6_told 13 = .ok (.tableswitch 178 0 9 #[55, 64, 79, 88, 97, 106, 113, 127, 145, 163], 55) := by decide +kernel
theorem dX6_told_68 : decode cX6_told 68 = .ok (.aload_n 0, 1) := by decide +kernel
theorem dX6_told_69 : decode cX6_told 69 = .ok (.iload_n 1, 1) := by decide +kernel
theorem dX6_told_70 : decode cX6_told 70 = .ok (.iconst (-1), 1) := by decide +kernel
theorem dX6_told_71 : decode cX6_told 71 = .ok (.iconst 1, 1) := by decide +kernel
theorem dX6_told_72 : decode cX6_told 72 = .ok (.iconst 0, 1) := by decide +kernel
theorem dX6_told_73 : decode cX6_told 73 = .ok (.invokevirtual 168, 3) := by decide +kernel
theorem dX6_told_76 : decode cX6_told 76 = .ok (.ireturn, 1) := by decide +kernel
theorem dX6_told_77 : decode cX6_told 77 = .ok (.aload_n 0, 1) := by decide +kernel
theorem dX6_told_78 : decode cX6_told 78 = .ok (.iload_n 1, 1) := by decide +kernel
theorem dX6_told_79 : decode cX6_told 79 = .ok (.aload_n 0, 1) := by decide +kernel
theorem dX6_told_80 : decode cX6_told 80 = .ok (.getfield 152, 3) := by decide +kernel
theorem dX6_told_83 : decode cX6_told 83 = .ok (.bipush 100, 2) := by decide +kernel
theorem dX6_told_85 : decode cX6_told 85 = .ok (.idiv, 1) := by decide +kernel
theorem dX6_told_86 : decode cX6_told 86 = .ok (.iconst 1, 1) := by decide +kernel
theorem dX6_told_87 : decode cX6_told 87 = .ok (.iconst 1, 1) := by decide +kernel
theorem dX6_told_88 : decode cX6_told 88 = .ok (.invokevirtual 168, 3) := by decide +kernel
theorem dX6_told_91 : decode cX6_told 91 = .ok (.ireturn, 1) := by decide +kernel
theorem dX6_told_92 : decode cX6_told 92 = .ok (.aload_n 0, 1) := by decide +kernel
theorem dX6_told_93 : decode cX6_told 93 = .ok (.iload_n 1, 1) := by decide +kernel
theorem dX6_told_94 : decode cX6_told 94 = .ok (.iconst (-1), 1) := by decide +kernel
theorem dX6_told_95 : decode cX6_told 95 = .ok (.iconst 0, 1) := by decide +kernel
theorem dX6_told_96 : decode cX6_told 96 = .ok (.iconst 1, 1) := by decide +kernel
theorem dX6_told_97 : decode cX6_told 97 = .ok (.invokevirtual 168, 3) := by decide +kernel
theorem dX6_told_100 : decode cX6_told 100 = .ok (.ireturn, 1) := by decide +kernel
theorem dX6_told_101 : decode cX6_told 101 = .ok (.aload_n 0, 1) := by decide +kernel
theorem dX6_told_102 : decode cX6_told 102 = .ok (.iload_n 1, 1) := by decide +kernel
theorem dX6_told_103 : decode cX6_told 103 = .ok (.sipush 10001, 3) := by decide +kernel
theorem dX6_told_106 : decode cX6_told 106 = .ok (.invokevirtual 172, 3) := by decide +kernel
theorem dX6_told_109 : decode cX6_told 109 = .ok (.ireturn, 1) := by decide +kernel
theorem dX6_told_110 : decode cX6_told 110 = .ok (.aload_n 0, 1) := by decide +kernel
theorem dX6_told_111 : decode cX6_told 111 = .ok (.iload_n 1, 1) := by decide +kernel
theorem dX6_told_112 : decode cX6_told 112 = .ok (.sipush 10001, 3) := by decide +kernel
theorem dX6_told_115 : decode cX6_told 115 = .ok (.invokevirtual 190, 3) := by decide +kernel
theorem dX6_told_118 : decode cX6_told 118 = .ok (.ireturn, 1) := by decide +kernel
theorem dX6_told_119 : decode cX6_told 119 = .ok (.aload_n 0, 1) := by decide +kernel
theorem dX6_told_120 : decode cX6_told 120 = .ok (.getfield 50, 3) := by decide +kernel
theorem dX6_told_123 : decode cX6_told 123 = .ok (.iload_n 1, 1) := by decide +kernel
theorem dX6_told_124 : decode cX6_told 124 = .ok (.iaload, 1) := by decide +kernel
theorem dX6_told_125 : decode cX6_told 125 = .ok (.ireturn, 1) := by decide +kernel
theorem dX6_told_126 : decode cX6_told 126 = .ok (.aload_n 0, 1) := by decide +kernel
theorem dX6_told_127 : decode cX6_told 127 = .ok (.iload_n 1, 1) := by decide +kernel
theorem dX6_told_128 : decode cX6_told 128 = .ok (.invokevirtual 193, 3) := by decide +kernel
theorem dX6_told_131 : decode cX6_told 131 = .ok (.ifCond .eq 7, 3) := by decide +kernel
theorem dX6_told_134 : decode cX6_told 134 = .ok (.iconst 1, 1) := by decide +kernel
theorem dX6_told_135 : decode cX6_told 135 = .ok (.goto 4, 3) := by decide +kernel
theorem dX6_told_138 : decode cX6_told 138 = .ok (.iconst 0, 1) := by decide +kernel
theorem dX6_told_139 : decode cX6_told 139 = .ok (.ireturn, 1) := by decide +kernel
theorem dX6_told_140 : decode cX6_told 140 = .ok (.aload_n 0, 1) := by decide +kernel
theorem dX6_told_141 : decode cX6_told 141 = .ok (.iload_n 1, 1) := by decide +kernel
theorem dX6_told_142 : decode cX6_told 142 = .ok (.invokevirtual 178, 3) := by decide +kernel
theorem dX6_told_145 : decode cX6_told 145 = .ok (.ifCond .ge 7, 3) := by decide +kernel
theorem dX6_told_148 : decode cX6_told 148 = .ok (.iconst 0, 1) := by decide +kernel
theorem dX6_told_149 : decode cX6_told 149 = .ok (.goto 8, 3) := by decide +kernel
theorem dX6_told_152 : decode cX6_told 152 = .ok (.aload_n 0, 1) := by decide +kernel
theorem dX6_told_153 : decode cX6_told 153 = .ok (.iload_n 1, 1) := by decide +kernel
theorem dX6_told_154 : decode cX6_told 154 = .ok (.invokevirtual 178, 3) := by decide +kernel
theorem dX6_told_157 : decode cX6_told 157 = .ok (.ireturn, 1) := by decide +kernel
theorem dX6_told_158 : decode cX6_told 158 = .ok (.aload_n 0, 1) := by decide +kernel
theorem dX6_told_159 : decode cX6_told 159 = .ok (.iload_n 1, 1) := by decide +kernel
theorem dX6_told_160 : decode cX6_told 160 = .ok (.invokevirtual 182, 3) := by decide +kernel
theorem dX6_told_163 : decode cX6_told 163 = .ok (.ifCond .ge 7, 3) := by decide +kernel
theorem dX6_told_166 : decode cX6_told 166 = .ok (.iconst 0, 1) := by decide +kernel
theorem dX6_told_167 : decode cX6_told 167 = .ok (.goto 8, 3) := by decide +kernel
theorem dX6_told_170 : decode cX6_told 170 = .ok (.aload_n 0, 1) := by decide +kernel
theorem dX6_told_171 : decode cX6_told 171 = .ok (.iload_n 1, 1) := by decide +kernel
theorem dX6_told_172 : decode cX6_told 172 = .ok (.invokevirtual 182, 3) := by decide +kernel
theorem dX6_told_175 : decode cX6_told 175 = .ok (.ireturn, 1) := by decide +kernel
theorem dX6_told_176 : decode cX6_told 176 = .ok (.aload_n 0, 1) := by decide +kernel
theorem dX6_told_177 : decode cX6_told 177 = .ok (.getfield 53, 3) := by decide +kernel
theorem dX6_told_180 : decode cX6_told 180 = .ok (.iload_n 1, 1) := by decide +kernel
theorem dX6_told_181 : decode cX6_told 181 = .ok (.baload, 1) := by decide +kernel
theorem dX6_told_182 : decode cX6_told 182 = .ok (.ifCond .eq 7, 3) := by decide +kernel
theorem dX6_told_185 : decode cX6_told 185 = .ok (.iconst 1, 1) := by decide +kernel
theorem dX6_told_186 : decode cX6_told 186 = .ok (.goto 4, 3) := by decide +kernel
theorem dX6_told_189 : decode cX6_told 189 = .ok (.iconst 0, 1) := by decide +kernel
theorem dX6_told_190 : decode cX6_told 190 = .ok (.ireturn, 1) := by decide +kernel
theorem dX6_told_191 : decode cX6_told 191 = .ok (.ldc_w 268, 3) := by decide +kernel
theorem dX6_told_194 : decode cX6_told 194 = .ok (.ireturn, 1) := by decide +kernel
theorem dX5_chance_0 : decode cX5_chance 0 = .ok (.aload_n 0, 1) := by decide +kernel
theorem dX5_chance_1 : decode cX5_chance 1 = .ok (.iload_n 1, 1) := by decide +kernel
theorem dX5_chance_2 : decode cX5_chance 2 = .ok (.invokevirtual 85, 3) := by decide +kernel
theorem dX5_chance_5 : decode cX5_chance 5 = .ok (.ifCond .ne 5, 3) := by decide +kernel
theorem dX5_chance_8 : decode cX5_chance 8 = .ok (.iconst (-1), 1) := by decide +kernel
theorem dX5_chance_9 : decode cX5_chance 9 = .ok (.ireturn, 1) := by decide +kernel
theorem dX6_chance_0 : decode cX6_chance 0 = .ok (.aload_n 0, 1) := by decide +kernel
theorem dX6_chance_1 : decode cX6_chance 1 = .ok (.iload_n 1, 1) := by decide +kernel
theorem dX6_chance_2 : decode cX6_chance 2 = .ok (.invokevirtual 148, 3) := by decide +kernel
theorem dX6_chance_5 : decode cX6_chance 5 = .ok (.ifCond .eq 37, 3) := by decide +kernel
theorem dX6_chance_8 : decode cX6_chance 8 = .ok (.aload_n 0, 1) := by decide +kernel
theorem dX6_chance_9 : decode cX6_chance 9 = .ok (.iload_n 1, 1) := by decide +kernel
theorem dX6_chance_10 : decode cX6_chance 10 = .ok (.aload_n 0, 1) := by decide +kernel
theorem dX6_chance_11 : decode cX6_chance 11 = .ok (.getfield 152, 3) := by decide +kernel
theorem dX6_chance_14 : decode cX6_chance 14 = .ok (.invokevirtual 190, 3) := by decide +kernel
theorem dX6_chance_17 : decode cX6_chance 17 = .ok (.iconst 1, 1) := by decide +kernel
theorem dX6_chance_18 : decode cX6_chance 18 = .ok (.iadd, 1) := by decide +kernel
theorem dX6_chance_19 : decode cX6_chance 19 = .ok (.i2l, 1) := by decide +kernel
theorem dX6_chance_20 : decode cX6_chance 20 = .ok (.ldc2_w 261, 3) := by decide +kernel
theorem dX6_chance_23 : decode cX6_chance 23 = .ok (.lmul, 1) := by decide +kernel
theorem dX6_chance_24 : decode cX6_chance 24 = .ok (.aload_n 0, 1) := by decide +kernel
theorem dX6_chance_25 : decode cX6_chance 25 = .ok (.iload_n 1, 1) := by decide +kernel
theorem dX6_chance_26 : decode cX6_chance 26 = .ok (.aload_n 0, 1) := by decide +kernel
theorem dX6_chance_27 : decode cX6_chance 27 = .ok (.getfield 152, 3) := by decide +kernel
theorem dX6_chance_30 : decode cX6_chance 30 = .ok (.invokevirtual 172, 3) := by decide +kernel
theorem dX6_chance_33 : decode cX6_chance 33 = .ok (.bipush 20, 2) := by decide +kernel
theorem dX6_chance_35 : decode cX6_chance 35 = .ok (.iadd, 1) := by decide +kernel
theorem dX6_chance_36 : decode cX6_chance 36 = .ok (.i2l, 1) := by decide +kernel
theorem dX6_chance_37 : decode cX6_chance 37 = .ok (.ldiv, 1) := by decide +kernel
theorem dX6_chance_38 : decode cX6_chance 38 = .ok (.l2i, 1) := by decide +kernel
theorem dX6_chance_39 : decode cX6_chance 39 = .ok (.goto 4, 3) := by decide +kernel
theorem dX6_chance_42 : decode cX6_chance 42 = .ok (.iconst (-1), 1) := by decide +kernel
theorem dX6_chance_43 : decode cX6_chance 43 = .ok (.ireturn, 1) := by decide +kernel
theorem dX5_draw_0 : decode cX5_draw 0 = .ok (.aload_n 0, 1) := by decide +kernel
theorem dX5_draw_1 : decode cX5_draw 1 = .ok (.iload_n 1, 1) := by decide +kernel
theorem dX5_draw_2 : decode cX5_draw 2 = .ok (.invokevirtual 85, 3) := by decide +kernel
theorem dX5_draw_5 : decode cX5_draw 5 = .ok (.ifCond .eq 10, 3) := by decide +kernel
theorem dX5_draw_15 : decode cX5_draw 15 = .ok (.iconst (-1), 1) := by decide +kernel
theorem dX5_draw_16 : decode cX5_draw 16 = .ok (.ireturn, 1) := by decide +kernel
theorem dX6_draw_0 : decode cX6_draw 0 = .ok (.aload_n 0, 1) := by decide +kernel
theorem dX6_draw_1 : decode cX6_draw 1 = .ok (.iload_n 1, 1) := by decide +kernel
theorem dX6_draw_2 : decode cX6_draw 2 = .ok (.invokevirtual 148, 3) := by decide +kernel
theorem dX6_draw_5 : decode cX6_draw 5 = .ok (.ifCond .eq 19, 3) := by decide +kernel
theorem dX6_draw_8 : decode cX6_draw 8 = .ok (.iload_n 2, 1) := by decide +kernel
theorem dX6_draw_9 : decode cX6_draw 9 = .ok (.invokestatic 143, 3) := by decide +kernel
theorem dX6_draw_12 : decode cX6_draw 12 = .ok (.ifCond .eq 12, 3) := by decide +kernel
theorem dX6_draw_15 : decode cX6_draw 15 = .ok (.aload_n 0, 1) := by decide +kernel
theorem dX6_draw_16 : decode cX6_draw 16 = .ok (.iload_n 1, 1) := by decide +kernel
theorem dX6_draw_17 : decode cX6_draw 17 = .ok (.iload_n 2, 1) := by decide +kernel
theorem dX6_draw_18 : decode cX6_draw 18 = .ok (.invokevirtual 185, 3) := by decide +kernel
theorem dX6_draw_21 : decode cX6_draw 21 = .ok (.goto 4, 3) := by decide +kernel
theorem dX6_draw_24 : decode cX6_draw 24 = .ok (.iconst (-1), 1) := by decide +kernel
theorem dX6_draw_25 : decode cX6_draw 25 = .ok (.ireturn, 1) := by decide +kernel
theorem dX5_income_0 : decode cX5_income 0 = .ok (.aload_n 0, 1) := by decide +kernel
theorem dX5_income_1 : decode cX5_income 1 = .ok (.iload_n 1, 1) := by decide +kernel
theorem dX5_income_2 : decode cX5_income 2 = .ok (.invokevirtual 135, 3) := by decide +kernel
theorem dX5_income_5 : decode cX5_income 5 = .ok (.ifCond .ne 5, 3) := by decide +kernel
theorem dX5_income_8 : decode cX5_income 8 = .ok (.iconst (-1), 1) := by decide +kernel
theorem dX5_income_9 : decode cX5_income 9 = .ok (.ireturn, 1) := by decide +kernel
theorem dX6_income_0 : decode cX6_income 0 = .ok (.aload_n 0, 1) := by decide +kernel
theorem dX6_income_1 : decode cX6_income 1 = .ok (.iload_n 1, 1) := by decide +kernel
theorem dX6_income_2 : decode cX6_income 2 = .ok (.invokevirtual 243, 3) := by decide +kernel
theorem dX6_income_5 : decode cX6_income 5 = .ok (.ifCond .ne 5, 3) := by decide +kernel
theorem dX6_income_8 : decode cX6_income 8 = .ok (.iconst (-1), 1) := by decide +kernel
theorem dX6_income_9 : decode cX6_income 9 = .ok (.ireturn, 1) := by decide +kernel
theorem dX6_income_10 : decode cX6_income 10 = .ok (.iconst 0, 1) := by decide +kernel
theorem dX6_income_11 : decode cX6_income 11 = .ok (.istore_n 2, 1) := by decide +kernel
theorem dX6_income_12 : decode cX6_income 12 = .ok (.iconst 0, 1) := by decide +kernel
theorem dX6_income_13 : decode cX6_income 13 = .ok (.istore_n 3, 1) := by decide +kernel
theorem dX6_income_14 : decode cX6_income 14 = .ok (.iload_n 3, 1) := by decide +kernel
theorem dX6_income_15 : decode cX6_income 15 = .ok (.aload_n 0, 1) := by decide +kernel
theorem dX6_income_16 : decode cX6_income 16 = .ok (.getfield 161, 3) := by decide +kernel
theorem dX6_income_19 : decode cX6_income 19 = .ok (.if_icmp .ge 32, 3) := by decide +kernel
theorem dX6_income_22 : decode cX6_income 22 = .ok (.iload_n 2, 1) := by decide +kernel
theorem dX6_income_23 : decode cX6_income 23 = .ok (.aload_n 0, 1) := by decide +kernel
theorem dX6_income_24 : decode cX6_income 24 = .ok (.getfield 75, 3) := by decide +kernel
theorem dX6_income_27 : decode cX6_income 27 = .ok (.iload_n 3, 1) := by decide +kernel
theorem dX6_income_28 : decode cX6_income 28 = .ok (.iaload, 1) := by decide +kernel
theorem dX6_income_29 : decode cX6_income 29 = .ok (.iload_n 1, 1) := by decide +kernel
theorem dX6_income_30 : decode cX6_income 30 = .ok (.if_icmp .ne 12, 3) := by decide +kernel
theorem dX6_income_33 : decode cX6_income 33 = .ok (.aload_n 0, 1) := by decide +kernel
theorem dX6_income_34 : decode cX6_income 34 = .ok (.iload_n 3, 1) := by decide +kernel
theorem dX6_income_35 : decode cX6_income 35 = .ok (.iconst 0, 1) := by decide +kernel
theorem dX6_income_36 : decode cX6_income 36 = .ok (.invokevirtual 164, 3) := by decide +kernel
theorem dX6_income_39 : decode cX6_income 39 = .ok (.goto 4, 3) := by decide +kernel
theorem dX6_income_42 : decode cX6_income 42 = .ok (.iconst 0, 1) := by decide +kernel
theorem dX6_income_43 : decode cX6_income 43 = .ok (.iadd, 1) := by decide +kernel
theorem dX6_income_44 : decode cX6_income 44 = .ok (.istore_n 2, 1) := by decide +kernel
theorem dX6_income_45 : decode cX6_income 45 = .ok (.iinc 3 1, 3) := by decide +kernel
theorem dX6_income_48 : decode cX6_income 48 = .ok (.goto (-34), 3) := by decide +kernel
theorem dX6_income_51 : decode cX6_income 51 = .ok (.iload_n 2, 1) := by decide +kernel
theorem dX6_income_52 : decode cX6_income 52 = .ok (.ireturn, 1) := by decide +kernel
theorem dX6_marks_0 : decode cX6_marks 0 = .ok (.iload_n 1, 1) := by decide +kernel
theorem dX6_marks_1 : decode cX6_marks 1 = .ok (.invokestatic 143, 3) := by decide +kernel
theorem dX6_marks_4 : decode cX6_marks 4 = .ok (.ifCond .eq 14, 3) := by decide +kernel
theorem dX6_marks_7 : decode cX6_marks 7 = .ok (.iload_n 2, 1) := by decide +kernel
theorem dX6_marks_8 : decode cX6_marks 8 = .ok (.iconst 0, 1) := by decide +kernel
theorem dX6_marks_9 : decode cX6_marks 9 = .ok (.sipush 4095, 3) := by decide +kernel
theorem dX6_marks_12 : decode cX6_marks 12 = .ok (.invokestatic 136, 3) := by decide +kernel
theorem dX6_marks_15 : decode cX6_marks 15 = .ok (.ifCond .ne 5, 3) := by decide +kernel
theorem dX6_marks_18 : decode cX6_marks 18 = .ok (.iconst (-1), 1) := by decide +kernel
theorem dX6_marks_19 : decode cX6_marks 19 = .ok (.ireturn, 1) := by decide +kernel
theorem dX6_marks_20 : decode cX6_marks 20 = .ok (.aload_n 0, 1) := by decide +kernel
theorem dX6_marks_21 : decode cX6_marks 21 = .ok (.getfield 20, 3) := by decide +kernel
theorem dX6_marks_24 : decode cX6_marks 24 = .ok (.iload_n 1, 1) := by decide +kernel
theorem dX6_marks_25 : decode cX6_marks 25 = .ok (.iaload, 1) := by decide +kernel
theorem dX6_marks_26 : decode cX6_marks 26 = .ok (.istore_n 3, 1) := by decide +kernel
theorem dX6_marks_27 : decode cX6_marks 27 = .ok (.aload_n 0, 1) := by decide +kernel
theorem dX6_marks_28 : decode cX6_marks 28 = .ok (.getfield 20, 3) := by decide +kernel
theorem dX6_marks_31 : decode cX6_marks 31 = .ok (.iload_n 1, 1) := by decide +kernel
theorem dX6_marks_32 : decode cX6_marks 32 = .ok (.iload_n 2, 1) := by decide +kernel
theorem dX6_marks_33 : decode cX6_marks 33 = .ok (.iastore, 1) := by decide +kernel
theorem dX6_marks_34 : decode cX6_marks 34 = .ok (.iload_n 3, 1) := by decide +kernel
theorem dX6_marks_35 : decode cX6_marks 35 = .ok (.ireturn, 1) := by decide +kernel
theorem dX6_rule_0 : decode cX6_rule 0 = .ok (.iload_n 1, 1) := by decide +kernel
theorem dX6_rule_1 : decode cX6_rule 1 = .ok (.iconst 0, 1) := by decide +kernel
theorem dX6_rule_2 : decode cX6_rule 2 = .ok (.iconst 1, 1) := by decide +kernel
theorem dX6_rule_3 : decode cX6_rule 3 = .ok (.invokestatic 136, 3) := by decide +kernel
theorem dX6_rule_6 : decode cX6_rule 6 = .ok (.ifCond .ne 5, 3) := by decide +kernel
theorem dX6_rule_9 : decode cX6_rule 9 = .ok (.iconst (-1), 1) := by decide +kernel
theorem dX6_rule_10 : decode cX6_rule 10 = .ok (.ireturn, 1) := by decide +kernel
theorem dX6_rule_11 : decode cX6_rule 11 = .ok (.aload_n 0, 1) := by decide +kernel
theorem dX6_rule_12 : decode cX6_rule 12 = .ok (.getfield 155, 3) := by decide +kernel
theorem dX6_rule_15 : decode cX6_rule 15 = .ok (.istore_n 2, 1) := by decide +kernel
theorem dX6_rule_16 : decode cX6_rule 16 = .ok (.aload_n 0, 1) := by decide +kernel
theorem dX6_rule_17 : decode cX6_rule 17 = .ok (.iload_n 1, 1) := by decide +kernel
theorem dX6_rule_18 : decode cX6_rule 18 = .ok (.putfield 155, 3) := by decide +kernel
theorem dX6_rule_21 : decode cX6_rule 21 = .ok (.iload_n 2, 1) := by decide +kernel
theorem dX6_rule_22 : decode cX6_rule 22 = .ok (.ireturn, 1) := by decide +kernel
theorem dX6_pace_0 : decode cX6_pace 0 = .ok (.iload_n 1, 1) := by decide +kernel
theorem dX6_pace_1 : decode cX6_pace 1 = .ok (.ifCond .eq 14, 3) := by decide +kernel
theorem dX6_pace_4 : decode cX6_pace 4 = .ok (.iload_n 1, 1) := by decide +kernel
theorem dX6_pace_5 : decode cX6_pace 5 = .ok (.bipush 10, 2) := by decide +kernel
theorem dX6_pace_7 : decode cX6_pace 7 = .ok (.bipush 100, 2) := by decide +kernel
theorem dX6_pace_9 : decode cX6_pace 9 = .ok (.invokestatic 136, 3) := by decide +kernel
theorem dX6_pace_12 : decode cX6_pace 12 = .ok (.ifCond .eq 14, 3) := by decide +kernel
theorem dX6_pace_15 : decode cX6_pace 15 = .ok (.iload_n 2, 1) := by decide +kernel
theorem dX6_pace_16 : decode cX6_pace 16 = .ok (.iconst 1, 1) := by decide +kernel
theorem dX6_pace_17 : decode cX6_pace 17 = .ok (.sipush 200, 3) := by decide +kernel
theorem dX6_pace_20 : decode cX6_pace 20 = .ok (.invokestatic 136, 3) := by decide +kernel
theorem dX6_pace_23 : decode cX6_pace 23 = .ok (.ifCond .ne 5, 3) := by decide +kernel
theorem dX6_pace_26 : decode cX6_pace 26 = .ok (.iconst (-1), 1) := by decide +kernel
theorem dX6_pace_27 : decode cX6_pace 27 = .ok (.ireturn, 1) := by decide +kernel
theorem dX6_pace_28 : decode cX6_pace 28 = .ok (.aload_n 0, 1) := by decide +kernel
theorem dX6_pace_29 : decode cX6_pace 29 = .ok (.iload_n 1, 1) := by decide +kernel
theorem dX6_pace_30 : decode cX6_pace 30 = .ok (.putfield 158, 3) := by decide +kernel
theorem dX6_pace_33 : decode cX6_pace 33 = .ok (.aload_n 0, 1) := by decide +kernel
theorem dX6_pace_34 : decode cX6_pace 34 = .ok (.iload_n 2, 1) := by decide +kernel
theorem dX6_pace_35 : decode cX6_pace 35 = .ok (.putfield 7, 3) := by decide +kernel
theorem dX6_pace_38 : decode cX6_pace 38 = .ok (.iconst 1, 1) := by decide +kernel
theorem dX6_pace_39 : decode cX6_pace 39 = .ok (.ireturn, 1) := by decide +kernel
theorem dX6_campaign_0 : decode cX6_campaign 0 = .ok (.iload_n 1, 1) := by decide +kernel
theorem dX6_campaign_1 : decode cX6_campaign 1 = .ok (.bipush 10, 2) := by decide +kernel
theorem dX6_campaign_3 : decode cX6_campaign 3 = .ok (.idiv, 1) := by decide +kernel
theorem dX6_campaign_4 : decode cX6_campaign 4 = .ok (.istore 4, 2) := by decide +kernel
theorem dX6_campaign_6 : decode cX6_campaign 6 = .ok (.iload_n 1, 1) := by decide +kernel
theorem dX6_campaign_7 : decode cX6_campaign 7 = .ok (.ifCond .lt 72, 3) := by decide +kernel
theorem dX6_campaign_10 : decode cX6_campaign 10 = .ok (.iload 4, 2) := by decide +kernel
theorem dX6_campaign_12 : decode cX6_campaign 12 = .ok (.iconst 0, 1) := by decide +kernel
theorem dX6_campaign_13 : decode cX6_campaign 13 = .ok (.iconst 2, 1) := by decide +kernel
theorem dX6_campaign_14 : decode cX6_campaign 14 = .ok (.invokestatic 136, 3) := by decide +kernel
theorem dX6_campaign_17 : decode cX6_campaign 17 = .ok (.ifCond .eq 62, 3) := by decide +kernel
theorem dX6_campaign_20 : decode cX6_campaign 20 = .ok (.iload_n 1, 1) := by decide +kernel
theorem dX6_campaign_21 : decode cX6_campaign 21 = .ok (.bipush 10, 2) := by decide +kernel
theorem dX6_campaign_23 : decode cX6_campaign 23 = .ok (.irem, 1) := by decide +kernel
theorem dX6_campaign_24 : decode cX6_campaign 24 = .ok (.iconst 0, 1) := by decide +kernel
theorem dX6_campaign_25 : decode cX6_campaign 25 = .ok (.iload 4, 2) := by decide +kernel
theorem dX6_campaign_27 : decode cX6_campaign 27 = .ok (.ifCond .ne 7, 3) := by decide +kernel
theorem dX6_campaign_30 : decode cX6_campaign 30 = .ok (.iconst 1, 1) := by decide +kernel
theorem dX6_campaign_31 : decode cX6_campaign 31 = .ok (.goto 4, 3) := by decide +kernel
theorem dX6_campaign_34 : decode cX6_campaign 34 = .ok (.iconst 0, 1) := by decide +kernel
theorem dX6_campaign_35 : decode cX6_campaign 35 = .ok (.invokestatic 136, 3) := by decide +kernel
theorem dX6_campaign_38 : decode cX6_campaign 38 = .ok (.ifCond .eq 41, 3) := by decide +kernel
theorem dX6_campaign_41 : decode cX6_campaign 41 = .ok (.iload_n 2, 1) := by decide +kernel
theorem dX6_campaign_42 : decode cX6_campaign 42 = .ok (.iconst 0, 1) := by decide +kernel
theorem dX6_campaign_43 : decode cX6_campaign 43 = .ok (.ldc 147, 2) := by decide +kernel
theorem dX6_campaign_45 : decode cX6_campaign 45 = .ok (.invokestatic 136, 3) := by decide +kernel
theorem dX6_campaign_48 : decode cX6_campaign 48 = .ok (.ifCond .eq 31, 3) := by decide +kernel
theorem dX6_campaign_51 : decode cX6_campaign 51 = .ok (.iload 4, 2) := by decide +kernel
theorem dX6_campaign_53 : decode cX6_campaign 53 = .ok (.iconst 2, 1) := by decide +kernel
theorem dX6_campaign_54 : decode cX6_campaign 54 = .ok (.if_icmp .ne 10, 3) := by decide +kernel
theorem dX6_campaign_57 : decode cX6_campaign 57 = .ok (.iload_n 3, 1) := by decide +kernel
theorem dX6_campaign_58 : decode cX6_campaign 58 = .ok (.ifCond .ne 21, 3) := by decide +kernel
theorem dX6_campaign_61 : decode cX6_campaign 61 = .ok (.goto 14, 3) := by decide +kernel
theorem dX6_campaign_64 : decode cX6_campaign 64 = .ok (.iload_n 3, 1) := by decide +kernel
theorem dX6_campaign_65 : decode cX6_campaign 65 = .ok (.iconst 1, 1) := by decide +kernel
theorem dX6_campaign_66 : decode cX6_campaign 66 = .ok (.sipush 1000, 3) := by decide +kernel
theorem dX6_campaign_69 : decode cX6_campaign 69 = .ok (.invokestatic 136, 3) := by decide +kernel
theorem dX6_campaign_72 : decode cX6_campaign 72 = .ok (.ifCond .eq 7, 3) := by decide +kernel
theorem dX6_campaign_75 : decode cX6_campaign 75 = .ok (.iconst 1, 1) := by decide +kernel
theorem dX6_campaign_76 : decode cX6_campaign 76 = .ok (.goto 4, 3) := by decide +kernel
theorem dX6_campaign_79 : decode cX6_campaign 79 = .ok (.iconst 0, 1) := by decide +kernel
theorem dX6_campaign_80 : decode cX6_campaign 80 = .ok (.istore 5, 2) := by decide +kernel
theorem dX6_campaign_82 : decode cX6_campaign 82 = .ok (.iload 5, 2) := by decide +kernel
theorem dX6_campaign_84 : decode cX6_campaign 84 = .ok (.ifCond .eq 17, 3) := by decide +kernel
theorem dX6_campaign_87 : decode cX6_campaign 87 = .ok (.iload_n 2, 1) := by decide +kernel
theorem dX6_campaign_88 : decode cX6_campaign 88 = .ok (.sipush 4096, 3) := by decide +kernel
theorem dX6_campaign_91 : decode cX6_campaign 91 = .ok (.idiv, 1) := by decide +kernel
theorem dX6_campaign_92 : decode cX6_campaign 92 = .ok (.iload_n 2, 1) := by decide +kernel
theorem dX6_campaign_93 : decode cX6_campaign 93 = .ok (.sipush 4096, 3) := by decide +kernel
theorem dX6_campaign_96 : decode cX6_campaign 96 = .ok (.irem, 1) := by decide +kernel
theorem dX6_campaign_97 : decode cX6_campaign 97 = .ok (.iand, 1) := by decide +kernel
theorem dX6_campaign_98 : decode cX6_campaign 98 = .ok (.ifCond .eq 5, 3) := by decide +kernel
theorem dX6_campaign_101 : decode cX6_campaign 101 = .ok (.iconst (-1), 1) := by decide +kernel
theorem dX6_campaign_102 : decode cX6_campaign 102 = .ok (.ireturn, 1) := by decide +kernel
theorem dX6_campaign_103 : decode cX6_campaign 103 = .ok (.aload_n 0, 1) := by decide +kernel
theorem dX6_campaign_104 : decode cX6_campaign 104 = .ok (.getfield 140, 3) := by decide +kernel
theorem dX6_campaign_107 : decode cX6_campaign 107 = .ok (.bipush 40, 2) := by decide +kernel
theorem dX6_campaign_109 : decode cX6_campaign 109 = .ok (.if_icmp .ne 6, 3) := by decide +kernel
theorem dX6_campaign_112 : decode cX6_campaign 112 = .ok (.bipush (-3), 2) := by decide +kernel
theorem dX6_campaign_114 : decode cX6_campaign 114 = .ok (.ireturn, 1) := by decide +kernel
theorem dX6_campaign_115 : decode cX6_campaign 115 = .ok (.aload_n 0, 1) := by decide +kernel
theorem dX6_campaign_116 : decode cX6_campaign 116 = .ok (.getfield 140, 3) := by decide +kernel
theorem dX6_campaign_119 : decode cX6_campaign 119 = .ok (.istore 6, 2) := by decide +kernel
theorem dX6_campaign_121 : decode cX6_campaign 121 = .ok (.aload_n 0, 1) := by decide +kernel
theorem dX6_campaign_122 : decode cX6_campaign 122 = .ok (.getfield 23, 3) := by decide +kernel
theorem dX6_campaign_125 : decode cX6_campaign 125 = .ok (.iload 6, 2) := by decide +kernel
theorem dX6_campaign_127 : decode cX6_campaign 127 = .ok (.iload 4, 2) := by decide +kernel
theorem dX6_campaign_129 : decode cX6_campaign 129 = .ok (.iastore, 1) := by decide +kernel
theorem dX6_campaign_130 : decode cX6_campaign 130 = .ok (.aload_n 0, 1) := by decide +kernel
theorem dX6_campaign_131 : decode cX6_campaign 131 = .ok (.getfield 26, 3) := by decide +kernel
theorem dX6_campaign_134 : decode cX6_campaign 134 = .ok (.iload 6, 2) := by decide +kernel
theorem dX6_campaign_136 : decode cX6_campaign 136 = .ok (.iload_n 1, 1) := by decide +kernel
theorem dX6_campaign_137 : decode cX6_campaign 137 = .ok (.bipush 10, 2) := by decide +kernel
theorem dX6_campaign_139 : decode cX6_campaign 139 = .ok (.irem, 1) := by decide +kernel
theorem dX6_campaign_140 : decode cX6_campaign 140 = .ok (.iastore, 1) := by decide +kernel
theorem dX6_campaign_141 : decode cX6_campaign 141 = .ok (.aload_n 0, 1) := by decide +kernel
theorem dX6_campaign_142 : decode cX6_campaign 142 = .ok (.getfield 29, 3) := by decide +kernel
theorem dX6_campaign_145 : decode cX6_campaign 145 = .ok (.iload 6, 2) := by decide +kernel
theorem dX6_campaign_147 : decode cX6_campaign 147 = .ok (.iload_n 2, 1) := by decide +kernel
theorem dX6_campaign_148 : decode cX6_campaign 148 = .ok (.sipush 4096, 3) := by decide +kernel
theorem dX6_campaign_151 : decode cX6_campaign 151 = .ok (.idiv, 1) := by decide +kernel
theorem dX6_campaign_152 : decode cX6_campaign 152 = .ok (.iastore, 1) := by decide +kernel
theorem dX6_campaign_153 : decode cX6_campaign 153 = .ok (.aload_n 0, 1) := by decide +kernel
theorem dX6_campaign_154 : decode cX6_campaign 154 = .ok (.getfield 32, 3) := by decide +kernel
theorem dX6_campaign_157 : decode cX6_campaign 157 = .ok (.iload 6, 2) := by decide +kernel
theorem dX6_campaign_159 : decode cX6_campaign 159 = .ok (.iload_n 2, 1) := by decide +kernel
theorem dX6_campaign_160 : decode cX6_campaign 160 = .ok (.sipush 4096, 3) := by decide +kernel
theorem dX6_campaign_163 : decode cX6_campaign 163 = .ok (.irem, 1) := by decide +kernel
theorem dX6_campaign_164 : decode cX6_campaign 164 = .ok (.iastore, 1) := by decide +kernel
theorem dX6_campaign_165 : decode cX6_campaign 165 = .ok (.aload_n 0, 1) := by decide +kernel
theorem dX6_campaign_166 : decode cX6_campaign 166 = .ok (.getfield 35, 3) := by decide +kernel
theorem dX6_campaign_169 : decode cX6_campaign 169 = .ok (.iload 6, 2) := by decide +kernel
theorem dX6_campaign_171 : decode cX6_campaign 171 = .ok (.iload_n 3, 1) := by decide +kernel
theorem dX6_campaign_172 : decode cX6_campaign 172 = .ok (.iastore, 1) := by decide +kernel
theorem dX6_campaign_173 : decode cX6_campaign 173 = .ok (.aload_n 0, 1) := by decide +kernel
theorem dX6_campaign_174 : decode cX6_campaign 174 = .ok (.getfield 44, 3) := by decide +kernel
theorem dX6_campaign_177 : decode cX6_campaign 177 = .ok (.iload 6, 2) := by decide +kernel
theorem dX6_campaign_179 : decode cX6_campaign 179 = .ok (.bipush 9, 2) := by decide +kernel
theorem dX6_campaign_181 : decode cX6_campaign 181 = .ok (.iastore, 1) := by decide +kernel
theorem dX6_campaign_182 : decode cX6_campaign 182 = .ok (.aload_n 0, 1) := by decide +kernel
theorem dX6_campaign_183 : decode cX6_campaign 183 = .ok (.getfield 47, 3) := by decide +kernel
theorem dX6_campaign_186 : decode cX6_campaign 186 = .ok (.iload 6, 2) := by decide +kernel
theorem dX6_campaign_188 : decode cX6_campaign 188 = .ok (.iconst 1, 1) := by decide +kernel
theorem dX6_campaign_189 : decode cX6_campaign 189 = .ok (.iastore, 1) := by decide +kernel
theorem dX6_campaign_190 : decode cX6_campaign 190 = .ok (.aload_n 0, 1) := by decide +kernel
theorem dX6_campaign_191 : decode cX6_campaign 191 = .ok (.getfield 50, 3) := by decide +kernel
theorem dX6_campaign_194 : decode cX6_campaign 194 = .ok (.iload 6, 2) := by decide +kernel
theorem dX6_campaign_196 : decode cX6_campaign 196 = .ok (.sipush 1000, 3) := by decide +kernel
theorem dX6_campaign_199 : decode cX6_campaign 199 = .ok (.iastore, 1) := by decide +kernel
theorem dX6_campaign_200 : decode cX6_campaign 200 = .ok (.aload_n 0, 1) := by decide +kernel
theorem dX6_campaign_201 : decode cX6_campaign 201 = .ok (.getfield 60, 3) := by decide +kernel
theorem dX6_campaign_204 : decode cX6_campaign 204 = .ok (.iload 6, 2) := by decide +kernel
theorem dX6_campaign_206 : decode cX6_campaign 206 = .ok (.iconst 0, 1) := by decide +kernel
theorem dX6_campaign_207 : decode cX6_campaign 207 = .ok (.iastore, 1) := by decide +kernel
theorem dX6_campaign_208 : decode cX6_campaign 208 = .ok (.aload_n 0, 1) := by decide +kernel
theorem dX6_campaign_209 : decode cX6_campaign 209 = .ok (.dup, 1) := by decide +kernel
theorem dX6_campaign_210 : decode cX6_campaign 210 = .ok (.getfield 140, 3) := by decide +kernel
theorem dX6_campaign_213 : decode cX6_campaign 213 = .ok (.iconst 1, 1) := by decide +kernel
theorem dX6_campaign_214 : decode cX6_campaign 214 = .ok (.iadd, 1) := by decide +kernel
theorem dX6_campaign_215 : decode cX6_campaign 215 = .ok (.putfield 140, 3) := by decide +kernel
theorem dX6_campaign_218 : decode cX6_campaign 218 = .ok (.iload 6, 2) := by decide +kernel
theorem dX6_campaign_220 : decode cX6_campaign 220 = .ok (.ireturn, 1) := by decide +kernel
theorem dX6_count_0 : decode cX6_count 0 = .ok (.iconst 0, 1) := by decide +kernel
theorem dX6_count_1 : decode cX6_count 1 = .ok (.istore_n 2, 1) := by decide +kernel
theorem dX6_count_2 : decode cX6_count 2 = .ok (.iload_n 1, 1) := by decide +kernel
theorem dX6_count_3 : decode cX6_count 3 = .ok (.tableswitch 120 0 5 #[37, 42, 47, 52, 57, 93], 37) := by decide +kernel
theorem dX6_count_40 : decode cX6_count 40 = .ok (.aload_n 0, 1) := by decide +kernel
theorem dX6_count_41 : decode cX6_count 41 = .ok (.getfield 133, 3) := by decide +kernel
theorem dX6_count_44 : decode cX6_count 44 = .ok (.ireturn, 1) := by decide +kernel
theorem dX6_count_45 : decode cX6_count 45 = .ok (.aload_n 0, 1) := by decide +kernel
theorem dX6_count_46 : decode cX6_count 46 = .ok (.getfield 140, 3) := by decide +kernel
theorem dX6_count_49 : decode cX6_count 49 = .ok (.ireturn, 1) := by decide +kernel
theorem dX6_count_50 : decode cX6_count 50 = .ok (.aload_n 0, 1) := by decide +kernel
theorem dX6_count_51 : decode cX6_count 51 = .ok (.getfield 161, 3) := by decide +kernel
theorem dX6_count_54 : decode cX6_count 54 = .ok (.ireturn, 1) := by decide +kernel
theorem dX6_count_55 : decode cX6_count 55 = .ok (.aload_n 0, 1) := by decide +kernel
theorem dX6_count_56 : decode cX6_count 56 = .ok (.getfield 152, 3) := by decide +kernel
theorem dX6_count_59 : decode cX6_count 59 = .ok (.ireturn, 1) := by decide +kernel
theorem dX6_count_60 : decode cX6_count 60 = .ok (.iconst 0, 1) := by decide +kernel
theorem dX6_count_61 : decode cX6_count 61 = .ok (.istore_n 3, 1) := by decide +kernel
theorem dX6_count_62 : decode cX6_count 62 = .ok (.iload_n 3, 1) := by decide +kernel
theorem dX6_count_63 : decode cX6_count 63 = .ok (.aload_n 0, 1) := by decide +kernel
theorem dX6_count_64 : decode cX6_count 64 = .ok (.getfield 161, 3) := by decide +kernel
theorem dX6_count_67 : decode cX6_count 67 = .ok (.if_icmp .ge 27, 3) := by decide +kernel
theorem dX6_count_70 : decode cX6_count 70 = .ok (.iload_n 2, 1) := by decide +kernel
theorem dX6_count_71 : decode cX6_count 71 = .ok (.aload_n 0, 1) := by decide +kernel
theorem dX6_count_72 : decode cX6_count 72 = .ok (.getfield 87, 3) := by decide +kernel
theorem dX6_count_75 : decode cX6_count 75 = .ok (.iload_n 3, 1) := by decide +kernel
theorem dX6_count_76 : decode cX6_count 76 = .ok (.iaload, 1) := by decide +kernel
theorem dX6_count_77 : decode cX6_count 77 = .ok (.iconst 3, 1) := by decide +kernel
theorem dX6_count_78 : decode cX6_count 78 = .ok (.if_icmp .ne 7, 3) := by decide +kernel
theorem dX6_count_81 : decode cX6_count 81 = .ok (.iconst 1, 1) := by decide +kernel
theorem dX6_count_82 : decode cX6_count 82 = .ok (.goto 4, 3) := by decide +kernel
theorem dX6_count_85 : decode cX6_count 85 = .ok (.iconst 0, 1) := by decide +kernel
theorem dX6_count_86 : decode cX6_count 86 = .ok (.iadd, 1) := by decide +kernel
theorem dX6_count_87 : decode cX6_count 87 = .ok (.istore_n 2, 1) := by decide +kernel
theorem dX6_count_88 : decode cX6_count 88 = .ok (.iinc 3 1, 3) := by decide +kernel
theorem dX6_count_91 : decode cX6_count 91 = .ok (.goto (-29), 3) := by decide +kernel
theorem dX6_count_94 : decode cX6_count 94 = .ok (.iload_n 2, 1) := by decide +kernel
theorem dX6_count_95 : decode cX6_count 95 = .ok (.ireturn, 1) := by decide +kernel
theorem dX6_count_96 : decode cX6_count 96 = .ok (.iconst 0, 1) := by decide +kernel
theorem dX6_count_97 : decode cX6_count 97 = .ok (.istore_n 3, 1) := by decide +kernel
theorem dX6_count_98 : decode cX6_count 98 = .ok (.iload_n 3, 1) := by decide +kernel
theorem dX6_count_99 : decode cX6_count 99 = .ok (.aload_n 0, 1) := by decide +kernel
theorem dX6_count_100 : decode cX6_count 100 = .ok (.getfield 161, 3) := by decide +kernel
theorem dX6_count_103 : decode cX6_count 103 = .ok (.if_icmp .ge 18, 3) := by decide +kernel
theorem dX6_count_106 : decode cX6_count 106 = .ok (.iload_n 2, 1) := by decide +kernel
theorem dX6_count_107 : decode cX6_count 107 = .ok (.aload_n 0, 1) := by decide +kernel
theorem dX6_count_108 : decode cX6_count 108 = .ok (.iload_n 3, 1) := by decide +kernel
theorem dX6_count_109 : decode cX6_count 109 = .ok (.iconst 0, 1) := by decide +kernel
theorem dX6_count_110 : decode cX6_count 110 = .ok (.invokevirtual 164, 3) := by decide +kernel
theorem dX6_count_113 : decode cX6_count 113 = .ok (.iadd, 1) := by decide +kernel
theorem dX6_count_114 : decode cX6_count 114 = .ok (.istore_n 2, 1) := by decide +kernel
theorem dX6_count_115 : decode cX6_count 115 = .ok (.iinc 3 1, 3) := by decide +kernel
theorem dX6_count_118 : decode cX6_count 118 = .ok (.goto (-20), 3) := by decide +kernel
theorem dX6_count_121 : decode cX6_count 121 = .ok (.iload_n 2, 1) := by decide +kernel
theorem dX6_count_122 : decode cX6_count 122 = .ok (.ireturn, 1) := by decide +kernel
theorem dX6_count_123 : decode cX6_count 123 = .ok (.iconst (-1), 1) := by decide +kernel
theorem dX6_count_124 : decode cX6_count 124 = .ok (.ireturn, 1) := by decide +kernel
theorem dX6_goesBy_0 : decode cX6_goesBy 0 = .ok (.aload_n 0, 1) := by decide +kernel
theorem dX6_goesBy_1 : decode cX6_goesBy 1 = .ok (.dup, 1) := by decide +kernel
theorem dX6_goesBy_2 : decode cX6_goesBy 2 = .ok (.getfield 152, 3) := by decide +kernel
theorem dX6_goesBy_5 : decode cX6_goesBy 5 = .ok (.iconst 1, 1) := by decide +kernel
theorem dX6_goesBy_6 : decode cX6_goesBy 6 = .ok (.iadd, 1) := by decide +kernel
theorem dX6_goesBy_7 : decode cX6_goesBy 7 = .ok (.putfield 152, 3) := by decide +kernel
theorem dX6_goesBy_10 : decode cX6_goesBy 10 = .ok (.iconst 0, 1) := by decide +kernel
theorem dX6_goesBy_11 : decode cX6_goesBy 11 = .ok (.istore_n 1, 1) := by decide +kernel
theorem dX6_goesBy_12 : decode cX6_goesBy 12 = .ok (.iload_n 1, 1) := by decide +kernel
theorem dX6_goesBy_13 : decode cX6_goesBy 13 = .ok (.aload_n 0, 1) := by decide +kernel
theorem dX6_goesBy_14 : decode cX6_goesBy 14 = .ok (.getfield 161, 3) := by decide +kernel
theorem dX6_goesBy_17 : decode cX6_goesBy 17 = .ok (.if_icmp .ge 46, 3) := by decide +kernel
theorem dX6_goesBy_20 : decode cX6_goesBy 20 = .ok (.aload_n 0, 1) := by decide +kernel
theorem dX6_goesBy_21 : decode cX6_goesBy 21 = .ok (.getfield 87, 3) := by decide +kernel
theorem dX6_goesBy_24 : decode cX6_goesBy 24 = .ok (.iload_n 1, 1) := by decide +kernel
theorem dX6_goesBy_25 : decode cX6_goesBy 25 = .ok (.iaload, 1) := by decide +kernel
theorem dX6_goesBy_26 : decode cX6_goesBy 26 = .ok (.iconst 1, 1) := by decide +kernel
theorem dX6_goesBy_27 : decode cX6_goesBy 27 = .ok (.if_icmp .ne 30, 3) := by decide +kernel
theorem dX6_goesBy_30 : decode cX6_goesBy 30 = .ok (.aload_n 0, 1) := by decide +kernel
theorem dX6_goesBy_31 : decode cX6_goesBy 31 = .ok (.getfield 152, 3) := by decide +kernel
theorem dX6_goesBy_34 : decode cX6_goesBy 34 = .ok (.aload_n 0, 1) := by decide +kernel
theorem dX6_goesBy_35 : decode cX6_goesBy 35 = .ok (.getfield 69, 3) := by decide +kernel
theorem dX6_goesBy_38 : decode cX6_goesBy 38 = .ok (.iload_n 1, 1) := by decide +kernel
theorem dX6_goesBy_39 : decode cX6_goesBy 39 = .ok (.iaload, 1) := by decide +kernel
theorem dX6_goesBy_40 : decode cX6_goesBy 40 = .ok (.aload_n 0, 1) := by decide +kernel
theorem dX6_goesBy_41 : decode cX6_goesBy 41 = .ok (.getfield 90, 3) := by decide +kernel
theorem dX6_goesBy_44 : decode cX6_goesBy 44 = .ok (.iload_n 1, 1) := by decide +kernel
theorem dX6_goesBy_45 : decode cX6_goesBy 45 = .ok (.iaload, 1) := by decide +kernel
theorem dX6_goesBy_46 : decode cX6_goesBy 46 = .ok (.iadd, 1) := by decide +kernel
theorem dX6_goesBy_47 : decode cX6_goesBy 47 = .ok (.if_icmp .le 10, 3) := by decide +kernel
theorem dX6_goesBy_50 : decode cX6_goesBy 50 = .ok (.aload_n 0, 1) := by decide +kernel
theorem dX6_goesBy_51 : decode cX6_goesBy 51 = .ok (.getfield 87, 3) := by decide +kernel
theorem dX6_goesBy_54 : decode cX6_goesBy 54 = .ok (.iload_n 1, 1) := by decide +kernel
theorem dX6_goesBy_55 : decode cX6_goesBy 55 = .ok (.iconst 0, 1) := by decide +kernel
theorem dX6_goesBy_56 : decode cX6_goesBy 56 = .ok (.iastore, 1) := by decide +kernel
theorem dX6_goesBy_57 : decode cX6_goesBy 57 = .ok (.iinc 1 1, 3) := by decide +kernel
theorem dX6_goesBy_60 : decode cX6_goesBy 60 = .ok (.goto (-48), 3) := by decide +kernel
theorem dX6_goesBy_63 : decode cX6_goesBy 63 = .ok (.aload_n 0, 1) := by decide +kernel
theorem dX6_goesBy_64 : decode cX6_goesBy 64 = .ok (.getfield 158, 3) := by decide +kernel
theorem dX6_goesBy_67 : decode cX6_goesBy 67 = .ok (.ifCond .eq 25, 3) := by decide +kernel
theorem dX6_goesBy_70 : decode cX6_goesBy 70 = .ok (.aload_n 0, 1) := by decide +kernel
theorem dX6_goesBy_71 : decode cX6_goesBy 71 = .ok (.getfield 152, 3) := by decide +kernel
theorem dX6_goesBy_74 : decode cX6_goesBy 74 = .ok (.aload_n 0, 1) := by decide +kernel
theorem dX6_goesBy_75 : decode cX6_goesBy 75 = .ok (.getfield 158, 3) := by decide +kernel
theorem dX6_goesBy_78 : decode cX6_goesBy 78 = .ok (.irem, 1) := by decide +kernel
theorem dX6_goesBy_79 : decode cX6_goesBy 79 = .ok (.ifCond .ne 13, 3) := by decide +kernel
theorem dX6_goesBy_82 : decode cX6_goesBy 82 = .ok (.aload_n 0, 1) := by decide +kernel
theorem dX6_goesBy_83 : decode cX6_goesBy 83 = .ok (.getfield 152, 3) := by decide +kernel
theorem dX6_goesBy_86 : decode cX6_goesBy 86 = .ok (.bipush 100, 2) := by decide +kernel
theorem dX6_goesBy_88 : decode cX6_goesBy 88 = .ok (.irem, 1) := by decide +kernel
theorem dX6_goesBy_89 : decode cX6_goesBy 89 = .ok (.ifCond .ne 4, 3) := by decide +kernel
theorem dX6_goesBy_92 : decode cX6_goesBy 92 = .ok (.return_, 1) := by decide +kernel
theorem dX6_goesBy_93 : decode cX6_goesBy 93 = .ok (.iconst 0, 1) := by decide +kernel
theorem dX6_goesBy_94 : decode cX6_goesBy 94 = .ok (.istore_n 1, 1) := by decide +kernel
theorem dX6_goesBy_95 : decode cX6_goesBy 95 = .ok (.iload_n 1, 1) := by decide +kernel
theorem dX6_goesBy_96 : decode cX6_goesBy 96 = .ok (.aload_n 0, 1) := by decide +kernel
theorem dX6_goesBy_97 : decode cX6_goesBy 97 = .ok (.getfield 140, 3) := by decide +kernel
theorem dX6_goesBy_100 : decode cX6_goesBy 100 = .ok (.if_icmp .ge 157, 3) := by decide +kernel
theorem dX6_goesBy_103 : decode cX6_goesBy 103 = .ok (.aload_n 0, 1) := by decide +kernel
theorem dX6_goesBy_104 : decode cX6_goesBy 104 = .ok (.getfield 23, 3) := by decide +kernel
theorem dX6_goesBy_107 : decode cX6_goesBy 107 = .ok (.iload_n 1, 1) := by decide +kernel
theorem dX6_goesBy_108 : decode cX6_goesBy 108 = .ok (.iaload, 1) := by decide +kernel
theorem dX6_goesBy_109 : decode cX6_goesBy 109 = .ok (.ifCond .eq 6, 3) := by decide +kernel
theorem dX6_goesBy_112 : decode cX6_goesBy 112 = .ok (.goto 139, 3) := by decide +kernel
theorem dX6_goesBy_115 : decode cX6_goesBy 115 = .ok (.aload_n 0, 1) := by decide +kernel
theorem dX6_goesBy_116 : decode cX6_goesBy 116 = .ok (.iload_n 1, 1) := by decide +kernel
theorem dX6_goesBy_117 : decode cX6_goesBy 117 = .ok (.aload_n 0, 1) := by decide +kernel
theorem dX6_goesBy_118 : decode cX6_goesBy 118 = .ok (.getfield 152, 3) := by decide +kernel
theorem dX6_goesBy_121 : decode cX6_goesBy 121 = .ok (.bipush 100, 2) := by decide +kernel
theorem dX6_goesBy_123 : decode cX6_goesBy 123 = .ok (.idiv, 1) := by decide +kernel
theorem dX6_goesBy_124 : decode cX6_goesBy 124 = .ok (.iconst 1, 1) := by decide +kernel
theorem dX6_goesBy_125 : decode cX6_goesBy 125 = .ok (.iconst 1, 1) := by decide +kernel
theorem dX6_goesBy_126 : decode cX6_goesBy 126 = .ok (.invokevirtual 168, 3) := by decide +kernel
theorem dX6_goesBy_129 : decode cX6_goesBy 129 = .ok (.i2l, 1) := by decide +kernel
theorem dX6_goesBy_130 : decode cX6_goesBy 130 = .ok (.ldc2_w 241, 3) := by decide +kernel
theorem dX6_goesBy_133 : decode cX6_goesBy 133 = .ok (.lmul, 1) := by decide +kernel
theorem dX6_goesBy_134 : decode cX6_goesBy 134 = .ok (.lstore_n 2, 1) := by decide +kernel
theorem dX6_goesBy_135 : decode cX6_goesBy 135 = .ok (.aload_n 0, 1) := by decide +kernel
theorem dX6_goesBy_136 : decode cX6_goesBy 136 = .ok (.getfield 38, 3) := by decide +kernel
theorem dX6_goesBy_139 : decode cX6_goesBy 139 = .ok (.iload_n 1, 1) := by decide +kernel
theorem dX6_goesBy_140 : decode cX6_goesBy 140 = .ok (.iaload, 1) := by decide +kernel
theorem dX6_goesBy_141 : decode cX6_goesBy 141 = .ok (.i2l, 1) := by decide +kernel
theorem dX6_goesBy_142 : decode cX6_goesBy 142 = .ok (.aload_n 0, 1) := by decide +kernel
theorem dX6_goesBy_143 : decode cX6_goesBy 143 = .ok (.getfield 152, 3) := by decide +kernel
theorem dX6_goesBy_146 : decode cX6_goesBy 146 = .ok (.bipush 100, 2) := by decide +kernel
theorem dX6_goesBy_148 : decode cX6_goesBy 148 = .ok (.irem, 1) := by decide +kernel
theorem dX6_goesBy_149 : decode cX6_goesBy 149 = .ok (.i2l, 1) := by decide +kernel
theorem dX6_goesBy_150 : decode cX6_goesBy 150 = .ok (.lmul, 1) := by decide +kernel
theorem dX6_goesBy_151 : decode cX6_goesBy 151 = .ok (.lstore 4, 2) := by decide +kernel
theorem dX6_goesBy_153 : decode cX6_goesBy 153 = .ok (.lload_n 2, 1) := by decide +kernel
theorem dX6_goesBy_154 : decode cX6_goesBy 154 = .ok (.lload 4, 2) := by decide +kernel
theorem dX6_goesBy_156 : decode cX6_goesBy 156 = .ok (.lcmp, 1) := by decide +kernel
theorem dX6_goesBy_157 : decode cX6_goesBy 157 = .ok (.ifCond .le 41, 3) := by decide +kernel
theorem dX6_goesBy_160 : decode cX6_goesBy 160 = .ok (.aload_n 0, 1) := by decide +kernel
theorem dX6_goesBy_161 : decode cX6_goesBy 161 = .ok (.getfield 50, 3) := by decide +kernel
theorem dX6_goesBy_164 : decode cX6_goesBy 164 = .ok (.iload_n 1, 1) := by decide +kernel
theorem dX6_goesBy_165 : decode cX6_goesBy 165 = .ok (.aload_n 0, 1) := by decide +kernel
theorem dX6_goesBy_166 : decode cX6_goesBy 166 = .ok (.getfield 50, 3) := by decide +kernel
theorem dX6_goesBy_169 : decode cX6_goesBy 169 = .ok (.iload_n 1, 1) := by decide +kernel
theorem dX6_goesBy_170 : decode cX6_goesBy 170 = .ok (.iaload, 1) := by decide +kernel
theorem dX6_goesBy_171 : decode cX6_goesBy 171 = .ok (.bipush 9, 2) := by decide +kernel
theorem dX6_goesBy_173 : decode cX6_goesBy 173 = .ok (.imul, 1) := by decide +kernel
theorem dX6_goesBy_174 : decode cX6_goesBy 174 = .ok (.bipush 10, 2) := by decide +kernel
theorem dX6_goesBy_176 : decode cX6_goesBy 176 = .ok (.idiv, 1) := by decide +kernel
theorem dX6_goesBy_177 : decode cX6_goesBy 177 = .ok (.iconst 1, 1) := by decide +kernel
theorem dX6_goesBy_178 : decode cX6_goesBy 178 = .ok (.if_icmp .ge 7, 3) := by decide +kernel
theorem dX6_goesBy_181 : decode cX6_goesBy 181 = .ok (.iconst 1, 1) := by decide +kernel
theorem dX6_goesBy_182 : decode cX6_goesBy 182 = .ok (.goto 15, 3) := by decide +kernel
theorem dX6_goesBy_185 : decode cX6_goesBy 185 = .ok (.aload_n 0, 1) := by decide +kernel
theorem dX6_goesBy_186 : decode cX6_goesBy 186 = .ok (.getfield 50, 3) := by decide +kernel
theorem dX6_goesBy_189 : decode cX6_goesBy 189 = .ok (.iload_n 1, 1) := by decide +kernel
theorem dX6_goesBy_190 : decode cX6_goesBy 190 = .ok (.iaload, 1) := by decide +kernel
theorem dX6_goesBy_191 : decode cX6_goesBy 191 = .ok (.bipush 9, 2) := by decide +kernel
theorem dX6_goesBy_193 : decode cX6_goesBy 193 = .ok (.imul, 1) := by decide +kernel
theorem dX6_goesBy_194 : decode cX6_goesBy 194 = .ok (.bipush 10, 2) := by decide +kernel
theorem dX6_goesBy_196 : decode cX6_goesBy 196 = .ok (.idiv, 1) := by decide +kernel
theorem dX6_goesBy_197 : decode cX6_goesBy 197 = .ok (.iastore, 1) := by decide +kernel
theorem dX6_goesBy_198 : decode cX6_goesBy 198 = .ok (.lload_n 2, 1) := by decide +kernel
theorem dX6_goesBy_199 : decode cX6_goesBy 199 = .ok (.lload 4, 2) := by decide +kernel
theorem dX6_goesBy_201 : decode cX6_goesBy 201 = .ok (.lcmp, 1) := by decide +kernel
theorem dX6_goesBy_202 : decode cX6_goesBy 202 = .ok (.ifCond .ge 49, 3) := by decide +kernel
theorem dX6_goesBy_205 : decode cX6_goesBy 205 = .ok (.aload_n 0, 1) := by decide +kernel
theorem dX6_goesBy_206 : decode cX6_goesBy 206 = .ok (.getfield 50, 3) := by decide +kernel
theorem dX6_goesBy_209 : decode cX6_goesBy 209 = .ok (.iload_n 1, 1) := by decide +kernel
theorem dX6_goesBy_210 : decode cX6_goesBy 210 = .ok (.aload_n 0, 1) := by decide +kernel
theorem dX6_goesBy_211 : decode cX6_goesBy 211 = .ok (.getfield 50, 3) := by decide +kernel
theorem dX6_goesBy_214 : decode cX6_goesBy 214 = .ok (.iload_n 1, 1) := by decide +kernel
theorem dX6_goesBy_215 : decode cX6_goesBy 215 = .ok (.iaload, 1) := by decide +kernel
theorem dX6_goesBy_216 : decode cX6_goesBy 216 = .ok (.bipush 11, 2) := by decide +kernel
theorem dX6_goesBy_218 : decode cX6_goesBy 218 = .ok (.imul, 1) := by decide +kernel
theorem dX6_goesBy_219 : decode cX6_goesBy 219 = .ok (.bipush 10, 2) := by decide +kernel
theorem dX6_goesBy_221 : decode cX6_goesBy 221 = .ok (.idiv, 1) := by decide +kernel
theorem dX6_goesBy_222 : decode cX6_goesBy 222 = .ok (.iconst 1, 1) := by decide +kernel
theorem dX6_goesBy_223 : decode cX6_goesBy 223 = .ok (.iadd, 1) := by decide +kernel
theorem dX6_goesBy_224 : decode cX6_goesBy 224 = .ok (.sipush 1000, 3) := by decide +kernel
theorem dX6_goesBy_227 : decode cX6_goesBy 227 = .ok (.if_icmp .le 9, 3) := by decide +kernel
theorem dX6_goesBy_230 : decode cX6_goesBy 230 = .ok (.sipush 1000, 3) := by decide +kernel
theorem dX6_goesBy_233 : decode cX6_goesBy 233 = .ok (.goto 17, 3) := by decide +kernel
theorem dX6_goesBy_236 : decode cX6_goesBy 236 = .ok (.aload_n 0, 1) := by decide +kernel
theorem dX6_goesBy_237 : decode cX6_goesBy 237 = .ok (.getfield 50, 3) := by decide +kernel
theorem dX6_goesBy_240 : decode cX6_goesBy 240 = .ok (.iload_n 1, 1) := by decide +kernel
theorem dX6_goesBy_241 : decode cX6_goesBy 241 = .ok (.iaload, 1) := by decide +kernel
theorem dX6_goesBy_242 : decode cX6_goesBy 242 = .ok (.bipush 11, 2) := by decide +kernel
theorem dX6_goesBy_244 : decode cX6_goesBy 244 = .ok (.imul, 1) := by decide +kernel
theorem dX6_goesBy_245 : decode cX6_goesBy 245 = .ok (.bipush 10, 2) := by decide +kernel
theorem dX6_goesBy_247 : decode cX6_goesBy 247 = .ok (.idiv, 1) := by decide +kernel
theorem dX6_goesBy_248 : decode cX6_goesBy 248 = .ok (.iconst 1, 1) := by decide +kernel
theorem dX6_goesBy_249 : decode cX6_goesBy 249 = .ok (.iadd, 1) := by decide +kernel
theorem dX6_goesBy_250 : decode cX6_goesBy 250 = .ok (.iastore, 1) := by decide +kernel
theorem dX6_goesBy_251 : decode cX6_goesBy 251 = .ok (.iinc 1 1, 3) := by decide +kernel
theorem dX6_goesBy_254 : decode cX6_goesBy 254 = .ok (.goto (-159), 3) := by decide +kernel
theorem dX6_goesBy_257 : decode cX6_goesBy 257 = .ok (.return_, 1) := by decide +kernel
theorem dX6_sell_0 : decode cX6_sell 0 = .ok (.aload_n 0, 1) := by decide +kernel
theorem dX6_sell_1 : decode cX6_sell 1 = .ok (.getfield 161, 3) := by decide +kernel
theorem dX6_sell_4 : decode cX6_sell 4 = .ok (.istore 4, 2) := by decide +kernel
theorem dX6_sell_6 : decode cX6_sell 6 = .ok (.aload_n 0, 1) := by decide +kernel
theorem dX6_sell_7 : decode cX6_sell 7 = .ok (.getfield 124, 3) := by decide +kernel
theorem dX6_sell_10 : decode cX6_sell 10 = .ok (.iload_n 3, 1) := by decide +kernel
theorem dX6_sell_11 : decode cX6_sell 11 = .ok (.iaload, 1) := by decide +kernel
theorem dX6_sell_12 : decode cX6_sell 12 = .ok (.istore 5, 2) := by decide +kernel
theorem dX6_sell_14 : decode cX6_sell 14 = .ok (.aload_n 0, 1) := by decide +kernel
theorem dX6_sell_15 : decode cX6_sell 15 = .ok (.getfield 69, 3) := by decide +kernel
theorem dX6_sell_18 : decode cX6_sell 18 = .ok (.iload 4, 2) := by decide +kernel
theorem dX6_sell_20 : decode cX6_sell 20 = .ok (.aload_n 0, 1) := by decide +kernel
theorem dX6_sell_21 : decode cX6_sell 21 = .ok (.getfield 152, 3) := by decide +kernel
theorem dX6_sell_24 : decode cX6_sell 24 = .ok (.iastore, 1) := by decide +kernel
theorem dX6_sell_25 : decode cX6_sell 25 = .ok (.aload_n 0, 1) := by decide +kernel
theorem dX6_sell_26 : decode cX6_sell 26 = .ok (.getfield 72, 3) := by decide +kernel
theorem dX6_sell_29 : decode cX6_sell 29 = .ok (.iload 4, 2) := by decide +kernel
theorem dX6_sell_31 : decode cX6_sell 31 = .ok (.iload_n 1, 1) := by decide +kernel
theorem dX6_sell_32 : decode cX6_sell 32 = .ok (.iastore, 1) := by decide +kernel
theorem dX6_sell_33 : decode cX6_sell 33 = .ok (.aload_n 0, 1) := by decide +kernel
theorem dX6_sell_34 : decode cX6_sell 34 = .ok (.getfield 75, 3) := by decide +kernel
theorem dX6_sell_37 : decode cX6_sell 37 = .ok (.iload 4, 2) := by decide +kernel
theorem dX6_sell_39 : decode cX6_sell 39 = .ok (.iload_n 2, 1) := by decide +kernel
theorem dX6_sell_40 : decode cX6_sell 40 = .ok (.iastore, 1) := by decide +kernel
theorem dX6_sell_41 : decode cX6_sell 41 = .ok (.aload_n 0, 1) := by decide +kernel
theorem dX6_sell_42 : decode cX6_sell 42 = .ok (.getfield 78, 3) := by decide +kernel
theorem dX6_sell_45 : decode cX6_sell 45 = .ok (.iload 4, 2) := by decide +kernel
theorem dX6_sell_47 : decode cX6_sell 47 = .ok (.iload_n 3, 1) := by decide +kernel
theorem dX6_sell_48 : decode cX6_sell 48 = .ok (.iastore, 1) := by decide +kernel
theorem dX6_sell_49 : decode cX6_sell 49 = .ok (.aload_n 0, 1) := by decide +kernel
theorem dX6_sell_50 : decode cX6_sell 50 = .ok (.getfield 81, 3) := by decide +kernel
theorem dX6_sell_53 : decode cX6_sell 53 = .ok (.iload 4, 2) := by decide +kernel
theorem dX6_sell_55 : decode cX6_sell 55 = .ok (.iload 5, 2) := by decide +kernel
theorem dX6_sell_57 : decode cX6_sell 57 = .ok (.iastore, 1) := by decide +kernel
theorem dX6_sell_58 : decode cX6_sell 58 = .ok (.aload_n 0, 1) := by decide +kernel
theorem dX6_sell_59 : decode cX6_sell 59 = .ok (.getfield 84, 3) := by decide +kernel
theorem dX6_sell_62 : decode cX6_sell 62 = .ok (.iload 4, 2) := by decide +kernel
theorem dX6_sell_64 : decode cX6_sell 64 = .ok (.aload_n 0, 1) := by decide +kernel
theorem dX6_sell_65 : decode cX6_sell 65 = .ok (.getfield 127, 3) := by decide +kernel
theorem dX6_sell_68 : decode cX6_sell 68 = .ok (.iload_n 3, 1) := by decide +kernel
theorem dX6_sell_69 : decode cX6_sell 69 = .ok (.iaload, 1) := by decide +kernel
theorem dX6_sell_70 : decode cX6_sell 70 = .ok (.iastore, 1) := by decide +kernel
theorem dX6_sell_71 : decode cX6_sell 71 = .ok (.aload_n 0, 1) := by decide +kernel
theorem dX6_sell_72 : decode cX6_sell 72 = .ok (.getfield 87, 3) := by decide +kernel
theorem dX6_sell_75 : decode cX6_sell 75 = .ok (.iload 4, 2) := by decide +kernel
theorem dX6_sell_77 : decode cX6_sell 77 = .ok (.aload_n 0, 1) := by decide +kernel
theorem dX6_sell_78 : decode cX6_sell 78 = .ok (.getfield 26, 3) := by decide +kernel
theorem dX6_sell_81 : decode cX6_sell 81 = .ok (.iload 5, 2) := by decide +kernel
theorem dX6_sell_83 : decode cX6_sell 83 = .ok (.iaload, 1) := by decide +kernel
theorem dX6_sell_84 : decode cX6_sell 84 = .ok (.iconst 1, 1) := by decide +kernel
theorem dX6_sell_85 : decode cX6_sell 85 = .ok (.if_icmp .ne 7, 3) := by decide +kernel
theorem dX6_sell_88 : decode cX6_sell 88 = .ok (.iconst 1, 1) := by decide +kernel
theorem dX6_sell_89 : decode cX6_sell 89 = .ok (.goto 4, 3) := by decide +kernel
theorem dX6_sell_92 : decode cX6_sell 92 = .ok (.iconst 0, 1) := by decide +kernel
theorem dX6_sell_93 : decode cX6_sell 93 = .ok (.iastore, 1) := by decide +kernel
theorem dX6_sell_94 : decode cX6_sell 94 = .ok (.aload_n 0, 1) := by decide +kernel
theorem dX6_sell_95 : decode cX6_sell 95 = .ok (.getfield 90, 3) := by decide +kernel
theorem dX6_sell_98 : decode cX6_sell 98 = .ok (.iload 4, 2) := by decide +kernel
theorem dX6_sell_100 : decode cX6_sell 100 = .ok (.aload_n 0, 1) := by decide +kernel
theorem dX6_sell_101 : decode cX6_sell 101 = .ok (.getfield 7, 3) := by decide +kernel
theorem dX6_sell_104 : decode cX6_sell 104 = .ok (.iastore, 1) := by decide +kernel
theorem dX6_sell_105 : decode cX6_sell 105 = .ok (.aload_n 0, 1) := by decide +kernel
theorem dX6_sell_106 : decode cX6_sell 106 = .ok (.getfield 93, 3) := by decide +kernel
theorem dX6_sell_109 : decode cX6_sell 109 = .ok (.iload 4, 2) := by decide +kernel
theorem dX6_sell_111 : decode cX6_sell 111 = .ok (.iconst 0, 1) := by decide +kernel
theorem dX6_sell_112 : decode cX6_sell 112 = .ok (.iastore, 1) := by decide +kernel
theorem dX6_sell_113 : decode cX6_sell 113 = .ok (.aload_n 0, 1) := by decide +kernel
theorem dX6_sell_114 : decode cX6_sell 114 = .ok (.dup, 1) := by decide +kernel
theorem dX6_sell_115 : decode cX6_sell 115 = .ok (.getfield 161, 3) := by decide +kernel
theorem dX6_sell_118 : decode cX6_sell 118 = .ok (.iconst 1, 1) := by decide +kernel
theorem dX6_sell_119 : decode cX6_sell 119 = .ok (.iadd, 1) := by decide +kernel
theorem dX6_sell_120 : decode cX6_sell 120 = .ok (.putfield 161, 3) := by decide +kernel
theorem dX6_sell_123 : decode cX6_sell 123 = .ok (.return_, 1) := by decide +kernel
end
section
/-- what a method of one object may change: the object, and what is new -/
abbrev aO (b sz : Nat) : Nat → Prop := fun q => q = b ∨ sz ≤ q
/-- void methods that change nothing -/
abbrev qRv : Array Value → State → Outcome → State → Prop := va_Qv (fun (_ : Unit) => True) (fun _ _ => True) (fun _ => False)
abbrev mVv (l : Launch) (y : MethodName) (bytes : ByteArray) (maxL : Nat) (d : Nat) (D : va_G) (wc : va_W) (tc : List (ClassId × FieldType)) (As : List Value) : Prop :=
  Met l y (Cond.code y bytes maxL none :: lw_B) (rmD d 0 0) (va_Pc As (fun U => va_P D vwCl wc U.heap ∧ va_K D vwCl tc U)) qRv 0 0 (fun _ => False)
/-- void methods of one object: its fields change to fs' -/
abbrev mOv (l : Launch) (y : MethodName) (bytes : ByteArray) (maxL : Nat) (d mc ms : Nat) (D : va_G) (b ci : Nat) (fs : List Value) (sz : Nat) (tc : List (ClassId × FieldType)) (ex : State → Prop) (As : List Value) (post : List Value → Prop) : Prop :=
  Met l y (Cond.code y bytes maxL none :: lw_B) (rmD d mc ms) (va_Pc As (fun U => U.heap.size = sz ∧ va_P D vwCl [(b, .inr (ci, fs))] U.heap ∧ va_K D vwCl tc U ∧ ex U)) (va_Qv (fun fs' : List Value => post fs') (fun fs' U => va_P D vwCl [(b, .inr (ci, fs'))] U.heap) (aO b sz)) mc ms (aO b sz)
/-- methods of several cells of which only the answer is told -/
abbrev mFi (l : Launch) (y : MethodName) (bytes : ByteArray) (maxL : Nat) (d mc ms : Nat) (D : va_G) (wc : va_W) (sz : Nat) (tc : List (ClassId × FieldType)) (ex : State → Prop) (As : List Value) (post : Int32 → Prop) : Prop :=
  Met l y (Cond.code y bytes maxL (some .int) :: lw_B) (rmD d mc ms) (va_Pc As (fun U => U.heap.size = sz ∧ va_P D vwCl wc U.heap ∧ va_K D vwCl tc U ∧ va_D (fun _ => True) wc ∧ ex U)) (va_Qi (fun r (_ : Unit) => post r) (fun _ _ => True) (va_A wc sz)) mc ms (va_A wc sz)
/-- what is passed down of the tables beside the words: blind of the frame, and it stays -/
def exOk (s : State) (ex : State → Prop) : Prop := (∀ (a : Array Value) (U : State) (g : JFrame) (mk : MethodId), ex U → ex (U.calling g mk a)) ∧ ∀ U : State, s.WarmedH U.vm → ex U
theorem exT {s : State} : exOk s (fun _ => True) := ⟨fun _ _ _ _ _ => trivial, fun _ _ => trivial⟩
section KO
variable {p : Program} {l : Launch} {e : Env} {R : Room} {s : State} {m : MethodId} {args : Array Value} {below : List Frame} {meth : Method} {c : Code} {H : Heap} {locs : List Loc} {cells slots : Nat} {Q : State → Prop}
variable {A0 : Nat → Prop} {H0 : Heap} {D : va_G} {ws : va_W} {pc : Nat} {ls : Array Slot} {st0 rest : List Value} {y : MethodName} {bytes cc : ByteArray} {maxL nL index d n mc ms : Nat} {own : String} {As : List Value}
theorem k_set {b q0 ci : Nat} {fs fs' : List Value} {H1 : Heap} (he : ws[q0]? = some (b, .inr (ci, fs))) (hP : va_P D vwCl ws H) (hD : va_D A0 ws) (hB : va_P D vwCl [(b, .inr (ci, fs'))] H1) (hk : ∀ q : Nat, q < H.size → ¬ aO b H.size q → H1[q]? = H[q]?) : va_P D vwCl (ws.set q0 (b, .inr (ci, fs'))) H1 := by
  have hl := (List.getElem?_eq_some_iff.mp he).1
  intro k q hkq
  by_cases hkp : k = q0
  · subst hkp
    rw [List.getElem?_set_self hl] at hkq
    cases hkq
    exact hB 0 _ rfl
  · rw [List.getElem?_set_ne (Ne.symm hkp)] at hkq
    have hlt := (hP k q hkq).lt
    exact (hP k q hkq).kept (hk q.1 hlt (fun h => h.elim (fun h => hkp (hD.1 k q0 q _ hkq he h)) (fun h => by omega)))
theorem k_Oc {b q0 ci : Nat} {fs : List Value} {post : List Value → Prop} {a : Array Value} (he : ws[q0]? = some (b, .inr (ci, fs))) (hP : va_P D vwCl ws H) (hD : va_D A0 ws) (hS : va_S A0 H0 H locs) (hA : ∀ q, H0.size ≤ q → A0 q)
    (hr : va_Run p l e R s m args below meth c H locs cells slots mc ms (F0 m pc ls st0) rest (va_Qv (fun fs' : List Value => post fs') (fun fs' U => va_P D vwCl [(b, .inr (ci, fs'))] U.heap) (aO b H.size) a) (aO b H.size))
    (kk : ∀ (fs' : List Value) (H1 : Heap) (locs1 : List Loc), post fs' → va_P D vwCl (ws.set q0 (b, .inr (ci, fs'))) H1 → va_D A0 (ws.set q0 (b, .inr (ci, fs'))) → va_S A0 H0 H1 locs1 → W p l e R s m args below meth c H1 locs1 (cells + mc) (slots + ms) Q (F0 m (pc + 3) ls rest)) : W p l e R s m args below meth c H locs cells slots Q (F0 m pc ls st0) := by
  have hF : ∀ q, aO b H.size q → A0 q := fun q h => h.elim (fun h => by rw [h]; exact hD.2 q0 _ he) (fun h => hA q (Nat.le_trans hS.1 h))
  refine va_callv hr hS (fun q _ h => hF q h) hF (fun fs' t H1 locs1 ht _ hp hB _ hk hS1 => ?_)
  rw [ht] at hB
  exact kk fs' H1 locs1 hp (k_set he hP hD hB hk) (hD.set he) hS1
/-- a call of a void method of one object -/
theorem k_Ov {b q0 ci : Nat} {fs : List Value} {q : vw_C} {tc : List (ClassId × FieldType)} {ex : State → Prop} {post : List Value → Prop} (S : CallFix p m c cc nL s args lw_B own) (hM : mOv l y bytes maxL d mc ms D b ci fs H.size tc ex (.ref b :: As) post) (n : Nat) (w1 : Cond.methodLink own index y ∈ lw_B) (w2 : Cond.instanceMethod y ∈ lw_B) (w3 : Cond.selects q.1 y y ∈ lw_B) (w4 : Cond.initialized q.1 ∈ lw_B) (w5 : Cond.code y bytes maxL none ∈ lw_B)
    (hd : y.cls = q.1 ∧ y.cls ≠ "java/lang/invoke/MethodHandle" ∧ y.cls ≠ "java/lang/invoke/VarHandle" ∧ (parseMethodDescriptor y.desc).map (fun d => d.parameters.length) = some n) (hR : d + 1 ≤ R.frames ∧ 8 + (maxL + 11) + 40 * d ≤ R.locals)
    (hKc : va_K D vwCl tc s) (hex : exOk s ex) (hc : vwCl[ci]? = some q) (he : ws[q0]? = some (b, .inr (ci, fs)))
    (hn : As.length = n) (hls : ls.size = nL) (hst : st0 = As.reverse ++ .ref b :: rest) (hW : (rest.map fun v => v.category).sum ≤ 8) (hdg : decode cc pc = .ok (.invokevirtual index, 3)) (hf : cells + mc ≤ R.cells ∧ slots + ms ≤ R.slots)
    (hP : va_P D vwCl ws H) (hD : va_D A0 ws) (hS : va_S A0 H0 H locs) (hA : ∀ q, H0.size ≤ q → A0 q)
    (kk : ∀ (fs' : List Value) (H1 : Heap) (locs1 : List Loc), post fs' → va_P D vwCl (ws.set q0 (b, .inr (ci, fs'))) H1 → va_D A0 (ws.set q0 (b, .inr (ci, fs'))) → va_S A0 H0 H1 locs1 → W p l e R s m args below meth c H1 locs1 (cells + mc) (slots + ms) Q (F0 m (pc + 3) ls rest)) : W p l e R s m args below meth c H locs cells slots Q (F0 m pc ls st0) := by
  have hPc : va_P D vwCl [(b, .inr (ci, fs))] H := fun k q hk => by
    have h0 : k < 1 := (List.getElem?_eq_some_iff.mp hk).1
    rw [show k = 0 by omega] at hk
    cases hk
    exact hP q0 _ he
  exact k_Oc he hP hD hS hA (va_runV (As := As) (rest := rest) S hM (cwV n S.2.2.2.2 (lb_V w1 w2 w3 w4 w5) rfl rfl rfl hd hR) ⟨fun a U g mk q => ⟨q.1, q.2.1, q.2.2.1, va_K.moved (u := U) (U := U.calling g mk a) (Vm.Alike.refl U.vm) q.2.2.2.1, hex.1 a U g mk q.2.2.2.2⟩, va_recv hKc hPc hc (q0 := 0) rfl, fun U hU hW => ⟨rfl, by rw [hU], by rw [hU]; exact hPc, va_K.moved hW.alike hKc, hex.2 U hW⟩⟩ rfl hn hls hst (lv_room hW) hdg hf) kk
/-- a call of a constructor -/
theorem k_OI {b q0 ci : Nat} {fs : List Value} {tc : List (ClassId × FieldType)} {ex : State → Prop} {post : List Value → Prop} (S : CallFix p m c cc nL s args lw_B own) (hM : mOv l y bytes maxL d mc ms D b ci fs H.size tc ex (.ref b :: As) post) (n : Nat) (w1 : Cond.methodLink own index y ∈ lw_B) (w2 : Cond.instanceMethod y ∈ lw_B) (w4 : Cond.initialized y.cls ∈ lw_B) (w5 : Cond.code y bytes maxL none ∈ lw_B) (hy : y.name = "<init>")
    (hd : y.cls ≠ "java/lang/invoke/MethodHandle" ∧ y.cls ≠ "java/lang/invoke/VarHandle" ∧ (parseMethodDescriptor y.desc).map (fun d => d.parameters.length) = some n) (hR : d + 1 ≤ R.frames ∧ 8 + (maxL + 11) + 40 * d ≤ R.locals)
    (hKc : va_K D vwCl tc s) (hex : exOk s ex) (he : ws[q0]? = some (b, .inr (ci, fs)))
    (hn : As.length = n) (hls : ls.size = nL) (hst : st0 = As.reverse ++ .ref b :: rest) (hW : (rest.map fun v => v.category).sum ≤ 8) (hdg : decode cc pc = .ok (.invokespecial index, 3)) (hf : cells + mc ≤ R.cells ∧ slots + ms ≤ R.slots)
    (hP : va_P D vwCl ws H) (hD : va_D A0 ws) (hS : va_S A0 H0 H locs) (hA : ∀ q, H0.size ≤ q → A0 q)
    (kk : ∀ (fs' : List Value) (H1 : Heap) (locs1 : List Loc), post fs' → va_P D vwCl (ws.set q0 (b, .inr (ci, fs'))) H1 → va_D A0 (ws.set q0 (b, .inr (ci, fs'))) → va_S A0 H0 H1 locs1 → W p l e R s m args below meth c H1 locs1 (cells + mc) (slots + ms) Q (F0 m (pc + 3) ls rest)) : W p l e R s m args below meth c H locs cells slots Q (F0 m pc ls st0) := by
  have hPc : va_P D vwCl [(b, .inr (ci, fs))] H := fun k q hk => by
    have h0 : k < 1 := (List.getElem?_eq_some_iff.mp hk).1
    rw [show k = 0 by omega] at hk
    cases hk
    exact hP q0 _ he
  have ht := S.2.2.2.2
  exact k_Oc he hP hD hS hA (va_runI (As := As) (rest := rest) S hM (cwI n ht (lb_GI (lb_c w5)) rfl rfl rfl (ht _ w4) (ht _ w1) (ht _ w2) hy hd hR) ⟨fun a U g mk q => ⟨q.1, q.2.1, q.2.2.1, va_K.moved (u := U) (U := U.calling g mk a) (Vm.Alike.refl U.vm) q.2.2.2.1, hex.1 a U g mk q.2.2.2.2⟩, fun U hU hW => ⟨rfl, by rw [hU], by rw [hU]; exact hPc, va_K.moved hW.alike hKc, hex.2 U hW⟩⟩ rfl hn hls hst (lv_room hW) hdg hf) kk
/-- a call of a nest mate's private constructor -/
theorem k_OIN {host : String} {b q0 ci : Nat} {fs : List Value} {tc : List (ClassId × FieldType)} {ex : State → Prop} {post : List Value → Prop} (S : CallFix p m c cc nL s args lw_B own) (hM : mOv l y bytes maxL d mc ms D b ci fs H.size tc ex (.ref b :: As) post) (n : Nat) (w1 : va_Nw (.methodLinkNest own index y host) s) (w2 : Cond.instanceMethod y ∈ lw_B) (w4 : Cond.initialized y.cls ∈ lw_B) (w5 : Cond.code y bytes maxL none ∈ lw_B) (hy : y.name = "<init>")
    (hd : y.cls ≠ "java/lang/invoke/MethodHandle" ∧ y.cls ≠ "java/lang/invoke/VarHandle" ∧ (parseMethodDescriptor y.desc).map (fun d => d.parameters.length) = some n) (hR : d + 1 ≤ R.frames ∧ 8 + (maxL + 11) + 40 * d ≤ R.locals)
    (hKc : va_K D vwCl tc s) (hex : exOk s ex) (he : ws[q0]? = some (b, .inr (ci, fs)))
    (hn : As.length = n) (hls : ls.size = nL) (hst : st0 = As.reverse ++ .ref b :: rest) (hW : (rest.map fun v => v.category).sum ≤ 8) (hdg : decode cc pc = .ok (.invokespecial index, 3)) (hf : cells + mc ≤ R.cells ∧ slots + ms ≤ R.slots)
    (hP : va_P D vwCl ws H) (hD : va_D A0 ws) (hS : va_S A0 H0 H locs) (hA : ∀ q, H0.size ≤ q → A0 q)
    (kk : ∀ (fs' : List Value) (H1 : Heap) (locs1 : List Loc), post fs' → va_P D vwCl (ws.set q0 (b, .inr (ci, fs'))) H1 → va_D A0 (ws.set q0 (b, .inr (ci, fs'))) → va_S A0 H0 H1 locs1 → W p l e R s m args below meth c H1 locs1 (cells + mc) (slots + ms) Q (F0 m (pc + 3) ls rest)) : W p l e R s m args below meth c H locs cells slots Q (F0 m pc ls st0) := by
  have hPc : va_P D vwCl [(b, .inr (ci, fs))] H := fun k q hk => by
    have h0 : k < 1 := (List.getElem?_eq_some_iff.mp hk).1
    rw [show k = 0 by omega] at hk
    cases hk
    exact hP q0 _ he
  have ht := S.2.2.2.2
  exact k_Oc he hP hD hS hA (va_runIN (As := As) (rest := rest) S hM ⟨va_cnB n ht (lb_GI (lb_c w5)) rfl rfl rfl w1 (ht _ w4) hd hR, hy, ht _ w2⟩ ⟨fun a U g mk q => ⟨q.1, q.2.1, q.2.2.1, va_K.moved (u := U) (U := U.calling g mk a) (Vm.Alike.refl U.vm) q.2.2.2.1, hex.1 a U g mk q.2.2.2.2⟩, fun U hU hW => ⟨rfl, by rw [hU], by rw [hU]; exact hPc, va_K.moved hW.alike hKc, hex.2 U hW⟩⟩ rfl hn hls hst (lv_room hW) hdg hf) kk
/-- a call of a void method that changes nothing -/
theorem k_Vv {wc : va_W} {tc : List (ClassId × FieldType)} {cl : List vw_C} {b ci q0 : Nat} {fs : List Value} {q : vw_C} (S : CallFix p m c cc nL s args lw_B own) (hM : mVv l y bytes maxL d D wc tc (.ref b :: As)) (n : Nat) (w1 : Cond.methodLink own index y ∈ lw_B) (w2 : Cond.instanceMethod y ∈ lw_B) (w3 : Cond.selects q.1 y y ∈ lw_B) (w4 : Cond.initialized q.1 ∈ lw_B) (w5 : Cond.code y bytes maxL none ∈ lw_B)
    (hd : y.cls = q.1 ∧ y.cls ≠ "java/lang/invoke/MethodHandle" ∧ y.cls ≠ "java/lang/invoke/VarHandle" ∧ (parseMethodDescriptor y.desc).map (fun d => d.parameters.length) = some n) (hR : d + 1 ≤ R.frames ∧ 8 + (maxL + 11) + 40 * d ≤ R.locals)
    (hPc : va_P D vwCl wc H) (hKc : va_K D vwCl tc s) (hc : vwCl[ci]? = some q) (he : wc[q0]? = some (b, .inr (ci, fs)))
    (hn : As.length = n) (hls : ls.size = nL) (hst : st0 = As.reverse ++ .ref b :: rest) (hW : (rest.map fun v => v.category).sum ≤ 8) (hdg : decode cc pc = .ok (.invokevirtual index, 3)) (hf : cells + 0 ≤ R.cells ∧ slots + 0 ≤ R.slots)
    (hS : va_S A0 H0 H locs) (hP : va_P D cl ws H)
    (kk : ∀ (H1 : Heap) (locs1 : List Loc), va_P D cl ws H1 → va_S A0 H0 H1 locs1 → W p l e R s m args below meth c H1 locs1 cells slots Q (F0 m (pc + 3) ls rest)) : W p l e R s m args below meth c H locs cells slots Q (F0 m pc ls st0) :=
  va_callv (va_runV (As := As) (rest := rest) S hM (cwV n S.2.2.2.2 (lb_V w1 w2 w3 w4 w5) rfl rfl rfl hd hR) ⟨fun a U g mk q => ⟨q.1, q.2.1, va_K.moved (u := U) (U := U.calling g mk a) (Vm.Alike.refl U.vm) q.2.2⟩, va_recv hKc hPc hc he, fun U hU hW => ⟨rfl, by rw [hU]; exact hPc, va_K.moved hW.alike hKc⟩⟩ rfl hn hls hst (lv_room hW) hdg hf) hS (fun _ _ h => h.elim) (fun _ h => h.elim) (fun _ _ H1 locs1 _ _ _ _ _ hk hS1 => kk H1 locs1 (hP.kept fun k q hq => hk q.1 (hP k q hq).lt id) hS1)
/-- a call of which only the answer is told; the cells wr are kept -/
theorem k_Fi {wc wr : va_W} {tc : List (ClassId × FieldType)} {ex : State → Prop} {b ci q0 : Nat} {fs : List Value} {q : vw_C} {post : Int32 → Prop} (S : CallFix p m c cc nL s args lw_B own) (hM : mFi l y bytes maxL d mc ms D wc H.size tc ex (.ref b :: As) post) (n : Nat) (w1 : Cond.methodLink own index y ∈ lw_B) (w2 : Cond.instanceMethod y ∈ lw_B) (w3 : Cond.selects q.1 y y ∈ lw_B) (w4 : Cond.initialized q.1 ∈ lw_B) (w5 : Cond.code y bytes maxL (some .int) ∈ lw_B)
    (hd : y.cls = q.1 ∧ y.cls ≠ "java/lang/invoke/MethodHandle" ∧ y.cls ≠ "java/lang/invoke/VarHandle" ∧ (parseMethodDescriptor y.desc).map (fun d => d.parameters.length) = some n) (hR : d + 1 ≤ R.frames ∧ 8 + (maxL + 11) + 40 * d ≤ R.locals)
    (hKc : va_K D vwCl tc s) (hex : exOk s ex) (hc : vwCl[ci]? = some q) (he : wc[q0]? = some (b, .inr (ci, fs))) (isC isR : List Nat) (hn0 : va_nd isC = true) (hC : isC.map (fun i => ws[i]?) = wc.map some) (hRr : isR.map (fun i => ws[i]?) = wr.map some) (hn1 : va_nd isR = true) (hdis : ∀ i ∈ isR, i ∉ isC)
    (hn : As.length = n) (hls : ls.size = nL) (hst : st0 = As.reverse ++ .ref b :: rest) (hW : (rest.map fun v => v.category).sum ≤ 8) (hdg : decode cc pc = .ok (.invokevirtual index, 3)) (hf : cells + mc ≤ R.cells ∧ slots + ms ≤ R.slots)
    (hP : va_P D vwCl ws H) (hD : va_D A0 ws) (hS : va_S A0 H0 H locs) (hA : ∀ q, H0.size ≤ q → A0 q)
    (kk : ∀ (r : Int32) (H1 : Heap) (locs1 : List Loc), post r → va_P D vwCl wr H1 → va_D A0 wr → va_S A0 H0 H1 locs1 → W p l e R s m args below meth c H1 locs1 (cells + mc) (slots + ms) Q (F0 m (pc + 3) ls (.int r :: rest))) : W p l e R s m args below meth c H locs cells slots Q (F0 m pc ls st0) := by
  have hDc : va_D A0 wc := hD.sub isC hn0 hC
  have hPc : va_P D vwCl wc H := fun k q hk => by
    have h1 : (isC.map (fun i => ws[i]?))[k]? = some (some q) := by rw [hC, List.getElem?_map, hk]; rfl
    rw [List.getElem?_map] at h1
    cases hi : isC[k]? with
    | none => rw [hi] at h1; cases h1
    | some i => rw [hi] at h1; exact hP i q (Option.some.inj h1)
  have hF := va_free (wc := wc) hD hS hA isC hC
  refine va_calli (va_runV (As := As) (rest := rest) S hM (cwV n S.2.2.2.2 (lb_V w1 w2 w3 w4 w5) rfl rfl rfl hd hR) ⟨fun a U g mk q => ⟨q.1, q.2.1, q.2.2.1, va_K.moved (u := U) (U := U.calling g mk a) (Vm.Alike.refl U.vm) q.2.2.2.1, q.2.2.2.2.1, hex.1 a U g mk q.2.2.2.2.2⟩, va_recv hKc hPc hc he, fun U hU hW => ⟨rfl, by rw [hU], by rw [hU]; exact hPc, va_K.moved hW.alike hKc, hDc.weaken (fun _ _ _ _ => trivial), hex.2 U hW⟩⟩ rfl hn hls hst (lv_room hW) hdg hf) hS (fun q _ h => hF q h) hF (fun r _ t H1 locs1 ht _ hp _ _ hk hS1 => ?_)
  obtain ⟨h1, h2⟩ := va_join (w1 := []) hP hD isC isR hC hRr hn1 hdis hk hF (fun k q h => by simp at h) ⟨fun i j p q h => by simp at h, fun k q h => by simp at h⟩
  rw [List.append_nil] at h1 h2
  exact kk r H1 locs1 hp h1 h2 hS1
/-- a loop whose rounds make nothing new: n rounds are left -/
theorem k_loop (I : Nat → Heap → List Loc → Array Slot → Prop)
    (base : ∀ (H : Heap) (locs : List Loc) (ls : Array Slot), I 0 H locs ls → W p l e R s m args below meth c H locs cells slots Q (F0 m pc ls []))
    (step : ∀ (n : Nat) (H : Heap) (locs : List Loc) (ls : Array Slot), I (n + 1) H locs ls → (∀ (H1 : Heap) (locs1 : List Loc) (ls1 : Array Slot), I n H1 locs1 ls1 → W p l e R s m args below meth c H1 locs1 cells slots Q (F0 m pc ls1 [])) → W p l e R s m args below meth c H locs cells slots Q (F0 m pc ls [])) :
    ∀ (n : Nat) (H : Heap) (locs : List Loc) (ls : Array Slot), I n H locs ls → W p l e R s m args below meth c H locs cells slots Q (F0 m pc ls []) := by
  intro n
  induction n with
  | zero => exact base
  | succ n ih => exact fun H locs ls h => step n H locs ls h ih
end KO
theorem k_r100 {x : Int32} (h : 1 ≤ x ∧ x ≤ 100) : ∃ N : Nat, 1 ≤ N ∧ N ≤ 100 ∧ x = nI N := by
  obtain ⟨j, hj, rfl⟩ := nI_of2 (M := 100) (n := 100) rfl (by have h1 := h.1; simp only [Int32.lt_iff_toInt_lt, Int32.le_iff_toInt_le, Int32.reduceToInt] at h1 ⊢; omega) h.2
  exact ⟨j, (nI_leI (a := 1) (b := j) (by decide) (by omega)).mp h.1, hj, rfl⟩
section KL
variable {p : Program} {l : Launch} {e : Env} {R : Room} {s : State} {m : MethodId} {args : Array Value} {below : List Frame} {meth : Method} {c : Code} {cells slots : Nat} {Q : State → Prop} {pc pcx : Nat}
/-- a loop with a measure n and a way out at pcx -/
theorem k_lx (I : Nat → Heap → List Loc → Array Slot → Prop) (E : Heap → List Loc → Array Slot → Prop)
    (exit : ∀ (H : Heap) (locs : List Loc) (ls : Array Slot), E H locs ls → W p l e R s m args below meth c H locs cells slots Q (F0 m pcx ls []))
    (step : ∀ (n : Nat) (H : Heap) (locs : List Loc) (ls : Array Slot), I n H locs ls → (∀ (H1 : Heap) (locs1 : List Loc) (ls1 : Array Slot), E H1 locs1 ls1 → W p l e R s m args below meth c H1 locs1 cells slots Q (F0 m pcx ls1 [])) → (∀ (k : Nat), k < n → ∀ (H1 : Heap) (locs1 : List Loc) (ls1 : Array Slot), I k H1 locs1 ls1 → W p l e R s m args below meth c H1 locs1 cells slots Q (F0 m pc ls1 [])) → W p l e R s m args below meth c H locs cells slots Q (F0 m pc ls [])) :
    ∀ (n : Nat) (H : Heap) (locs : List Loc) (ls : Array Slot), I n H locs ls → W p l e R s m args below meth c H locs cells slots Q (F0 m pc ls []) := by
  intro n
  induction n using Nat.strongRecOn with
  | ind n ih => exact fun H locs ls h => step n H locs ls h exit ih
end KL
theorem exNw {s : State} {a : String} {i : Nat} {y : MethodName} {h : String} (hw : va_Nw (.methodLinkNest a i y h) s) : exOk s (va_Nw (.methodLinkNest a i y h)) := ⟨fun _ U _ _ q => va_Nw.same rfl (u := U) rfl q, fun _ hW => va_Nw.warmM hW hw⟩
section KVL
variable {p : Program} {l : Launch} {e : Env} {R : Room} {s : State} {m : MethodId} {args : Array Value} {below : List Frame} {meth : Method} {c : Code} {H : Heap} {locs : List Loc} {cells slots : Nat} {Q : State → Prop}
variable {A0 : Nat → Prop} {H0 : Heap} {D : va_G} {cl : List vw_C} {ws : va_W} {pc : Nat} {ls : Array Slot} {st0 rest : List Value} {y : MethodName} {bytes cc : ByteArray} {maxL nL index d n : Nat} {ret : FieldType} {own : String} {As : List Value} {post : Int64 → Prop}
/-- a call of a method of an object that changes nothing and answers a long -/
theorem k_Vl {wc : va_W} {tc : List (ClassId × FieldType)} {b ci q0 : Nat} {fs : List Value} {q : vw_C} (S : CallFix p m c cc nL s args lw_B own) (hM : mVl l y bytes maxL ret d D wc tc (.ref b :: As) post) (n : Nat) (w1 : Cond.methodLink own index y ∈ lw_B) (w2 : Cond.instanceMethod y ∈ lw_B) (w3 : Cond.selects q.1 y y ∈ lw_B) (w4 : Cond.initialized q.1 ∈ lw_B) (w5 : Cond.code y bytes maxL (some ret) ∈ lw_B)
    (hd : y.cls = q.1 ∧ y.cls ≠ "java/lang/invoke/MethodHandle" ∧ y.cls ≠ "java/lang/invoke/VarHandle" ∧ (parseMethodDescriptor y.desc).map (fun d => d.parameters.length) = some n) (hR : d + 1 ≤ R.frames ∧ 8 + (maxL + 11) + 40 * d ≤ R.locals)
    (hPc : va_P D vwCl wc H) (hKc : va_K D vwCl tc s) (hc : vwCl[ci]? = some q) (he : wc[q0]? = some (b, .inr (ci, fs)))
    (hn : As.length = n) (hls : ls.size = nL) (hst : st0 = As.reverse ++ .ref b :: rest) (hW : (rest.map fun v => v.category).sum ≤ 8) (hdg : decode cc pc = .ok (.invokevirtual index, 3)) (hf : cells + 0 ≤ R.cells ∧ slots + 0 ≤ R.slots)
    (hS : va_S A0 H0 H locs) (hP : va_P D cl ws H)
    (kk : ∀ (r : Int64) (H1 : Heap) (locs1 : List Loc), post r → va_P D cl ws H1 → va_S A0 H0 H1 locs1 → W p l e R s m args below meth c H1 locs1 cells slots Q (F0 m (pc + 3) ls (.long r :: rest))) : W p l e R s m args below meth c H locs cells slots Q (F0 m pc ls st0) :=
  va_calll (va_runV (As := As) (rest := rest) S hM (cwV n S.2.2.2.2 (lb_V w1 w2 w3 w4 w5) rfl rfl rfl hd hR) ⟨fun a U g mk q => ⟨q.1, q.2.1, va_K.moved (u := U) (U := U.calling g mk a) (Vm.Alike.refl U.vm) q.2.2⟩, va_recv hKc hPc hc he, fun U hU hW => ⟨rfl, by rw [hU]; exact hPc, va_K.moved hW.alike hKc⟩⟩ rfl hn hls hst (lv_room hW) hdg hf) hS (fun _ _ h => h.elim) (fun _ h => h.elim) (fun r _ _ H1 locs1 _ _ hp _ _ hk hS1 => kk r H1 locs1 hp (hP.kept fun k q hq => hk q.1 (hP k q hq).lt id) hS1)
end KVL
theorem lt_1 (i : Nat) {w : Cond} (h : tables_1_1[i]? = some w) : w ∈ lw_tbl := List.mem_append_right _ (List.mem_append_left _ (List.mem_of_getElem? h))
theorem lt_2 (i : Nat) {w : Cond} (h : tables_1_2[i]? = some w) : w ∈ lw_tbl := List.mem_append_right _ (List.mem_append_right _ (List.mem_append_left _ (List.mem_of_getElem? h)))
end
section
/-- how many places these sizes are for (f more at most), k counted already; 0: not as said -/
def plc : Nat → Nat → Nat → Nat
  | 0, k, r => if r = 0 then k else 0
  | f + 1, k, r => if r = 0 then k else if 1 ≤ r % 128 ∧ r % 128 ≤ 100 then plc f (k + 1) (r / 128) else 0
/-- all digits are as said; how many there are -/
def dgA : Nat → Nat → Bool
  | 0, _ => true
  | f + 1, r => if r = 0 then true else decide (1 ≤ r % 128 ∧ r % 128 ≤ 100) && dgA f (r / 128)
def dgN : Nat → Nat → Nat
  | 0, _ => 0
  | f + 1, r => if r = 0 then 0 else 1 + dgN f (r / 128)
theorem dgA_0 (f : Nat) : dgA f 0 = true := by cases f <;> simp [dgA]
theorem dgN_0 (f : Nat) : dgN f 0 = 0 := by cases f <;> simp [dgN]
theorem plc_dg : ∀ (f k r : Nat), plc f k r = if dgA (f + 1) r = true ∧ dgN (f + 1) r ≤ f then k + dgN (f + 1) r else 0
  | 0, k, r => by
    by_cases h : r = 0
    · subst h; simp [plc, dgA, dgN]
    · simp [plc, dgA, dgN, h]
  | f + 1, k, r => by
    by_cases h : r = 0
    · subst h; simp [plc, dgA, dgN]
    · by_cases g : 1 ≤ r % 128 ∧ r % 128 ≤ 100
      · have e1 : plc (f + 1) k r = plc f (k + 1) (r / 128) := by rw [plc, if_neg h, if_pos g]
        have e2 : dgA (f + 1 + 1) r = dgA (f + 1) (r / 128) := by rw [dgA, if_neg h, decide_eq_true g, Bool.true_and]
        have e3 : dgN (f + 1 + 1) r = 1 + dgN (f + 1) (r / 128) := by rw [dgN, if_neg h]
        rw [e1, e2, e3, plc_dg f (k + 1) (r / 128)]
        by_cases q : dgA (f + 1) (r / 128) = true ∧ dgN (f + 1) (r / 128) ≤ f
        · rw [if_pos q, if_pos ⟨q.1, by omega⟩]; omega
        · rw [if_neg q, if_neg (fun z => q ⟨z.1, by omega⟩)]
      · have e1 : plc (f + 1) k r = 0 := by rw [plc, if_neg h, if_neg g]
        have e2 : dgA (f + 1 + 1) r = false := by rw [dgA, if_neg h, decide_eq_false g, Bool.false_and]
        rw [e1, if_neg (fun z => by rw [e2] at z; exact absurd z.1 (by decide))]
theorem plc_le : ∀ (f k r : Nat), plc f k r ≤ k + f
  | 0, k, r => by unfold plc; split <;> omega
  | f + 1, k, r => by
    unfold plc
    split
    · omega
    · split
      · have := plc_le f (k + 1) (r / 128); omega
      · omega
/-- sizes that are as said -/
abbrev pgOk (x : Int32) : Prop := 0 < x ∧ ¬ plc 4 0 x.toNatClampNeg = 0
theorem k_128d {r : Nat} (h : r < 2 ^ 31) : nI r / 128 = nI (r / 128) := pk_div h (by decide) (by decide)
theorem k_128r {r : Nat} (h : r < 2 ^ 31) : nI r - nI r / 128 * 128 = nI (r % 128) := pk_rem h (by decide) (by decide)
theorem k_rg {r lo hi : Nat} (hr : r < 2 ^ 31) (hl : lo < 2 ^ 31) (hh : hi < 2 ^ 31) : (nI lo ≤ nI r ∧ nI r ≤ nI hi) ↔ (lo ≤ r ∧ r ≤ hi) := and_congr (nI_leI hl hr) (nI_leI hr hh)
theorem k_pos {x : Int32} (h : ¬ x ≤ 0) : ∃ X : Nat, X < 2 ^ 31 ∧ 0 < X ∧ x = nI X := by
  obtain ⟨j, hj, rfl⟩ := nI_of (x := x) (by simp only [Int32.lt_iff_toInt_lt, Int32.le_iff_toInt_le, Int32.reduceToInt] at h ⊢; omega)
  refine ⟨j, hj, ?_, rfl⟩
  rcases Nat.eq_zero_or_pos j with q | q
  · subst q; exact absurd (by decide) h
  · exact q
theorem k_pl {x r : Int32} (h : (x ≤ 0 → r = 0) ∧ ∀ X : Nat, X < 2 ^ 31 → x = nI X → r = nI (plc 4 0 X)) : (r = 0 ∧ ¬ pgOk x) ∨ (pgOk x ∧ ∃ k : Nat, 1 ≤ k ∧ k ≤ 4 ∧ r = nI k) := by
  by_cases hn : x ≤ 0
  · exact Or.inl ⟨h.1 hn, fun q => by have q1 := q.1; simp only [Int32.lt_iff_toInt_lt, Int32.le_iff_toInt_le] at hn q1; omega⟩
  · obtain ⟨X, hX, hX0, rfl⟩ := k_pos hn
    have hr := h.2 X hX rfl
    have hle := plc_le 4 0 X
    by_cases hz : plc 4 0 X = 0
    · exact Or.inl ⟨by rw [hr, hz]; rfl, fun q => q.2 (by rw [nI_clamp hX]; exact hz)⟩
    · exact Or.inr ⟨⟨(nI_lt hX0 hX : nI 0 < nI X), by rw [nI_clamp hX]; exact hz⟩, plc 4 0 X, by omega, by omega, hr⟩
theorem k_pg {X : Nat} (hX : X < 2 ^ 31) (h0 : 0 < X) : pgOk (nI X) ↔ (dgA 5 X = true ∧ dgN 5 X ≤ 4) := by
  have e : plc 4 0 X = if dgA 5 X = true ∧ dgN 5 X ≤ 4 then 0 + dgN 5 X else 0 := plc_dg 4 0 X
  have hn : 1 ≤ dgN 5 X := by rw [dgN, if_neg (by omega)]; omega
  unfold pgOk
  rw [nI_clamp hX, e]
  constructor
  · intro q
    by_cases g : dgA 5 X = true ∧ dgN 5 X ≤ 4
    · exact g
    · exact absurd (if_neg g) q.2
  · intro g
    exact ⟨(nI_lt h0 hX : nI 0 < nI X), by rw [if_pos g]; omega⟩
theorem k_cp1 (x : Int32) : (x = 0 ∨ x = 1 ∨ x = 10 ∨ x = 20) ↔ (¬ x < 0 ∧ (0 ≤ x / 10 ∧ x / 10 ≤ 2) ∧ ((x / 10 = 0 ∧ 0 ≤ x - x / 10 * 10 ∧ x - x / 10 * 10 ≤ 1) ∨ (¬ x / 10 = 0 ∧ 0 ≤ x - x / 10 * 10 ∧ x - x / 10 * 10 ≤ 0))) := by
  by_cases hn : x < 0
  · constructor
    · rintro (h | h | h | h) <;> subst h <;> exact absurd hn (by decide)
    · exact fun h => absurd hn h.1
  · obtain ⟨X, hX, rfl⟩ := nI_of hn
    have e1 : nI X / 10 = nI (X / 10) := pk_div hX (by decide) (by decide)
    have e2 : nI X - nI X / 10 * 10 = nI (X % 10) := pk_rem hX (by decide) (by decide)
    have i0 : ∀ {a b : Nat}, a < 2 ^ 31 → b < 2 ^ 31 → (nI a = nI b ↔ a = b) := fun h1 h2 => nI_eq h1 h2
    have il : ∀ {a b : Nat}, a < 2 ^ 31 → b < 2 ^ 31 → (nI a ≤ nI b ↔ a ≤ b) := fun h1 h2 => nI_leI h1 h2
    rw [e2, e1]
    have q0 : (nI X = 0 ↔ X = 0) := i0 hX (by decide)
    have q1 : (nI X = 1 ↔ X = 1) := i0 hX (by decide)
    have q10 : (nI X = 10 ↔ X = 10) := i0 hX (by decide)
    have q20 : (nI X = 20 ↔ X = 20) := i0 hX (by decide)
    have d0 : (nI (X / 10) = 0 ↔ X / 10 = 0) := i0 (by omega) (by decide)
    have d1 : (0 ≤ nI (X / 10) ↔ 0 ≤ X / 10) := il (by decide) (by omega)
    have d2 : (nI (X / 10) ≤ 2 ↔ X / 10 ≤ 2) := il (by omega) (by decide)
    have r0 : (0 ≤ nI (X % 10) ↔ 0 ≤ X % 10) := il (by decide) (by omega)
    have r1 : (nI (X % 10) ≤ 1 ↔ X % 10 ≤ 1) := il (by omega) (by decide)
    have r2 : (nI (X % 10) ≤ 0 ↔ X % 10 ≤ 0) := il (by omega) (by decide)
    rw [q0, q1, q10, q20, d0, d1, d2, r0, r1, r2]
    have hn' : ¬ nI X < 0 := hn
    constructor
    · intro h; refine ⟨hn', ?_⟩; omega
    · intro h; have := h.2; omega
theorem k_cp2 (y : Int32) : (0 ≤ y ∧ y / 4096 ≤ 4095) ↔ (0 ≤ y ∧ y ≤ 16777215) := by
  by_cases hn : y < 0
  · constructor
    · intro h; have := h.1; simp only [Int32.lt_iff_toInt_lt, Int32.le_iff_toInt_le] at hn this; omega
    · intro h; have := h.1; simp only [Int32.lt_iff_toInt_lt, Int32.le_iff_toInt_le] at hn this; omega
  · obtain ⟨Y, hY, rfl⟩ := nI_of hn
    have e1 : nI Y / 4096 = nI (Y / 4096) := pk_div hY (by decide) (by decide)
    have d1 : (nI (Y / 4096) ≤ 4095 ↔ Y / 4096 ≤ 4095) := nI_leI (by omega) (by decide)
    have d2 : (nI Y ≤ 16777215 ↔ Y ≤ 16777215) := nI_leI hY (by decide)
    rw [e1, d1, d2]
    constructor
    · intro h; exact ⟨h.1, by have := h.2; omega⟩
    · intro h; exact ⟨h.1, by have := h.2; omega⟩
/-- a campaign's numbers that are as said -/
abbrev cpOk (x y z : Int32) : Prop := (x = 0 ∨ x = 1 ∨ x = 10 ∨ x = 20) ∧ (0 ≤ y ∧ y / 4096 ≤ 4095 ∧ (y / 4096 &&& (y - y / 4096 * 4096)) = 0) ∧ ((x / 10 = 2 ∧ z = 0) ∨ (¬ x / 10 = 2 ∧ 1 ≤ z ∧ z ≤ 1000))
end
section
/-! THE HEAP AS A MAP: the cells at the addresses L hold what f says. One world for all; a store is va_up f, a new cell goes to L -/
/-- the array classes: int, long, boolean, Page, Campaign, Sale, long[], int[] -/
abbrev tyK (K : Nat → ClassId) : List (ClassId × FieldType) := [(K 0, .int), (K 1, .long), (K 2, .boolean), (K 3, .object RX2), (K 4, .object RX0), (K 5, .object RX3), (K 6, .array .long), (K 7, .array .int)]
theorem g_mem {L : List Nat} {f : Nat → va_E} {k : Nat} {q : Nat × va_E} (h : (va_pl L f)[k]? = some q) : L[k]? = some q.1 ∧ q.2 = f q.1 := by
  unfold va_pl at h
  rw [List.getElem?_map] at h
  cases hk : L[k]? with
  | none => rw [hk] at h; cases h
  | some a => rw [hk] at h; cases h; exact ⟨rfl, rfl⟩
/-- no address twice -/
def gN (L : List Nat) : Prop := ∀ i j a : Nat, L[i]? = some a → L[j]? = some a → i = j
theorem g_D {A : Nat → Prop} {L : List Nat} (hn : gN L) (hA : ∀ a ∈ L, A a) (f : Nat → va_E) : va_D A (va_pl L f) :=
  ⟨fun i j x y hi hj hxy => hn i j y.1 (by rw [← hxy]; exact (g_mem hi).1) (g_mem hj).1, fun k q hk => hA _ (List.mem_of_getElem? (g_mem hk).1)⟩
theorem g_at {L : List Nat} {f : Nat → va_E} {a : Nat} (h : a ∈ L) {e : va_E} (he : f a = e) : ∃ k : Nat, (va_pl L f)[k]? = some (a, e) := by
  obtain ⟨k, hk⟩ := va_pl_get (X := []) (f := f) h
  rw [List.nil_append, he] at hk
  exact ⟨k, hk⟩
theorem g_set {A : Nat → Prop} {L : List Nat} {f : Nat → va_E} {a k : Nat} {e e' : va_E} (hD : va_D A (va_pl L f)) (h : a ∈ L) (he : f a = e) (hk : (va_pl L f)[k]? = some (a, e)) : (va_pl L f).set k (a, e') = va_pl L (va_up f a e') := by
  have := va_pl_set (X := []) (e := e') (A := A) (by rw [List.nil_append]; exact hD) h (by rw [List.nil_append, he]; exact hk)
  rw [List.nil_append, List.nil_append] at this
  exact this
section GK
variable {p : Program} {l : Launch} {e : Env} {R : Room} {s : State} {m : MethodId} {args : Array Value} {below : List Frame} {meth : Method} {c : Code} {H : Heap} {locs : List Loc} {cells slots : Nat} {Q : State → Prop}
variable {cc : ByteArray} {pc : Nat} {ls : Array Slot} {rest : List Value} {D : va_G} {A : Nat → Prop} {a : Nat} {K : Nat → ClassId} {L : List Nat} {f : Nat → va_E} {H0 : Heap}
theorem g_get (hexec : p.tables.exec = Jvm.exec) (hb : c.code = cc) {own C : String} {T : u_T} {N ci index : Nat} (hts : ∀ w ∈ lw_B, w.before args s = true) (hin : ∀ w ∈ u_ws C T N, w ∈ lw_B) (hown : s.vm.findClass own = some m.cls) (hK : va_K D vwCl (tyK K) s) (hP : va_P D vwCl (va_pl L f) H) (ha : a ∈ L) {fs : List Value} (he : f a = .inr (ci, fs)) (hc : vwCl[ci]? = some (C, T, N)) (k : Nat) (hk : k < N) (hlink : Cond.fieldLink own index (T k).1 (T k).2.1 (T k).2.2.1 ∈ lw_B) {v : Value} (hv : fs[k]? = some v) (hdg : decode cc pc = .ok (.getfield index, 3))
    (kk : W p l e R s m args below meth c H locs cells slots Q (F0 m (pc + 3) ls (v :: rest))) : W p l e R s m args below meth c H locs cells slots Q (F0 m pc ls (.ref a :: rest)) := by
  obtain ⟨q0, hq⟩ := g_at ha he
  exact va_get hexec hb hts hin hown hK hP q0 hq hc k hk (hts _ hlink) (fun _ h9 => h9) hv hdg kk
theorem g_put (hexec : p.tables.exec = Jvm.exec) (hb : c.code = cc) {own C : String} {T : u_T} {N ci index : Nat} (hts : ∀ w ∈ lw_B, w.before args s = true) (hin : ∀ w ∈ u_ws C T N, w ∈ lw_B) (ty0 : Nat → FieldType) (hty : ∀ k, k < N → parseFieldDescriptor (T k).2.2.1 = some (ty0 k)) (hnm : ∀ a, a < N → ∀ b, b < N → a ≠ b → (T a).2.1 ≠ (T b).2.1) (hown : s.vm.findClass own = some m.cls) (hK : va_K D vwCl (tyK K) s) (hP : va_P D vwCl (va_pl L f) H) (hD : va_D A (va_pl L f)) (hS : va_S A H0 H locs) (ha : a ∈ L) {fs : List Value} (he : f a = .inr (ci, fs)) (hc : vwCl[ci]? = some (C, T, N)) (k : Nat) (hk : k < N) (hlink : Cond.fieldLink own index (T k).1 (T k).2.1 (T k).2.2.1 ∈ lw_B) (hfin : (T k).2.2.2 = false) {ty : FieldType} {v : Value} (hd : parseFieldDescriptor (T k).2.2.1 = some ty) (hn : narrow ty v = v) (hfit : fits ty v = true) (hl : k < fs.length)
    (hdg : decode cc pc = .ok (.putfield index, 3)) (kk : ∀ (H1 : Heap) (locs1 : List Loc), va_P D vwCl (va_pl L (va_up f a (.inr (ci, fs.set k v)))) H1 → va_D A (va_pl L (va_up f a (.inr (ci, fs.set k v)))) → va_S A H0 H1 locs1 → W p l e R s m args below meth c H1 locs1 cells slots Q (F0 m (pc + 3) ls rest)) : W p l e R s m args below meth c H locs cells slots Q (F0 m pc ls (v :: .ref a :: rest)) := by
  obtain ⟨q0, hq⟩ := g_at ha he
  refine va_put hexec hb hts hin ty0 hty hnm hown hK hP hD hS q0 hq hc k hk (hts _ hlink) (fun _ h9 => h9) hfin hd hn hfit hl hdg (fun H1 locs1 h1 h2 h3 => ?_)
  rw [g_set hD ha he hq] at h1 h2
  exact kk H1 locs1 h1 h2 h3
theorem g_iald (hexec : p.tables.exec = Jvm.exec) (hb : c.code = cc) (hK : va_K D vwCl (tyK K) s) (hP : va_P D vwCl (va_pl L f) H) (ha : a ∈ L) {n : Nat} {g : Nat → Int32} (he : f a = .inl (K 0, n, .inl g)) {i : Int32} (hin : vp_in i n) (hdg : decode cc pc = .ok (.iaload, 1))
    (kk : W p l e R s m args below meth c H locs cells slots Q (F0 m (pc + 1) ls (.int (g i.toNatClampNeg) :: rest))) : W p l e R s m args below meth c H locs cells slots Q (F0 m pc ls (.int i :: .ref a :: rest)) := by
  obtain ⟨q0, hq⟩ := g_at ha he
  exact va_iald hexec hb hK hP q0 0 hq rfl hin hdg kk
theorem g_iast (hexec : p.tables.exec = Jvm.exec) (hb : c.code = cc) (hK : va_K D vwCl (tyK K) s) (hP : va_P D vwCl (va_pl L f) H) (hD : va_D A (va_pl L f)) (hS : va_S A H0 H locs) (ha : a ∈ L) {n : Nat} {g : Nat → Int32} (he : f a = .inl (K 0, n, .inl g)) {i x : Int32} (hin : vp_in i n) (hdg : decode cc pc = .ok (.iastore, 1))
    (kk : ∀ (H1 : Heap) (locs1 : List Loc), va_P D vwCl (va_pl L (va_up f a (.inl (K 0, n, .inl (upd g i.toNatClampNeg x))))) H1 → va_D A (va_pl L (va_up f a (.inl (K 0, n, .inl (upd g i.toNatClampNeg x))))) → va_S A H0 H1 locs1 → W p l e R s m args below meth c H1 locs1 cells slots Q (F0 m (pc + 1) ls rest)) : W p l e R s m args below meth c H locs cells slots Q (F0 m pc ls (.int x :: .int i :: .ref a :: rest)) := by
  obtain ⟨q0, hq⟩ := g_at ha he
  refine va_iast hexec hb hK hP hD hS q0 0 hq rfl hin hdg (fun H1 locs1 h1 h2 h3 => ?_)
  rw [g_set hD ha he hq] at h1 h2
  exact kk H1 locs1 h1 h2 h3
theorem g_zald (hexec : p.tables.exec = Jvm.exec) (hb : c.code = cc) (hK : va_K D vwCl (tyK K) s) (hP : va_P D vwCl (va_pl L f) H) (ha : a ∈ L) {n : Nat} {g : Nat → Int32} (he : f a = .inl (K 2, n, .inl g)) {i : Int32} (hin : vp_in i n) (hdg : decode cc pc = .ok (.baload, 1))
    (kk : W p l e R s m args below meth c H locs cells slots Q (F0 m (pc + 1) ls (.int (g i.toNatClampNeg) :: rest))) : W p l e R s m args below meth c H locs cells slots Q (F0 m pc ls (.int i :: .ref a :: rest)) := by
  obtain ⟨q0, hq⟩ := g_at ha he
  exact va_zald hexec hb hK hP q0 2 hq rfl hin hdg kk
theorem g_zast (hexec : p.tables.exec = Jvm.exec) (hb : c.code = cc) (hK : va_K D vwCl (tyK K) s) (hP : va_P D vwCl (va_pl L f) H) (hD : va_D A (va_pl L f)) (hS : va_S A H0 H locs) (ha : a ∈ L) {n : Nat} {g : Nat → Int32} (he : f a = .inl (K 2, n, .inl g)) {i x : Int32} (hin : vp_in i n) (hdg : decode cc pc = .ok (.bastore, 1))
    (kk : ∀ (H1 : Heap) (locs1 : List Loc), va_P D vwCl (va_pl L (va_up f a (.inl (K 2, n, .inl (upd g i.toNatClampNeg (vp_nar .boolean x)))))) H1 → va_D A (va_pl L (va_up f a (.inl (K 2, n, .inl (upd g i.toNatClampNeg (vp_nar .boolean x)))))) → va_S A H0 H1 locs1 → W p l e R s m args below meth c H1 locs1 cells slots Q (F0 m (pc + 1) ls rest)) : W p l e R s m args below meth c H locs cells slots Q (F0 m pc ls (.int x :: .int i :: .ref a :: rest)) := by
  obtain ⟨q0, hq⟩ := g_at ha he
  refine va_zast hexec hb hK hP hD hS q0 2 hq rfl hin hdg (fun H1 locs1 h1 h2 h3 => ?_)
  rw [g_set hD ha he hq] at h1 h2
  exact kk H1 locs1 h1 h2 h3
theorem g_lald (hexec : p.tables.exec = Jvm.exec) (hb : c.code = cc) (hK : va_K D vwCl (tyK K) s) (hP : va_P D vwCl (va_pl L f) H) (ha : a ∈ L) {n : Nat} {g : Nat → Int64} (he : f a = .inl (K 1, n, .inr (.inl g))) {i : Int32} (hin : vp_in i n) (hdg : decode cc pc = .ok (.laload, 1))
    (kk : W p l e R s m args below meth c H locs cells slots Q (F0 m (pc + 1) ls (.long (g i.toNatClampNeg) :: rest))) : W p l e R s m args below meth c H locs cells slots Q (F0 m pc ls (.int i :: .ref a :: rest)) := by
  obtain ⟨q0, hq⟩ := g_at ha he
  exact va_lald hexec hb hK hP q0 1 hq rfl hin hdg kk
theorem g_last (hexec : p.tables.exec = Jvm.exec) (hb : c.code = cc) (hK : va_K D vwCl (tyK K) s) (hP : va_P D vwCl (va_pl L f) H) (hD : va_D A (va_pl L f)) (hS : va_S A H0 H locs) (ha : a ∈ L) {n : Nat} {g : Nat → Int64} (he : f a = .inl (K 1, n, .inr (.inl g))) {i : Int32} {x : Int64} (hin : vp_in i n) (hdg : decode cc pc = .ok (.lastore, 1))
    (kk : ∀ (H1 : Heap) (locs1 : List Loc), va_P D vwCl (va_pl L (va_up f a (.inl (K 1, n, .inr (.inl (vp_updL g i.toNatClampNeg x)))))) H1 → va_D A (va_pl L (va_up f a (.inl (K 1, n, .inr (.inl (vp_updL g i.toNatClampNeg x)))))) → va_S A H0 H1 locs1 → W p l e R s m args below meth c H1 locs1 cells slots Q (F0 m (pc + 1) ls rest)) : W p l e R s m args below meth c H locs cells slots Q (F0 m pc ls (.long x :: .int i :: .ref a :: rest)) := by
  obtain ⟨q0, hq⟩ := g_at ha he
  refine va_last hexec hb hK hP hD hS q0 1 hq rfl hin hdg (fun H1 locs1 h1 h2 h3 => ?_)
  rw [g_set hD ha he hq] at h1 h2
  exact kk H1 locs1 h1 h2 h3
end GK
/-- a method that changes nothing, over the whole map -/
abbrev gR (l : Launch) (y : MethodName) (bytes : ByteArray) (maxL : Nat) (ret : FieldType) (d : Nat) (D : va_G) (K : Nat → ClassId) (L : List Nat) (f : Nat → va_E) (As : List Value) (post : Int32 → Prop) : Prop := mV l y bytes maxL ret d D (va_pl L f) (tyK K) As post
abbrev gRl (l : Launch) (y : MethodName) (bytes : ByteArray) (maxL : Nat) (ret : FieldType) (d : Nat) (D : va_G) (K : Nat → ClassId) (L : List Nat) (f : Nat → va_E) (As : List Value) (post : Int64 → Prop) : Prop := mVl l y bytes maxL ret d D (va_pl L f) (tyK K) As post
/-- a void method that makes nothing new: the map becomes f' -/
abbrev gMv (l : Launch) (y : MethodName) (bytes : ByteArray) (maxL : Nat) (d : Nat) (D : va_G) (K : Nat → ClassId) (L : List Nat) (f : Nat → va_E) (As : List Value) (post : (Nat → va_E) → Prop) : Prop :=
  Met l y (Cond.code y bytes maxL none :: lw_B) (rmD d 0 0) (va_Pc As (fun U => va_P D vwCl (va_pl L f) U.heap ∧ va_K D vwCl (tyK K) U)) (va_Qv (fun f' : Nat → va_E => post f') (fun f' U => va_P D vwCl (va_pl L f') U.heap) (fun q => q ∈ L)) 0 0 (fun q => q ∈ L)
abbrev gMi (l : Launch) (y : MethodName) (bytes : ByteArray) (maxL : Nat) (d : Nat) (D : va_G) (K : Nat → ClassId) (L : List Nat) (f : Nat → va_E) (As : List Value) (post : Int32 → (Nat → va_E) → Prop) : Prop :=
  Met l y (Cond.code y bytes maxL (some .int) :: lw_B) (rmD d 0 0) (va_Pc As (fun U => va_P D vwCl (va_pl L f) U.heap ∧ va_K D vwCl (tyK K) U)) (va_Qi (fun r (f' : Nat → va_E) => post r f') (fun f' U => va_P D vwCl (va_pl L f') U.heap) (fun q => q ∈ L)) 0 0 (fun q => q ∈ L)
abbrev gMl (l : Launch) (y : MethodName) (bytes : ByteArray) (maxL : Nat) (d : Nat) (D : va_G) (K : Nat → ClassId) (L : List Nat) (f : Nat → va_E) (As : List Value) (post : Int64 → (Nat → va_E) → Prop) : Prop :=
  Met l y (Cond.code y bytes maxL (some .long) :: lw_B) (rmD d 0 0) (va_Pc As (fun U => va_P D vwCl (va_pl L f) U.heap ∧ va_K D vwCl (tyK K) U)) (va_Ql (fun r (f' : Nat → va_E) => post r f') (fun f' U => va_P D vwCl (va_pl L f') U.heap) (fun q => q ∈ L)) 0 0 (fun q => q ∈ L)
section GC
variable {p : Program} {l : Launch} {e : Env} {R : Room} {s : State} {m : MethodId} {args : Array Value} {below : List Frame} {meth : Method} {c : Code} {H : Heap} {locs : List Loc} {cells slots : Nat} {Q : State → Prop}
variable {A0 : Nat → Prop} {H0 : Heap} {D : va_G} {K : Nat → ClassId} {L : List Nat} {f : Nat → va_E} {pc : Nat} {ls : Array Slot} {st0 rest : List Value} {y : MethodName} {bytes cc : ByteArray} {maxL nL index d n : Nat} {own : String} {As : List Value}
/-- a call of a method that changes nothing -/
theorem gc_R {ret : FieldType} {post : Int32 → Prop} {b ci : Nat} {fs : List Value} {q : vw_C} (S : CallFix p m c cc nL s args lw_B own) (hM : gR l y bytes maxL ret d D K L f (.ref b :: As) post) (n : Nat) (w1 : Cond.methodLink own index y ∈ lw_B) (w2 : Cond.instanceMethod y ∈ lw_B) (w3 : Cond.selects q.1 y y ∈ lw_B) (w4 : Cond.initialized q.1 ∈ lw_B) (w5 : Cond.code y bytes maxL (some ret) ∈ lw_B)
    (hd : y.cls = q.1 ∧ y.cls ≠ "java/lang/invoke/MethodHandle" ∧ y.cls ≠ "java/lang/invoke/VarHandle" ∧ (parseMethodDescriptor y.desc).map (fun d => d.parameters.length) = some n) (hR : d + 1 ≤ R.frames ∧ 8 + (maxL + 11) + 40 * d ≤ R.locals)
    (hK : va_K D vwCl (tyK K) s) (hc : vwCl[ci]? = some q) (hbL : b ∈ L) (hbf : f b = .inr (ci, fs))
    (hn : As.length = n) (hls : ls.size = nL) (hst : st0 = As.reverse ++ .ref b :: rest) (hW : (rest.map fun v => v.category).sum ≤ 8) (hdg : decode cc pc = .ok (.invokevirtual index, 3)) (hf : cells + 0 ≤ R.cells ∧ slots + 0 ≤ R.slots)
    (hS : va_S A0 H0 H locs) (hP : va_P D vwCl (va_pl L f) H)
    (kk : ∀ (r : Int32) (H1 : Heap) (locs1 : List Loc), post r → va_P D vwCl (va_pl L f) H1 → va_S A0 H0 H1 locs1 → W p l e R s m args below meth c H1 locs1 cells slots Q (F0 m (pc + 3) ls (.int r :: rest))) : W p l e R s m args below meth c H locs cells slots Q (F0 m pc ls st0) := by
  obtain ⟨k, hk⟩ := g_at hbL hbf
  exact k_V S hM n w1 w2 w3 w4 w5 hd hR hP hK hc hk hn hls hst hW hdg hf hS hP kk
theorem gc_Rl {ret : FieldType} {post : Int64 → Prop} {b ci : Nat} {fs : List Value} {q : vw_C} (S : CallFix p m c cc nL s args lw_B own) (hM : gRl l y bytes maxL ret d D K L f (.ref b :: As) post) (n : Nat) (w1 : Cond.methodLink own index y ∈ lw_B) (w2 : Cond.instanceMethod y ∈ lw_B) (w3 : Cond.selects q.1 y y ∈ lw_B) (w4 : Cond.initialized q.1 ∈ lw_B) (w5 : Cond.code y bytes maxL (some ret) ∈ lw_B)
    (hd : y.cls = q.1 ∧ y.cls ≠ "java/lang/invoke/MethodHandle" ∧ y.cls ≠ "java/lang/invoke/VarHandle" ∧ (parseMethodDescriptor y.desc).map (fun d => d.parameters.length) = some n) (hR : d + 1 ≤ R.frames ∧ 8 + (maxL + 11) + 40 * d ≤ R.locals)
    (hK : va_K D vwCl (tyK K) s) (hc : vwCl[ci]? = some q) (hbL : b ∈ L) (hbf : f b = .inr (ci, fs))
    (hn : As.length = n) (hls : ls.size = nL) (hst : st0 = As.reverse ++ .ref b :: rest) (hW : (rest.map fun v => v.category).sum ≤ 8) (hdg : decode cc pc = .ok (.invokevirtual index, 3)) (hf : cells + 0 ≤ R.cells ∧ slots + 0 ≤ R.slots)
    (hS : va_S A0 H0 H locs) (hP : va_P D vwCl (va_pl L f) H)
    (kk : ∀ (r : Int64) (H1 : Heap) (locs1 : List Loc), post r → va_P D vwCl (va_pl L f) H1 → va_S A0 H0 H1 locs1 → W p l e R s m args below meth c H1 locs1 cells slots Q (F0 m (pc + 3) ls (.long r :: rest))) : W p l e R s m args below meth c H locs cells slots Q (F0 m pc ls st0) := by
  obtain ⟨k, hk⟩ := g_at hbL hbf
  exact k_Vl S hM n w1 w2 w3 w4 w5 hd hR hP hK hc hk hn hls hst hW hdg hf hS hP kk
theorem gc_Mv {post : (Nat → va_E) → Prop} {b ci : Nat} {fs : List Value} {q : vw_C} (S : CallFix p m c cc nL s args lw_B own) (hM : gMv l y bytes maxL d D K L f (.ref b :: As) post) (n : Nat) (w1 : Cond.methodLink own index y ∈ lw_B) (w2 : Cond.instanceMethod y ∈ lw_B) (w3 : Cond.selects q.1 y y ∈ lw_B) (w4 : Cond.initialized q.1 ∈ lw_B) (w5 : Cond.code y bytes maxL none ∈ lw_B)
    (hd : y.cls = q.1 ∧ y.cls ≠ "java/lang/invoke/MethodHandle" ∧ y.cls ≠ "java/lang/invoke/VarHandle" ∧ (parseMethodDescriptor y.desc).map (fun d => d.parameters.length) = some n) (hR : d + 1 ≤ R.frames ∧ 8 + (maxL + 11) + 40 * d ≤ R.locals)
    (hK : va_K D vwCl (tyK K) s) (hc : vwCl[ci]? = some q) (hbL : b ∈ L) (hbf : f b = .inr (ci, fs))
    (hn : As.length = n) (hls : ls.size = nL) (hst : st0 = As.reverse ++ .ref b :: rest) (hW : (rest.map fun v => v.category).sum ≤ 8) (hdg : decode cc pc = .ok (.invokevirtual index, 3)) (hf : cells + 0 ≤ R.cells ∧ slots + 0 ≤ R.slots)
    (hLA : ∀ a ∈ L, A0 a) (hS : va_S A0 H0 H locs) (hP : va_P D vwCl (va_pl L f) H)
    (kk : ∀ (f' : Nat → va_E) (H1 : Heap) (locs1 : List Loc), post f' → va_P D vwCl (va_pl L f') H1 → va_S A0 H0 H1 locs1 → W p l e R s m args below meth c H1 locs1 cells slots Q (F0 m (pc + 3) ls rest)) : W p l e R s m args below meth c H locs cells slots Q (F0 m pc ls st0) := by
  obtain ⟨k, hk⟩ := g_at hbL hbf
  refine va_callv (va_runV (As := As) (rest := rest) S hM (cwV n S.2.2.2.2 (lb_V w1 w2 w3 w4 w5) rfl rfl rfl hd hR) ⟨fun a U g mk q => ⟨q.1, q.2.1, va_K.moved (u := U) (U := U.calling g mk a) (Vm.Alike.refl U.vm) q.2.2⟩, va_recv hK hP hc hk, fun U hU hW => ⟨rfl, by rw [hU]; exact hP, va_K.moved hW.alike hK⟩⟩ rfl hn hls hst (lv_room hW) hdg hf) hS (fun q _ h => hLA q h) (fun q h => hLA q h) (fun f' t H1 locs1 ht _ hp hB _ _ hS1 => ?_)
  rw [ht] at hB
  exact kk f' H1 locs1 hp hB hS1
theorem gc_Mi {post : Int32 → (Nat → va_E) → Prop} {b ci : Nat} {fs : List Value} {q : vw_C} (S : CallFix p m c cc nL s args lw_B own) (hM : gMi l y bytes maxL d D K L f (.ref b :: As) post) (n : Nat) (w1 : Cond.methodLink own index y ∈ lw_B) (w2 : Cond.instanceMethod y ∈ lw_B) (w3 : Cond.selects q.1 y y ∈ lw_B) (w4 : Cond.initialized q.1 ∈ lw_B) (w5 : Cond.code y bytes maxL (some .int) ∈ lw_B)
    (hd : y.cls = q.1 ∧ y.cls ≠ "java/lang/invoke/MethodHandle" ∧ y.cls ≠ "java/lang/invoke/VarHandle" ∧ (parseMethodDescriptor y.desc).map (fun d => d.parameters.length) = some n) (hR : d + 1 ≤ R.frames ∧ 8 + (maxL + 11) + 40 * d ≤ R.locals)
    (hK : va_K D vwCl (tyK K) s) (hc : vwCl[ci]? = some q) (hbL : b ∈ L) (hbf : f b = .inr (ci, fs))
    (hn : As.length = n) (hls : ls.size = nL) (hst : st0 = As.reverse ++ .ref b :: rest) (hW : (rest.map fun v => v.category).sum ≤ 8) (hdg : decode cc pc = .ok (.invokevirtual index, 3)) (hf : cells + 0 ≤ R.cells ∧ slots + 0 ≤ R.slots)
    (hLA : ∀ a ∈ L, A0 a) (hS : va_S A0 H0 H locs) (hP : va_P D vwCl (va_pl L f) H)
    (kk : ∀ (r : Int32) (f' : Nat → va_E) (H1 : Heap) (locs1 : List Loc), post r f' → va_P D vwCl (va_pl L f') H1 → va_S A0 H0 H1 locs1 → W p l e R s m args below meth c H1 locs1 cells slots Q (F0 m (pc + 3) ls (.int r :: rest))) : W p l e R s m args below meth c H locs cells slots Q (F0 m pc ls st0) := by
  obtain ⟨k, hk⟩ := g_at hbL hbf
  refine va_calli (va_runV (As := As) (rest := rest) S hM (cwV n S.2.2.2.2 (lb_V w1 w2 w3 w4 w5) rfl rfl rfl hd hR) ⟨fun a U g mk q => ⟨q.1, q.2.1, va_K.moved (u := U) (U := U.calling g mk a) (Vm.Alike.refl U.vm) q.2.2⟩, va_recv hK hP hc hk, fun U hU hW => ⟨rfl, by rw [hU]; exact hP, va_K.moved hW.alike hK⟩⟩ rfl hn hls hst (lv_room hW) hdg hf) hS (fun q _ h => hLA q h) (fun q h => hLA q h) (fun r f' t H1 locs1 ht _ hp hB _ _ hS1 => ?_)
  rw [ht] at hB
  exact kk r f' H1 locs1 hp hB hS1
theorem gc_Ml {post : Int64 → (Nat → va_E) → Prop} {b ci : Nat} {fs : List Value} {q : vw_C} (S : CallFix p m c cc nL s args lw_B own) (hM : gMl l y bytes maxL d D K L f (.ref b :: As) post) (n : Nat) (w1 : Cond.methodLink own index y ∈ lw_B) (w2 : Cond.instanceMethod y ∈ lw_B) (w3 : Cond.selects q.1 y y ∈ lw_B) (w4 : Cond.initialized q.1 ∈ lw_B) (w5 : Cond.code y bytes maxL (some .long) ∈ lw_B)
    (hd : y.cls = q.1 ∧ y.cls ≠ "java/lang/invoke/MethodHandle" ∧ y.cls ≠ "java/lang/invoke/VarHandle" ∧ (parseMethodDescriptor y.desc).map (fun d => d.parameters.length) = some n) (hR : d + 1 ≤ R.frames ∧ 8 + (maxL + 11) + 40 * d ≤ R.locals)
    (hK : va_K D vwCl (tyK K) s) (hc : vwCl[ci]? = some q) (hbL : b ∈ L) (hbf : f b = .inr (ci, fs))
    (hn : As.length = n) (hls : ls.size = nL) (hst : st0 = As.reverse ++ .ref b :: rest) (hW : (rest.map fun v => v.category).sum ≤ 8) (hdg : decode cc pc = .ok (.invokevirtual index, 3)) (hf : cells + 0 ≤ R.cells ∧ slots + 0 ≤ R.slots)
    (hLA : ∀ a ∈ L, A0 a) (hS : va_S A0 H0 H locs) (hP : va_P D vwCl (va_pl L f) H)
    (kk : ∀ (r : Int64) (f' : Nat → va_E) (H1 : Heap) (locs1 : List Loc), post r f' → va_P D vwCl (va_pl L f') H1 → va_S A0 H0 H1 locs1 → W p l e R s m args below meth c H1 locs1 cells slots Q (F0 m (pc + 3) ls (.long r :: rest))) : W p l e R s m args below meth c H locs cells slots Q (F0 m pc ls st0) := by
  obtain ⟨k, hk⟩ := g_at hbL hbf
  refine va_calll (va_runV (As := As) (rest := rest) S hM (cwV n S.2.2.2.2 (lb_V w1 w2 w3 w4 w5) rfl rfl rfl hd hR) ⟨fun a U g mk q => ⟨q.1, q.2.1, va_K.moved (u := U) (U := U.calling g mk a) (Vm.Alike.refl U.vm) q.2.2⟩, va_recv hK hP hc hk, fun U hU hW => ⟨rfl, by rw [hU]; exact hP, va_K.moved hW.alike hK⟩⟩ rfl hn hls hst (lv_room hW) hdg hf) hS (fun q _ h => hLA q h) (fun q h => hLA q h) (fun r f' t H1 locs1 ht _ hp hB _ _ hS1 => ?_)
  rw [ht] at hB
  exact kk r f' H1 locs1 hp hB hS1
end GC
section GJ
variable {p : Program} {l : Launch} {e : Env} {R : Room} {s : State} {m : MethodId} {args : Array Value} {below : List Frame} {meth : Method} {c : Code} {cells slots : Nat} {Q : State → Prop} {pc pcj : Nat} {H0 : Heap} {locs0 : List Loc} {ls0 : Array Slot} {st : List Value}
/-- ways that come together at pcj -/
theorem k_jn (I : Heap → List Loc → Array Slot → Prop) (J : ∀ (H : Heap) (locs : List Loc) (ls : Array Slot), I H locs ls → W p l e R s m args below meth c H locs cells slots Q (F0 m pcj ls []))
    (k : (∀ (H : Heap) (locs : List Loc) (ls : Array Slot), I H locs ls → W p l e R s m args below meth c H locs cells slots Q (F0 m pcj ls [])) → W p l e R s m args below meth c H0 locs0 cells slots Q (F0 m pc ls0 st)) : W p l e R s m args below meth c H0 locs0 cells slots Q (F0 m pc ls0 st) := k J
end GJ
theorem g_upself {f : Nat → va_E} {a : Nat} {e : va_E} (h : f a = e) : f = va_up f a e := funext (fun j => by by_cases q : j = a; rw [q, va_up_self]; exact h; rw [va_up_ne _ _ q])
end
section
set_option maxHeartbeats 4000000 in
set_option maxRecDepth 100000 in
theorem c_isWithin (l : Launch) (x a b : Int32) : mS l yX5_isWithin cX5_isWithin 3 .boolean 0 [.int x, .int a, .int b] (fun r => r = if a ≤ x ∧ x ≤ b then 1 else 0) := by
  refine Met.ofW (cc := cX5_isWithin) (maxL := 3) (ret := some .boolean) (by decide) rfl ?_
  intro p e s m args below meth c s₁ B hml hv
  obtain ⟨rfl, -⟩ := hv
  have hx := B.exec
  have hb := B.bytes
  have hr := B.returns
  have hlocks := B.notSynchronized
  have hts0 := atoms_spec (ws := Cond.code yX5_isWithin cX5_isWithin 3 (some .boolean) :: lw_B) B.pre
  have hts : ∀ w ∈ lw_B, w.before _ s = true := fun w h => hts0 w (List.mem_cons_of_mem _ h)
  have hown : s.vm.findClass RX5 = some m.cls := findClass_of_methodNamed B.named
  have hS : va_S (fun _ => False) s.heap s.heap [] := va_S.rf
  have hP : va_P (fun _ => 0, fun _ _ => 0) vwCl [] s.heap := fun k q h => by simp at h
  have hl := lv_entry ([.int x, .int a, .int b]) (n := 3) (Nat.le_of_ble_eq_true rfl)
  rw [lg_entry_eq]
  generalize (lg_sl ([.int x, .int a, .int b]) ++ List.replicate (3 - (lg_sl ([.int x, .int a, .int b])).length) Slot.unset).toArray = ls at hl ⊢
  have hl : lv_has ls 3 [(0, .int x), (1, .int a), (2, .int b)] := hl
  refine lv_iload_n hx hb dX5_isWithin_0 rfl (lv_at hl 0 rfl) ?_
  refine lv_iload_n hx hb dX5_isWithin_1 rfl (lv_at hl 1 rfl) ?_
  refine lv_icmp_lt (tgt := 14) hx hb dX5_isWithin_2 (by decide) (fun c_1 => ?_) (fun c_1 => ?_)
  · skip
    refine lv_iconst (v := 0) hx hb dX5_isWithin_14 (by decide) ?_
    exact W.zret (v := 0) hx hb hr rfl (fun t ht hW => ⟨⟨0, (), rfl, (by simp only [Int32.lt_iff_toInt_lt, Int32.le_iff_toInt_le, ← Int32.toInt_inj, Int32.reduceToInt] at c_1; exact (if_neg (by simp only [Int32.lt_iff_toInt_lt, Int32.le_iff_toInt_le, ← Int32.toInt_inj, Int32.reduceToInt]; omega)).symm), trivial⟩, hS.F ht⟩) hS.2.2 dX5_isWithin_15
  · skip
    refine lv_iload_n hx hb dX5_isWithin_5 rfl (lv_at hl 0 rfl) ?_
    refine lv_iload_n hx hb dX5_isWithin_6 rfl (lv_at hl 2 rfl) ?_
    refine lv_icmp_gt (tgt := 14) hx hb dX5_isWithin_7 (by decide) (fun c_2 => ?_) (fun c_2 => ?_)
    · skip
      refine lv_iconst (v := 0) hx hb dX5_isWithin_14 (by decide) ?_
      exact W.zret (v := 0) hx hb hr rfl (fun t ht hW => ⟨⟨0, (), rfl, (by simp only [Int32.lt_iff_toInt_lt, Int32.le_iff_toInt_le, ← Int32.toInt_inj, Int32.reduceToInt] at c_1 c_2; exact (if_neg (by simp only [Int32.lt_iff_toInt_lt, Int32.le_iff_toInt_le, ← Int32.toInt_inj, Int32.reduceToInt]; omega)).symm), trivial⟩, hS.F ht⟩) hS.2.2 dX5_isWithin_15
    · skip
      refine lv_iconst (v := 1) hx hb dX5_isWithin_10 (by decide) ?_
      refine lv_goto (tgt := 15) hx hb dX5_isWithin_11 (by decide) ?_
      exact W.zret (v := 1) hx hb hr rfl (fun t ht hW => ⟨⟨1, (), rfl, (by simp only [Int32.lt_iff_toInt_lt, Int32.le_iff_toInt_le, ← Int32.toInt_inj, Int32.reduceToInt] at c_1 c_2; exact (if_pos (by simp only [Int32.lt_iff_toInt_lt, Int32.le_iff_toInt_le, ← Int32.toInt_inj, Int32.reduceToInt]; omega)).symm), trivial⟩, hS.F ht⟩) hS.2.2 dX5_isWithin_15
set_option maxHeartbeats 4000000 in
set_option maxRecDepth 100000 in
theorem c_in (l : Launch) (x a b : Int32) : mS l yX6_in cX6_in 3 .boolean 0 [.int x, .int a, .int b] (fun r => r = if a ≤ x ∧ x ≤ b then 1 else 0) := by
  refine Met.ofW (cc := cX6_in) (maxL := 3) (ret := some .boolean) (by decide) rfl ?_
  intro p e s m args below meth c s₁ B hml hv
  obtain ⟨rfl, -⟩ := hv
  have hx := B.exec
  have hb := B.bytes
  have hr := B.returns
  have hlocks := B.notSynchronized
  have hts0 := atoms_spec (ws := Cond.code yX6_in cX6_in 3 (some .boolean) :: lw_B) B.pre
  have hts : ∀ w ∈ lw_B, w.before _ s = true := fun w h => hts0 w (List.mem_cons_of_mem _ h)
  have hown : s.vm.findClass RX6 = some m.cls := findClass_of_methodNamed B.named
  have hS : va_S (fun _ => False) s.heap s.heap [] := va_S.rf
  have hP : va_P (fun _ => 0, fun _ _ => 0) vwCl [] s.heap := fun k q h => by simp at h
  have hl := lv_entry ([.int x, .int a, .int b]) (n := 3) (Nat.le_of_ble_eq_true rfl)
  rw [lg_entry_eq]
  generalize (lg_sl ([.int x, .int a, .int b]) ++ List.replicate (3 - (lg_sl ([.int x, .int a, .int b])).length) Slot.unset).toArray = ls at hl ⊢
  have hl : lv_has ls 3 [(0, .int x), (1, .int a), (2, .int b)] := hl
  refine lv_iload_n hx hb dX6_in_0 rfl (lv_at hl 0 rfl) ?_
  refine lv_iload_n hx hb dX6_in_1 rfl (lv_at hl 1 rfl) ?_
  refine lv_icmp_lt (tgt := 14) hx hb dX6_in_2 (by decide) (fun c_1 => ?_) (fun c_1 => ?_)
  · skip
    refine lv_iconst (v := 0) hx hb dX6_in_14 (by decide) ?_
    exact W.zret (v := 0) hx hb hr rfl (fun t ht hW => ⟨⟨0, (), rfl, (by simp only [Int32.lt_iff_toInt_lt, Int32.le_iff_toInt_le, ← Int32.toInt_inj, Int32.reduceToInt] at c_1; exact (if_neg (by simp only [Int32.lt_iff_toInt_lt, Int32.le_iff_toInt_le, ← Int32.toInt_inj, Int32.reduceToInt]; omega)).symm), trivial⟩, hS.F ht⟩) hS.2.2 dX6_in_15
  · skip
    refine lv_iload_n hx hb dX6_in_5 rfl (lv_at hl 0 rfl) ?_
    refine lv_iload_n hx hb dX6_in_6 rfl (lv_at hl 2 rfl) ?_
    refine lv_icmp_gt (tgt := 14) hx hb dX6_in_7 (by decide) (fun c_2 => ?_) (fun c_2 => ?_)
    · skip
      refine lv_iconst (v := 0) hx hb dX6_in_14 (by decide) ?_
      exact W.zret (v := 0) hx hb hr rfl (fun t ht hW => ⟨⟨0, (), rfl, (by simp only [Int32.lt_iff_toInt_lt, Int32.le_iff_toInt_le, ← Int32.toInt_inj, Int32.reduceToInt] at c_1 c_2; exact (if_neg (by simp only [Int32.lt_iff_toInt_lt, Int32.le_iff_toInt_le, ← Int32.toInt_inj, Int32.reduceToInt]; omega)).symm), trivial⟩, hS.F ht⟩) hS.2.2 dX6_in_15
    · skip
      refine lv_iconst (v := 1) hx hb dX6_in_10 (by decide) ?_
      refine lv_goto (tgt := 15) hx hb dX6_in_11 (by decide) ?_
      exact W.zret (v := 1) hx hb hr rfl (fun t ht hW => ⟨⟨1, (), rfl, (by simp only [Int32.lt_iff_toInt_lt, Int32.le_iff_toInt_le, ← Int32.toInt_inj, Int32.reduceToInt] at c_1 c_2; exact (if_pos (by simp only [Int32.lt_iff_toInt_lt, Int32.le_iff_toInt_le, ← Int32.toInt_inj, Int32.reduceToInt]; omega)).symm), trivial⟩, hS.F ht⟩) hS.2.2 dX6_in_15
set_option maxHeartbeats 4000000 in
set_option maxRecDepth 100000 in
theorem c_isReader (l : Launch) (x : Int32) : mS l yX5_isReader cX5_isReader 1 .boolean 0 [.int x] (fun r => r = if 0 ≤ x ∧ x ≤ 99 then 1 else 0) := by
  refine Met.ofW (cc := cX5_isReader) (maxL := 1) (ret := some .boolean) (by decide) rfl ?_
  intro p e s m args below meth c s₁ B hml hv
  obtain ⟨rfl, -⟩ := hv
  have hx := B.exec
  have hb := B.bytes
  have hr := B.returns
  have hlocks := B.notSynchronized
  have hts0 := atoms_spec (ws := Cond.code yX5_isReader cX5_isReader 1 (some .boolean) :: lw_B) B.pre
  have hts : ∀ w ∈ lw_B, w.before _ s = true := fun w h => hts0 w (List.mem_cons_of_mem _ h)
  have hown : s.vm.findClass RX5 = some m.cls := findClass_of_methodNamed B.named
  have hS : va_S (fun _ => False) s.heap s.heap [] := va_S.rf
  have hP : va_P (fun _ => 0, fun _ _ => 0) vwCl [] s.heap := fun k q h => by simp at h
  have hl := lv_entry ([.int x]) (n := 1) (Nat.le_of_ble_eq_true rfl)
  rw [lg_entry_eq]
  generalize (lg_sl ([.int x]) ++ List.replicate (1 - (lg_sl ([.int x])).length) Slot.unset).toArray = ls at hl ⊢
  have hl : lv_has ls 1 [(0, .int x)] := hl
  refine lv_iload_n hx hb dX5_isReader_0 rfl (lv_at hl 0 rfl) ?_
  refine lv_if_lt (tgt := 14) hx hb dX5_isReader_1 (by decide) (fun c_1 => ?_) (fun c_1 => ?_)
  · skip
    refine lv_iconst (v := 0) hx hb dX5_isReader_14 (by decide) ?_
    exact W.zret (v := 0) hx hb hr rfl (fun t ht hW => ⟨⟨0, (), rfl, (by simp only [Int32.lt_iff_toInt_lt, Int32.le_iff_toInt_le, ← Int32.toInt_inj, Int32.reduceToInt] at c_1; exact (if_neg (by simp only [Int32.lt_iff_toInt_lt, Int32.le_iff_toInt_le, ← Int32.toInt_inj, Int32.reduceToInt]; omega)).symm), trivial⟩, hS.F ht⟩) hS.2.2 dX5_isReader_15
  · skip
    refine lv_iload_n hx hb dX5_isReader_4 rfl (lv_at hl 0 rfl) ?_
    refine lv_bipush (v := 100) hx hb dX5_isReader_5 (by decide) ?_
    refine lv_icmp_ge (tgt := 14) hx hb dX5_isReader_7 (by decide) (fun c_2 => ?_) (fun c_2 => ?_)
    · skip
      refine lv_iconst (v := 0) hx hb dX5_isReader_14 (by decide) ?_
      exact W.zret (v := 0) hx hb hr rfl (fun t ht hW => ⟨⟨0, (), rfl, (by simp only [Int32.lt_iff_toInt_lt, Int32.le_iff_toInt_le, ← Int32.toInt_inj, Int32.reduceToInt] at c_1 c_2; exact (if_neg (by simp only [Int32.lt_iff_toInt_lt, Int32.le_iff_toInt_le, ← Int32.toInt_inj, Int32.reduceToInt]; omega)).symm), trivial⟩, hS.F ht⟩) hS.2.2 dX5_isReader_15
    · skip
      refine lv_iconst (v := 1) hx hb dX5_isReader_10 (by decide) ?_
      refine lv_goto (tgt := 15) hx hb dX5_isReader_11 (by decide) ?_
      exact W.zret (v := 1) hx hb hr rfl (fun t ht hW => ⟨⟨1, (), rfl, (by simp only [Int32.lt_iff_toInt_lt, Int32.le_iff_toInt_le, ← Int32.toInt_inj, Int32.reduceToInt] at c_1 c_2; exact (if_pos (by simp only [Int32.lt_iff_toInt_lt, Int32.le_iff_toInt_le, ← Int32.toInt_inj, Int32.reduceToInt]; omega)).symm), trivial⟩, hS.F ht⟩) hS.2.2 dX5_isReader_15
set_option maxHeartbeats 4000000 in
set_option maxRecDepth 100000 in
theorem c_isSort (l : Launch) (x : Int32) : mS l yX5_isSort cX5_isSort 1 .boolean 0 [.int x] (fun r => r = if x = 0 ∨ x = 1 ∨ x = 10 ∨ x = 20 then 1 else 0) := by
  refine Met.ofW (cc := cX5_isSort) (maxL := 1) (ret := some .boolean) (by decide) rfl ?_
  intro p e s m args below meth c s₁ B hml hv
  obtain ⟨rfl, -⟩ := hv
  have hx := B.exec
  have hb := B.bytes
  have hr := B.returns
  have hlocks := B.notSynchronized
  have hts0 := atoms_spec (ws := Cond.code yX5_isSort cX5_isSort 1 (some .boolean) :: lw_B) B.pre
  have hts : ∀ w ∈ lw_B, w.before _ s = true := fun w h => hts0 w (List.mem_cons_of_mem _ h)
  have hown : s.vm.findClass RX5 = some m.cls := findClass_of_methodNamed B.named
  have hS : va_S (fun _ => False) s.heap s.heap [] := va_S.rf
  have hP : va_P (fun _ => 0, fun _ _ => 0) vwCl [] s.heap := fun k q h => by simp at h
  have hl := lv_entry ([.int x]) (n := 1) (Nat.le_of_ble_eq_true rfl)
  rw [lg_entry_eq]
  generalize (lg_sl ([.int x]) ++ List.replicate (1 - (lg_sl ([.int x])).length) Slot.unset).toArray = ls at hl ⊢
  have hl : lv_has ls 1 [(0, .int x)] := hl
  refine lv_iload_n hx hb dX5_isSort_0 rfl (lv_at hl 0 rfl) ?_
  refine lv_if_eq (tgt := 21) hx hb dX5_isSort_1 (by decide) (fun c_1 => ?_) (fun c_1 => ?_)
  · skip
    refine lv_iconst (v := 1) hx hb dX5_isSort_21 (by decide) ?_
    refine lv_goto (tgt := 26) hx hb dX5_isSort_22 (by decide) ?_
    exact W.zret (v := 1) hx hb hr rfl (fun t ht hW => ⟨⟨1, (), rfl, (by simp only [Int32.lt_iff_toInt_lt, Int32.le_iff_toInt_le, ← Int32.toInt_inj, Int32.reduceToInt] at c_1; exact (if_pos (by simp only [Int32.lt_iff_toInt_lt, Int32.le_iff_toInt_le, ← Int32.toInt_inj, Int32.reduceToInt]; omega)).symm), trivial⟩, hS.F ht⟩) hS.2.2 dX5_isSort_26
  · skip
    refine lv_iload_n hx hb dX5_isSort_4 rfl (lv_at hl 0 rfl) ?_
    refine lv_iconst (v := 1) hx hb dX5_isSort_5 (by decide) ?_
    refine lv_icmp_eq (tgt := 21) hx hb dX5_isSort_6 (by decide) (fun c_2 => ?_) (fun c_2 => ?_)
    · skip
      refine lv_iconst (v := 1) hx hb dX5_isSort_21 (by decide) ?_
      refine lv_goto (tgt := 26) hx hb dX5_isSort_22 (by decide) ?_
      exact W.zret (v := 1) hx hb hr rfl (fun t ht hW => ⟨⟨1, (), rfl, (by simp only [Int32.lt_iff_toInt_lt, Int32.le_iff_toInt_le, ← Int32.toInt_inj, Int32.reduceToInt] at c_1 c_2; exact (if_pos (by simp only [Int32.lt_iff_toInt_lt, Int32.le_iff_toInt_le, ← Int32.toInt_inj, Int32.reduceToInt]; omega)).symm), trivial⟩, hS.F ht⟩) hS.2.2 dX5_isSort_26
    · skip
      refine lv_iload_n hx hb dX5_isSort_9 rfl (lv_at hl 0 rfl) ?_
      refine lv_bipush (v := 10) hx hb dX5_isSort_10 (by decide) ?_
      refine lv_icmp_eq (tgt := 21) hx hb dX5_isSort_12 (by decide) (fun c_3 => ?_) (fun c_3 => ?_)
      · skip
        refine lv_iconst (v := 1) hx hb dX5_isSort_21 (by decide) ?_
        refine lv_goto (tgt := 26) hx hb dX5_isSort_22 (by decide) ?_
        exact W.zret (v := 1) hx hb hr rfl (fun t ht hW => ⟨⟨1, (), rfl, (by simp only [Int32.lt_iff_toInt_lt, Int32.le_iff_toInt_le, ← Int32.toInt_inj, Int32.reduceToInt] at c_1 c_2 c_3; exact (if_pos (by simp only [Int32.lt_iff_toInt_lt, Int32.le_iff_toInt_le, ← Int32.toInt_inj, Int32.reduceToInt]; omega)).symm), trivial⟩, hS.F ht⟩) hS.2.2 dX5_isSort_26
      · skip
        refine lv_iload_n hx hb dX5_isSort_15 rfl (lv_at hl 0 rfl) ?_
        refine lv_bipush (v := 20) hx hb dX5_isSort_16 (by decide) ?_
        refine lv_icmp_ne (tgt := 25) hx hb dX5_isSort_18 (by decide) (fun c_4 => ?_) (fun c_4 => ?_)
        · skip
          refine lv_iconst (v := 0) hx hb dX5_isSort_25 (by decide) ?_
          exact W.zret (v := 0) hx hb hr rfl (fun t ht hW => ⟨⟨0, (), rfl, (by simp only [Int32.lt_iff_toInt_lt, Int32.le_iff_toInt_le, ← Int32.toInt_inj, Int32.reduceToInt] at c_1 c_2 c_3 c_4; exact (if_neg (by simp only [Int32.lt_iff_toInt_lt, Int32.le_iff_toInt_le, ← Int32.toInt_inj, Int32.reduceToInt]; omega)).symm), trivial⟩, hS.F ht⟩) hS.2.2 dX5_isSort_26
        · skip
          refine lv_iconst (v := 1) hx hb dX5_isSort_21 (by decide) ?_
          refine lv_goto (tgt := 26) hx hb dX5_isSort_22 (by decide) ?_
          exact W.zret (v := 1) hx hb hr rfl (fun t ht hW => ⟨⟨1, (), rfl, (by simp only [Int32.lt_iff_toInt_lt, Int32.le_iff_toInt_le, ← Int32.toInt_inj, Int32.reduceToInt] at c_1 c_2 c_3 c_4; exact (if_pos (by simp only [Int32.lt_iff_toInt_lt, Int32.le_iff_toInt_le, ← Int32.toInt_inj, Int32.reduceToInt]; omega)).symm), trivial⟩, hS.F ht⟩) hS.2.2 dX5_isSort_26
set_option maxHeartbeats 4000000 in
set_option maxRecDepth 100000 in
theorem c_isWish (l : Launch) (x : Int32) : mS l yX5_isWish cX5_isWish 1 .boolean 0 [.int x] (fun r => r = if 0 ≤ x ∧ x / 4096 ≤ 4095 ∧ (x / 4096 &&& (x - x / 4096 * 4096)) = 0 then 1 else 0) := by
  refine Met.ofW (cc := cX5_isWish) (maxL := 1) (ret := some .boolean) (by decide) rfl ?_
  intro p e s m args below meth c s₁ B hml hv
  obtain ⟨rfl, -⟩ := hv
  have hx := B.exec
  have hb := B.bytes
  have hr := B.returns
  have hlocks := B.notSynchronized
  have hts0 := atoms_spec (ws := Cond.code yX5_isWish cX5_isWish 1 (some .boolean) :: lw_B) B.pre
  have hts : ∀ w ∈ lw_B, w.before _ s = true := fun w h => hts0 w (List.mem_cons_of_mem _ h)
  have hown : s.vm.findClass RX5 = some m.cls := findClass_of_methodNamed B.named
  have hS : va_S (fun _ => False) s.heap s.heap [] := va_S.rf
  have hP : va_P (fun _ => 0, fun _ _ => 0) vwCl [] s.heap := fun k q h => by simp at h
  have hl := lv_entry ([.int x]) (n := 1) (Nat.le_of_ble_eq_true rfl)
  rw [lg_entry_eq]
  generalize (lg_sl ([.int x]) ++ List.replicate (1 - (lg_sl ([.int x])).length) Slot.unset).toArray = ls at hl ⊢
  have hl : lv_has ls 1 [(0, .int x)] := hl
  refine lv_iload_n hx hb dX5_isWish_0 rfl (lv_at hl 0 rfl) ?_
  refine lv_if_lt (tgt := 15) hx hb dX5_isWish_1 (by decide) (fun c_1 => ?_) (fun c_1 => ?_)
  · skip
    refine lv_iconst (v := 0) hx hb dX5_isWish_15 (by decide) ?_
    exact W.zret (v := 0) hx hb hr rfl (fun t ht hW => ⟨⟨0, (), rfl, (by simp only [Int32.lt_iff_toInt_lt, Int32.le_iff_toInt_le, ← Int32.toInt_inj, Int32.reduceToInt] at c_1; exact (if_neg (by simp only [Int32.lt_iff_toInt_lt, Int32.le_iff_toInt_le, ← Int32.toInt_inj, Int32.reduceToInt]; omega)).symm), trivial⟩, hS.F ht⟩) hS.2.2 dX5_isWish_16
  · skip
    refine lv_iload_n hx hb dX5_isWish_4 rfl (lv_at hl 0 rfl) ?_
    refine lv_sipush (v := 4096) hx hb dX5_isWish_5 (by decide) ?_
    refine lv_idiv hx hb dX5_isWish_8 (by decide) ?_
    refine lv_topi (fun x_2 ex_2 => ?_)
    refine lv_sipush (v := 4095) hx hb dX5_isWish_9 (by decide) ?_
    refine lv_icmp_le (tgt := 17) hx hb dX5_isWish_12 (by decide) (fun c_3 => ?_) (fun c_3 => ?_)
    · skip
      refine lv_iload_n hx hb dX5_isWish_17 rfl (lv_at hl 0 rfl) ?_
      refine lv_sipush (v := 4096) hx hb dX5_isWish_18 (by decide) ?_
      refine lv_idiv hx hb dX5_isWish_21 (by decide) ?_
      refine lv_topi (fun x_4 ex_4 => ?_)
      refine lv_iload_n hx hb dX5_isWish_22 rfl (lv_at hl 0 rfl) ?_
      refine lv_sipush (v := 4096) hx hb dX5_isWish_23 (by decide) ?_
      refine lv_irem hx hb dX5_isWish_26 (by decide) ?_
      refine lv_topi (fun x_5 ex_5 => ?_)
      refine lv_iand hx hb dX5_isWish_27 ?_
      refine lv_topi (fun x_6 ex_6 => ?_)
      refine lv_if_ne (tgt := 35) hx hb dX5_isWish_28 (by decide) (fun c_7 => ?_) (fun c_7 => ?_)
      · skip
        refine lv_iconst (v := 0) hx hb dX5_isWish_35 (by decide) ?_
        exact W.zret (v := 0) hx hb hr rfl (fun t ht hW => ⟨⟨0, (), rfl, (by subst ex_2 ex_4 ex_5 ex_6; simp only [Int32.lt_iff_toInt_lt, Int32.le_iff_toInt_le, ← Int32.toInt_inj, Int32.reduceToInt] at c_1 c_3 c_7; exact (if_neg (by simp only [Int32.lt_iff_toInt_lt, Int32.le_iff_toInt_le, ← Int32.toInt_inj, Int32.reduceToInt]; omega)).symm), trivial⟩, hS.F ht⟩) hS.2.2 dX5_isWish_36
      · skip
        refine lv_iconst (v := 1) hx hb dX5_isWish_31 (by decide) ?_
        refine lv_goto (tgt := 36) hx hb dX5_isWish_32 (by decide) ?_
        exact W.zret (v := 1) hx hb hr rfl (fun t ht hW => ⟨⟨1, (), rfl, (by subst ex_2 ex_4 ex_5 ex_6; simp only [Int32.lt_iff_toInt_lt, Int32.le_iff_toInt_le, ← Int32.toInt_inj, Int32.reduceToInt] at c_1 c_3 c_7; exact (if_pos (by simp only [Int32.lt_iff_toInt_lt, Int32.le_iff_toInt_le, ← Int32.toInt_inj, Int32.reduceToInt]; omega)).symm), trivial⟩, hS.F ht⟩) hS.2.2 dX5_isWish_36
    · skip
      refine lv_iconst (v := 0) hx hb dX5_isWish_15 (by decide) ?_
      exact W.zret (v := 0) hx hb hr rfl (fun t ht hW => ⟨⟨0, (), rfl, (by subst ex_2; simp only [Int32.lt_iff_toInt_lt, Int32.le_iff_toInt_le, ← Int32.toInt_inj, Int32.reduceToInt] at c_1 c_3; exact (if_neg (by simp only [Int32.lt_iff_toInt_lt, Int32.le_iff_toInt_le, ← Int32.toInt_inj, Int32.reduceToInt]; omega)).symm), trivial⟩, hS.F ht⟩) hS.2.2 dX5_isWish_16
set_option maxHeartbeats 4000000 in
set_option maxRecDepth 100000 in
theorem c_isBid (l : Launch) (x y : Int32) : mS l yX5_isBid cX5_isBid 2 .boolean 1 [.int x, .int y] (fun r => r = if (x = 2 ∧ y = 0) ∨ (¬ x = 2 ∧ 1 ≤ y ∧ y ≤ 1000) then 1 else 0) := by
  refine Met.ofW (cc := cX5_isBid) (maxL := 2) (ret := some .boolean) (by decide) rfl ?_
  intro p e s m args below meth c s₁ B hml hv
  obtain ⟨rfl, -⟩ := hv
  have hx := B.exec
  have hb := B.bytes
  have hr := B.returns
  have hlocks := B.notSynchronized
  have hts0 := atoms_spec (ws := Cond.code yX5_isBid cX5_isBid 2 (some .boolean) :: lw_B) B.pre
  have hts : ∀ w ∈ lw_B, w.before _ s = true := fun w h => hts0 w (List.mem_cons_of_mem _ h)
  have hown : s.vm.findClass RX5 = some m.cls := findClass_of_methodNamed B.named
  have hS : va_S (fun _ => False) s.heap s.heap [] := va_S.rf
  have hP : va_P (fun _ => 0, fun _ _ => 0) vwCl [] s.heap := fun k q h => by simp at h
  have hl := lv_entry ([.int x, .int y]) (n := 2) (Nat.le_of_ble_eq_true rfl)
  rw [lg_entry_eq]
  generalize (lg_sl ([.int x, .int y]) ++ List.replicate (2 - (lg_sl ([.int x, .int y])).length) Slot.unset).toArray = ls at hl ⊢
  have hl : lv_has ls 2 [(0, .int x), (1, .int y)] := hl
  refine lv_iload_n hx hb dX5_isBid_0 rfl (lv_at hl 0 rfl) ?_
  refine lv_iconst (v := 2) hx hb dX5_isBid_1 (by decide) ?_
  refine lv_icmp_ne (tgt := 17) hx hb dX5_isBid_2 (by decide) (fun c_1 => ?_) (fun c_1 => ?_)
  · skip
    refine lv_iload_n hx hb dX5_isBid_17 rfl (lv_at hl 1 rfl) ?_
    refine lv_iconst (v := 1) hx hb dX5_isBid_18 (by decide) ?_
    refine lv_sipush (v := 1000) hx hb dX5_isBid_19 (by decide) ?_
    refine k_S ⟨hx, hb, hml, hown, hts⟩ (c_isWithin l y 1 1000) 3 wm_65 wm_66 wm_67 wm_68 (by decide +kernel) ⟨Nat.le_of_ble_eq_true rfl, Nat.le_of_ble_eq_true rfl⟩ rfl hl.1 rfl (Nat.le_of_ble_eq_true rfl) dX5_isBid_22 ⟨Nat.le_of_ble_eq_true rfl, Nat.le_of_ble_eq_true rfl⟩ hS hP (fun r_2 H locs hpr_2 hP hS => ?_)
    exact W.zret (v := r_2) hx hb hr (by rw [hpr_2]; split <;> rfl) (fun t ht hW => ⟨⟨r_2, (), rfl, (hpr_2.trans (k_ite (by simp only [Int32.lt_iff_toInt_lt, Int32.le_iff_toInt_le, ← Int32.toInt_inj, Int32.reduceToInt] at c_1 ⊢; omega) 1 0)), trivial⟩, hS.F ht⟩) hS.2.2 dX5_isBid_25
  · skip
    refine lv_iload_n hx hb dX5_isBid_5 rfl (lv_at hl 1 rfl) ?_
    refine lv_if_ne (tgt := 13) hx hb dX5_isBid_6 (by decide) (fun c_3 => ?_) (fun c_3 => ?_)
    · skip
      refine lv_iconst (v := 0) hx hb dX5_isBid_13 (by decide) ?_
      refine lv_goto (tgt := 25) hx hb dX5_isBid_14 (by decide) ?_
      exact W.zret (v := 0) hx hb hr rfl (fun t ht hW => ⟨⟨0, (), rfl, (by simp only [Int32.lt_iff_toInt_lt, Int32.le_iff_toInt_le, ← Int32.toInt_inj, Int32.reduceToInt] at c_1 c_3; exact (if_neg (by simp only [Int32.lt_iff_toInt_lt, Int32.le_iff_toInt_le, ← Int32.toInt_inj, Int32.reduceToInt]; omega)).symm), trivial⟩, hS.F ht⟩) hS.2.2 dX5_isBid_25
    · skip
      refine lv_iconst (v := 1) hx hb dX5_isBid_9 (by decide) ?_
      refine lv_goto (tgt := 25) hx hb dX5_isBid_10 (by decide) ?_
      exact W.zret (v := 1) hx hb hr rfl (fun t ht hW => ⟨⟨1, (), rfl, (by simp only [Int32.lt_iff_toInt_lt, Int32.le_iff_toInt_le, ← Int32.toInt_inj, Int32.reduceToInt] at c_1 c_3; exact (if_pos (by simp only [Int32.lt_iff_toInt_lt, Int32.le_iff_toInt_le, ← Int32.toInt_inj, Int32.reduceToInt]; omega)).symm), trivial⟩, hS.F ht⟩) hS.2.2 dX5_isBid_25
set_option maxHeartbeats 4000000 in
set_option maxRecDepth 100000 in
theorem c_mReader (l : Launch) (x : Int32) : mS l yX6_isReader cX6_isReader 1 .boolean 1 [.int x] (fun r => r = if 0 ≤ x ∧ x ≤ 99 then 1 else 0) := by
  refine Met.ofW (cc := cX6_isReader) (maxL := 1) (ret := some .boolean) (by decide) rfl ?_
  intro p e s m args below meth c s₁ B hml hv
  obtain ⟨rfl, -⟩ := hv
  have hx := B.exec
  have hb := B.bytes
  have hr := B.returns
  have hlocks := B.notSynchronized
  have hts0 := atoms_spec (ws := Cond.code yX6_isReader cX6_isReader 1 (some .boolean) :: lw_B) B.pre
  have hts : ∀ w ∈ lw_B, w.before _ s = true := fun w h => hts0 w (List.mem_cons_of_mem _ h)
  have hown : s.vm.findClass RX6 = some m.cls := findClass_of_methodNamed B.named
  have hS : va_S (fun _ => False) s.heap s.heap [] := va_S.rf
  have hP : va_P (fun _ => 0, fun _ _ => 0) vwCl [] s.heap := fun k q h => by simp at h
  have hl := lv_entry ([.int x]) (n := 1) (Nat.le_of_ble_eq_true rfl)
  rw [lg_entry_eq]
  generalize (lg_sl ([.int x]) ++ List.replicate (1 - (lg_sl ([.int x])).length) Slot.unset).toArray = ls at hl ⊢
  have hl : lv_has ls 1 [(0, .int x)] := hl
  refine lv_iload_n hx hb dX6_isReader_0 rfl (lv_at hl 0 rfl) ?_
  refine lv_iconst (v := 0) hx hb dX6_isReader_1 (by decide) ?_
  refine lv_bipush (v := 99) hx hb dX6_isReader_2 (by decide) ?_
  refine k_S ⟨hx, hb, hml, hown, hts⟩ (c_in l x 0 99) 3 wm_69 wm_70 wm_8 wm_71 (by decide +kernel) ⟨Nat.le_of_ble_eq_true rfl, Nat.le_of_ble_eq_true rfl⟩ rfl hl.1 rfl (Nat.le_of_ble_eq_true rfl) dX6_isReader_4 ⟨Nat.le_of_ble_eq_true rfl, Nat.le_of_ble_eq_true rfl⟩ hS hP (fun r_1 H locs hpr_1 hP hS => ?_)
  exact W.zret (v := r_1) hx hb hr (by rw [hpr_1]; split <;> rfl) (fun t ht hW => ⟨⟨r_1, (), rfl, hpr_1, trivial⟩, hS.F ht⟩) hS.2.2 dX6_isReader_7
end
section
theorem acc_next {acc x : Int32} {j : Nat} (h : ∃ q : Nat, q ≤ j ∧ acc = nI q) (e : x = acc + 0 ∨ x = acc + 1) : ∃ q : Nat, q ≤ j + 1 ∧ x = nI q := by
  obtain ⟨q, h1, rfl⟩ := h
  rcases e with e | e
  · exact ⟨q, by omega, by rw [e, show (0 : Int32) = nI 0 from rfl, nI_add, Nat.add_zero]⟩
  · exact ⟨q + 1, by omega, by rw [e, nI_1]⟩
/-- which roots there are: the arrays of the reference by their fields, the reference 51 -/
def mArr : List Nat := [6, 7, 8, 10, 11, 12, 13, 14, 15, 16, 17, 18, 19, 20, 21, 22, 23, 24, 26, 27, 28, 29, 30, 31, 32, 33, 34, 36, 37, 38, 40, 41, 42, 46, 47, 48, 49, 50]
def mRoots : List Nat := mArr ++ [51]
def rtOk (rt : Nat → Nat) (L : List Nat) : Prop := (∀ i ∈ mRoots, rt i ∈ L) ∧ (∀ i ∈ mRoots, ∀ j ∈ mRoots, rt i = rt j → i = j)
/-- the reference: its object and the roots in its fields -/
def mC (rt : Nat → Nat) (L : List Nat) (f : Nat → va_E) (fm : List Value) : Prop := rtOk rt L ∧ f (rt 51) = .inr (6, fm) ∧ fm.length = 51 ∧ ∀ k ∈ mArr, fm[k]? = some (.ref (rt k))
set_option maxHeartbeats 4000000 in
set_option maxRecDepth 100000 in
theorem m_coins (l : Launch) (dC : Nat → ClassId) (dI : Nat → Nat → Nat) (K : Nat → ClassId) (L : List Nat) (f : Nat → va_E) (rt : Nat → Nat) {fm : List Value} (hC : mC rt L f fm) {g_state : Nat → Int32} (F_state : f (rt 32) = .inl (K 0, 1000, .inl g_state)) {g_saleOf : Nat → Int32} (F_saleOf : f (rt 30) = .inl (K 0, 1000, .inl g_saleOf)) {g_pays : Nat → Int32} (F_pays : f (rt 11) = .inl (K 0, 40, .inl g_pays)) {g_price : Nat → Int32} (F_price : f (rt 31) = .inl (K 0, 1000, .inl g_price)) {ns : Nat} (j : Nat) (k : Int32) (hns : ns ≤ 1000) (hso : ∀ j, j < ns → vp_in (g_saleOf j) 40) (hj : j < ns) : gR l yX6_coins cX6_coins 4 .int 0 (dC, dI) K L f [.ref (rt 51), .int (nI j), .int k] (fun _ => True) := by
  refine Met.ofW (cc := cX6_coins) (maxL := 4) (ret := some .int) (by decide) rfl ?_
  intro p e s m args below meth c s₁ B hml hv
  obtain ⟨rfl, hP, hK⟩ := hv
  have F_m := hC.2.1
  have hx := B.exec
  have hb := B.bytes
  have hr := B.returns
  have hlocks := B.notSynchronized
  have hts0 := atoms_spec (ws := Cond.code yX6_coins cX6_coins 4 (some .int) :: lw_B) B.pre
  have hts : ∀ w ∈ lw_B, w.before _ s = true := fun w h => hts0 w (List.mem_cons_of_mem _ h)
  have hown : s.vm.findClass RX6 = some m.cls := findClass_of_methodNamed B.named
  have hS : va_S (fun _ => False) s.heap s.heap [] := va_S.rf
  have hl := lv_entry ([.ref (rt 51), .int (nI j), .int k]) (n := 4) (Nat.le_of_ble_eq_true rfl)
  rw [lg_entry_eq]
  generalize (lg_sl ([.ref (rt 51), .int (nI j), .int k]) ++ List.replicate (4 - (lg_sl ([.ref (rt 51), .int (nI j), .int k])).length) Slot.unset).toArray = ls at hl ⊢
  have hl : lv_has ls 4 [(0, .ref (rt 51)), (1, .int (nI j)), (2, .int k)] := hl
  refine lv_aload_n hx hb dX6_coins_0 rfl (lv_at hl 0 rfl) ?_
  refine g_get (ci := 6) (v := .ref (rt 32)) (C := RX6) (T := TX6) (N := 51) hx hb hts uB6 hown hK hP (hC.1.1 51 (by decide)) F_m rfl 32 (by decide) wm_0 (hC.2.2.2 32 (by decide)) dX6_coins_1 ?_
  refine lv_iload_n hx hb dX6_coins_4 rfl (lv_at hl 1 rfl) ?_
  refine g_iald hx hb hK hP (hC.1.1 32 (by decide)) F_state (vp_in_nI (by omega) (by decide)) dX6_coins_5 ?_
  refine lv_topi (fun x_1 ex_1 => ?_)
  rw [nI_clamp (by omega)] at ex_1
  refine lv_iconst (v := 3) hx hb dX6_coins_6 (by decide) ?_
  refine lv_icmp_ne (tgt := 12) hx hb dX6_coins_7 (by decide) (fun c_2 => ?_) (fun c_2 => ?_)
  · skip
    refine lv_aload_n hx hb dX6_coins_12 rfl (lv_at hl 0 rfl) ?_
    refine g_get (ci := 6) (v := .ref (rt 11)) (C := RX6) (T := TX6) (N := 51) hx hb hts uB6 hown hK hP (hC.1.1 51 (by decide)) F_m rfl 11 (by decide) wm_1 (hC.2.2.2 11 (by decide)) dX6_coins_13 ?_
    refine lv_aload_n hx hb dX6_coins_16 rfl (lv_at hl 0 rfl) ?_
    refine g_get (ci := 6) (v := .ref (rt 30)) (C := RX6) (T := TX6) (N := 51) hx hb hts uB6 hown hK hP (hC.1.1 51 (by decide)) F_m rfl 30 (by decide) wm_2 (hC.2.2.2 30 (by decide)) dX6_coins_17 ?_
    refine lv_iload_n hx hb dX6_coins_20 rfl (lv_at hl 1 rfl) ?_
    refine g_iald hx hb hK hP (hC.1.1 30 (by decide)) F_saleOf (vp_in_nI (by omega) (by decide)) dX6_coins_21 ?_
    refine lv_topi (fun x_3 ex_3 => ?_)
    rw [nI_clamp (by omega)] at ex_3
    refine g_iald hx hb hK hP (hC.1.1 11 (by decide)) F_pays (by rw [ex_3]; exact hso j hj) dX6_coins_22 ?_
    refine lv_topi (fun x_4 ex_4 => ?_)
    refine lv_iconst (v := 1) hx hb dX6_coins_23 (by decide) ?_
    refine lv_icmp_ne (tgt := 31) hx hb dX6_coins_24 (by decide) (fun c_5 => ?_) (fun c_5 => ?_)
    · skip
      refine lv_iconst (v := 0) hx hb dX6_coins_31 (by decide) ?_
      refine lv_istore_n (lv' := [(3, .int 0), (0, .ref (rt 51)), (1, .int (nI j)), (2, .int k)]) hx hb dX6_coins_32 rfl hl (by decide) rfl (fun ls hl => ?_)
      refine lv_iload_n hx hb dX6_coins_33 rfl (lv_at hl 3 rfl) ?_
      refine lv_if_eq (tgt := 62) hx hb dX6_coins_34 (by decide) (fun c_6 => ?_) (fun c_6 => ?_)
      · skip
        refine lv_iload_n hx hb dX6_coins_62 rfl (lv_at hl 0 rfl) ?_
        refine lv_if_eq (tgt := 76) hx hb dX6_coins_63 (by decide) (fun _ => ?_) (fun h9 => absurd (by decide) h9)
        refine lv_aload_n hx hb dX6_coins_76 rfl (lv_at hl 1 rfl) ?_
        refine g_get (ci := 6) (v := .ref (rt 31)) (C := RX6) (T := TX6) (N := 51) hx hb hts uB6 hown hK hP (hC.1.1 51 (by decide)) F_m rfl 31 (by decide) wm_3 (hC.2.2.2 31 (by decide)) dX6_coins_77 ?_
        refine lv_iload_n hx hb dX6_coins_80 rfl (lv_at hl 2 rfl) ?_
        refine g_iald hx hb hK hP (hC.1.1 31 (by decide)) F_price (vp_in_nI (by omega) (by decide)) dX6_coins_81 ?_
        refine lv_topi (fun x_7 ex_7 => ?_)
        rw [nI_clamp (by omega)] at ex_7
        refine lv_goto (tgt := 86) hx hb dX6_coins_82 (by decide) ?_
        exact W.iret (v := x_7) hx hb hr (fun t ht hW => ⟨⟨x_7, (), rfl, trivial, trivial⟩, hS.F ht⟩) hS.2.2 dX6_coins_86
      · skip
        refine lv_iload_n hx hb dX6_coins_37 rfl (lv_at hl 0 rfl) ?_
        refine lv_if_eq (tgt := 60) hx hb dX6_coins_38 (by decide) (fun _ => ?_) (fun h9 => absurd (by decide) h9)
        refine lv_iconst (v := 0) hx hb dX6_coins_60 (by decide) ?_
        exact W.iret (v := 0) hx hb hr (fun t ht hW => ⟨⟨0, (), rfl, trivial, trivial⟩, hS.F ht⟩) hS.2.2 dX6_coins_61
    · skip
      refine lv_iconst (v := 1) hx hb dX6_coins_27 (by decide) ?_
      refine lv_goto (tgt := 32) hx hb dX6_coins_28 (by decide) ?_
      refine lv_istore_n (lv' := [(3, .int 1), (0, .ref (rt 51)), (1, .int (nI j)), (2, .int k)]) hx hb dX6_coins_32 rfl hl (by decide) rfl (fun ls hl => ?_)
      refine lv_iload_n hx hb dX6_coins_33 rfl (lv_at hl 3 rfl) ?_
      refine lv_if_eq (tgt := 62) hx hb dX6_coins_34 (by decide) (fun c_8 => ?_) (fun c_8 => ?_)
      · skip
        refine lv_iload_n hx hb dX6_coins_62 rfl (lv_at hl 0 rfl) ?_
        refine lv_if_eq (tgt := 76) hx hb dX6_coins_63 (by decide) (fun h9 => absurd h9 (by decide)) (fun _ => ?_)
        refine lv_aload_n hx hb dX6_coins_66 rfl (lv_at hl 1 rfl) ?_
        refine g_get (ci := 6) (v := .ref (rt 32)) (C := RX6) (T := TX6) (N := 51) hx hb hts uB6 hown hK hP (hC.1.1 51 (by decide)) F_m rfl 32 (by decide) wm_0 (hC.2.2.2 32 (by decide)) dX6_coins_67 ?_
        refine lv_iload_n hx hb dX6_coins_70 rfl (lv_at hl 2 rfl) ?_
        refine g_iald hx hb hK hP (hC.1.1 32 (by decide)) F_state (vp_in_nI (by omega) (by decide)) dX6_coins_71 ?_
        refine lv_topi (fun x_9 ex_9 => ?_)
        rw [nI_clamp (by omega)] at ex_9
        refine lv_iconst (v := 2) hx hb dX6_coins_72 (by decide) ?_
        refine lv_icmp_ne (tgt := 85) hx hb dX6_coins_73 (by decide) (fun c_10 => ?_) (fun c_10 => ?_)
        · skip
          refine lv_iconst (v := 0) hx hb dX6_coins_85 (by decide) ?_
          exact W.iret (v := 0) hx hb hr (fun t ht hW => ⟨⟨0, (), rfl, trivial, trivial⟩, hS.F ht⟩) hS.2.2 dX6_coins_86
        · skip
          refine lv_aload_n hx hb dX6_coins_76 rfl (lv_at hl 1 rfl) ?_
          refine g_get (ci := 6) (v := .ref (rt 31)) (C := RX6) (T := TX6) (N := 51) hx hb hts uB6 hown hK hP (hC.1.1 51 (by decide)) F_m rfl 31 (by decide) wm_3 (hC.2.2.2 31 (by decide)) dX6_coins_77 ?_
          refine lv_iload_n hx hb dX6_coins_80 rfl (lv_at hl 2 rfl) ?_
          refine g_iald hx hb hK hP (hC.1.1 31 (by decide)) F_price (vp_in_nI (by omega) (by decide)) dX6_coins_81 ?_
          refine lv_topi (fun x_11 ex_11 => ?_)
          rw [nI_clamp (by omega)] at ex_11
          refine lv_goto (tgt := 86) hx hb dX6_coins_82 (by decide) ?_
          exact W.iret (v := x_11) hx hb hr (fun t ht hW => ⟨⟨x_11, (), rfl, trivial, trivial⟩, hS.F ht⟩) hS.2.2 dX6_coins_86
      · skip
        refine lv_iload_n hx hb dX6_coins_37 rfl (lv_at hl 0 rfl) ?_
        refine lv_if_eq (tgt := 60) hx hb dX6_coins_38 (by decide) (fun h9 => absurd h9 (by decide)) (fun _ => ?_)
        refine lv_aload_n hx hb dX6_coins_41 rfl (lv_at hl 1 rfl) ?_
        refine g_get (ci := 6) (v := .ref (rt 32)) (C := RX6) (T := TX6) (N := 51) hx hb hts uB6 hown hK hP (hC.1.1 51 (by decide)) F_m rfl 32 (by decide) wm_0 (hC.2.2.2 32 (by decide)) dX6_coins_42 ?_
        refine lv_iload_n hx hb dX6_coins_45 rfl (lv_at hl 2 rfl) ?_
        refine g_iald hx hb hK hP (hC.1.1 32 (by decide)) F_state (vp_in_nI (by omega) (by decide)) dX6_coins_46 ?_
        refine lv_topi (fun x_12 ex_12 => ?_)
        rw [nI_clamp (by omega)] at ex_12
        refine lv_iconst (v := 1) hx hb dX6_coins_47 (by decide) ?_
        refine lv_icmp_ne (tgt := 60) hx hb dX6_coins_48 (by decide) (fun c_13 => ?_) (fun c_13 => ?_)
        · skip
          refine lv_iconst (v := 0) hx hb dX6_coins_60 (by decide) ?_
          exact W.iret (v := 0) hx hb hr (fun t ht hW => ⟨⟨0, (), rfl, trivial, trivial⟩, hS.F ht⟩) hS.2.2 dX6_coins_61
        · skip
          refine lv_aload_n hx hb dX6_coins_51 rfl (lv_at hl 1 rfl) ?_
          refine g_get (ci := 6) (v := .ref (rt 31)) (C := RX6) (T := TX6) (N := 51) hx hb hts uB6 hown hK hP (hC.1.1 51 (by decide)) F_m rfl 31 (by decide) wm_3 (hC.2.2.2 31 (by decide)) dX6_coins_52 ?_
          refine lv_iload_n hx hb dX6_coins_55 rfl (lv_at hl 2 rfl) ?_
          refine g_iald hx hb hK hP (hC.1.1 31 (by decide)) F_price (vp_in_nI (by omega) (by decide)) dX6_coins_56 ?_
          refine lv_topi (fun x_14 ex_14 => ?_)
          rw [nI_clamp (by omega)] at ex_14
          refine lv_goto (tgt := 61) hx hb dX6_coins_57 (by decide) ?_
          exact W.iret (v := x_14) hx hb hr (fun t ht hW => ⟨⟨x_14, (), rfl, trivial, trivial⟩, hS.F ht⟩) hS.2.2 dX6_coins_61
  · skip
    refine lv_iconst (v := 0) hx hb dX6_coins_10 (by decide) ?_
    exact W.iret (v := 0) hx hb hr (fun t ht hW => ⟨⟨0, (), rfl, trivial, trivial⟩, hS.F ht⟩) hS.2.2 dX6_coins_11
set_option maxHeartbeats 4000000 in
set_option maxRecDepth 100000 in
theorem m_sum (l : Launch) (dC : Nat → ClassId) (dI : Nat → Nat → Nat) (K : Nat → ClassId) (L : List Nat) (f : Nat → va_E) (rt : Nat → Nat) {fm : List Value} (hC : mC rt L f fm) {g_saleOf : Nat → Int32} (F_saleOf : f (rt 30) = .inl (K 0, 1000, .inl g_saleOf)) {g_saleTick : Nat → Int32} (F_saleTick : f (rt 26) = .inl (K 0, 1000, .inl g_saleTick)) {g_state : Nat → Int32} (F_state : f (rt 32) = .inl (K 0, 1000, .inl g_state)) {g_pays : Nat → Int32} (F_pays : f (rt 11) = .inl (K 0, 40, .inl g_pays)) {g_price : Nat → Int32} (F_price : f (rt 31) = .inl (K 0, 1000, .inl g_price)) {ns : Nat} (I_sales : fm[25]? = some (.int (nI ns))) (x : Int32) (y : Int32) (u : Int32) (v : Int32) (hns : ns ≤ 1000) (hso : ∀ j, j < ns → vp_in (g_saleOf j) 40) : gR l yX6_sum cX6_sum 7 .int 1 (dC, dI) K L f [.ref (rt 51), .int x, .int y, .int u, .int v] (fun _ => True) := by
  refine Met.ofW (cc := cX6_sum) (maxL := 7) (ret := some .int) (by decide) rfl ?_
  intro p e s m args below meth c s₁ B hml hv
  obtain ⟨rfl, hP, hK⟩ := hv
  have F_m := hC.2.1
  have hx := B.exec
  have hb := B.bytes
  have hr := B.returns
  have hlocks := B.notSynchronized
  have hts0 := atoms_spec (ws := Cond.code yX6_sum cX6_sum 7 (some .int) :: lw_B) B.pre
  have hts : ∀ w ∈ lw_B, w.before _ s = true := fun w h => hts0 w (List.mem_cons_of_mem _ h)
  have hown : s.vm.findClass RX6 = some m.cls := findClass_of_methodNamed B.named
  have hS : va_S (fun _ => False) s.heap s.heap [] := va_S.rf
  have hl := lv_entry ([.ref (rt 51), .int x, .int y, .int u, .int v]) (n := 7) (Nat.le_of_ble_eq_true rfl)
  rw [lg_entry_eq]
  generalize (lg_sl ([.ref (rt 51), .int x, .int y, .int u, .int v]) ++ List.replicate (7 - (lg_sl ([.ref (rt 51), .int x, .int y, .int u, .int v])).length) Slot.unset).toArray = ls at hl ⊢
  have hl : lv_has ls 7 [(0, .ref (rt 51)), (1, .int x), (2, .int y), (3, .int u), (4, .int v)] := hl
  refine lv_iconst (v := 0) hx hb dX6_sum_0 (by decide) ?_
  refine lv_istore (lv' := [(5, .int 0), (0, .ref (rt 51)), (1, .int x), (2, .int y), (3, .int u), (4, .int v)]) hx hb dX6_sum_1 hl (by decide) rfl (fun ls hl => ?_)
  refine lv_iconst (v := 0) hx hb dX6_sum_3 (by decide) ?_
  refine lv_istore (lv' := [(6, .int 0), (5, .int 0), (0, .ref (rt 51)), (1, .int x), (2, .int y), (3, .int u), (4, .int v)]) hx hb dX6_sum_4 hl (by decide) rfl (fun ls hl => ?_)
  refine k_lx (pcx := 90) (fun n H locs ls => ∃ (j : Nat) (acc : Int32), j + n = ns ∧ True ∧ va_P (dC, dI) vwCl (va_pl L f) H ∧ va_S (fun _ => False) s.heap H locs ∧ lv_has ls 7 [(0, .ref (rt 51)), (1, .int x), (2, .int y), (3, .int u), (4, .int v), (5, .int acc), (6, .int (nI j))]) (fun H locs ls => ∃ (j : Nat) (acc : Int32), j = ns ∧ True ∧ va_P (dC, dI) vwCl (va_pl L f) H ∧ va_S (fun _ => False) s.heap H locs ∧ lv_has ls 7 [(0, .ref (rt 51)), (1, .int x), (2, .int y), (3, .int u), (4, .int v), (5, .int acc), (6, .int (nI j))]) (fun H locs ls hI => ?_) (fun n H locs ls hI hE ih => ?_) ns _ _ _ ⟨0, _, by omega, trivial, hP, hS, lv_sub hl [2, 3, 4, 5, 6, 1, 0] rfl⟩
  · skip
    obtain ⟨j, acc, hj, hacc, hP, hS, hl⟩ := hI
    refine lv_iload hx hb dX6_sum_90 (lv_at hl 5 rfl) ?_
    exact W.iret (v := acc) hx hb hr (fun t ht hW => ⟨⟨acc, (), rfl, trivial, trivial⟩, hS.F ht⟩) hS.2.2 dX6_sum_92
  · skip
    obtain ⟨j, acc, hj, hacc, hP, hS, hl⟩ := hI
    refine lv_iload hx hb dX6_sum_6 (lv_at hl 6 rfl) ?_
    refine lv_aload_n hx hb dX6_sum_8 rfl (lv_at hl 0 rfl) ?_
    refine g_get (ci := 6) (v := .int (nI ns)) (C := RX6) (T := TX6) (N := 51) hx hb hts uB6 hown hK hP (hC.1.1 51 (by decide)) F_m rfl 25 (by decide) wm_4 I_sales dX6_sum_9 ?_
    refine lv_icmp_ge (tgt := 90) hx hb dX6_sum_12 (by decide) (fun c_1 => ?_) (fun c_1 => ?_)
    · skip
      have hjn : j = ns := by have := (nI_leI (a := ns) (b := j) (by omega) (by omega)).mp c_1; omega
      exact hE _ _ _ ⟨j, _, by omega, hacc, hP, hS, lv_sub hl [0, 1, 2, 3, 4, 5, 6] rfl⟩
    · skip
      have hjn : j < ns := by rcases Nat.lt_or_ge j ns with q | q; exact q; exact absurd (nI_le q (by omega)) c_1
      refine lv_aload_n hx hb dX6_sum_15 rfl (lv_at hl 0 rfl) ?_
      refine g_get (ci := 6) (v := .ref (rt 30)) (C := RX6) (T := TX6) (N := 51) hx hb hts uB6 hown hK hP (hC.1.1 51 (by decide)) F_m rfl 30 (by decide) wm_2 (hC.2.2.2 30 (by decide)) dX6_sum_16 ?_
      refine lv_iload hx hb dX6_sum_19 (lv_at hl 6 rfl) ?_
      refine g_iald hx hb hK hP (hC.1.1 30 (by decide)) F_saleOf (vp_in_nI (by omega) (by decide)) dX6_sum_21 ?_
      refine lv_topi (fun x_2 ex_2 => ?_)
      rw [nI_clamp (by omega)] at ex_2
      refine lv_iload_n hx hb dX6_sum_22 rfl (lv_at hl 1 rfl) ?_
      refine lv_icmp_ne (tgt := 84) hx hb dX6_sum_23 (by decide) (fun c_3 => ?_) (fun c_3 => ?_)
      · skip
        obtain ⟨x_4, ex_4⟩ : ∃ y : Int32, y = (nI j) + 1 := ⟨_, rfl⟩
        refine lv_iinc (v := x_4) (lv' := [(6, .int x_4), (0, .ref (rt 51)), (1, .int x), (2, .int y), (3, .int u), (4, .int v), (5, .int acc)]) hx hb dX6_sum_84 hl (k := 6) rfl (by rw [ex_4]; rfl) (by decide) rfl (fun ls hl => ?_)
        refine lv_goto (tgt := 6) hx hb dX6_sum_87 (by decide) ?_
        obtain rfl : x_4 = nI (j + 1) := ex_4.trans (nI_1 j)
        exact ih (n - 1) (by omega) _ _ _ ⟨j + 1, _, by omega, trivial, hP, hS, lv_sub hl [1, 2, 3, 4, 5, 6, 0] rfl⟩
      · skip
        refine lv_iload_n hx hb dX6_sum_26 rfl (lv_at hl 2 rfl) ?_
        refine lv_if_lt (tgt := 47) hx hb dX6_sum_27 (by decide) (fun c_5 => ?_) (fun c_5 => ?_)
        · skip
          refine lv_iload hx hb dX6_sum_47 (lv_at hl 5 rfl) ?_
          refine lv_iload_n hx hb dX6_sum_49 rfl (lv_at hl 3 rfl) ?_
          refine lv_if_eq (tgt := 63) hx hb dX6_sum_50 (by decide) (fun c_6 => ?_) (fun c_6 => ?_)
          · skip
            refine lv_iconst (v := 0) hx hb dX6_sum_63 (by decide) ?_
            refine lv_iload hx hb dX6_sum_64 (lv_at hl 4 rfl) ?_
            refine lv_if_eq (tgt := 79) hx hb dX6_sum_66 (by decide) (fun c_7 => ?_) (fun c_7 => ?_)
            · skip
              refine lv_iconst (v := 0) hx hb dX6_sum_79 (by decide) ?_
              refine lv_iadd hx hb dX6_sum_80 ?_
              refine lv_topi (fun x_8 ex_8 => ?_)
              obtain rfl : x_8 = 0 := ex_8.trans (by decide)
              refine lv_iadd hx hb dX6_sum_81 ?_
              refine lv_topi (fun x_9 ex_9 => ?_)
              refine lv_istore (lv' := [(5, .int x_9), (0, .ref (rt 51)), (1, .int x), (2, .int y), (3, .int u), (4, .int v), (6, .int (nI j))]) hx hb dX6_sum_82 hl (by decide) rfl (fun ls hl => ?_)
              obtain ⟨x_10, ex_10⟩ : ∃ y : Int32, y = (nI j) + 1 := ⟨_, rfl⟩
              refine lv_iinc (v := x_10) (lv' := [(6, .int x_10), (5, .int x_9), (0, .ref (rt 51)), (1, .int x), (2, .int y), (3, .int u), (4, .int v)]) hx hb dX6_sum_84 hl (k := 6) rfl (by rw [ex_10]; rfl) (by decide) rfl (fun ls hl => ?_)
              refine lv_goto (tgt := 6) hx hb dX6_sum_87 (by decide) ?_
              obtain rfl : x_10 = nI (j + 1) := ex_10.trans (nI_1 j)
              exact ih (n - 1) (by omega) _ _ _ ⟨j + 1, _, by omega, trivial, hP, hS, lv_sub hl [2, 3, 4, 5, 6, 1, 0] rfl⟩
            · skip
              refine lv_aload_n hx hb dX6_sum_69 rfl (lv_at hl 0 rfl) ?_
              refine lv_iload hx hb dX6_sum_70 (lv_at hl 6 rfl) ?_
              refine lv_iconst (v := 1) hx hb dX6_sum_72 (by decide) ?_
              refine gc_R (ci := 6) ⟨hx, hb, hml, hown, hts⟩ (m_coins l dC dI K L f rt hC F_state F_saleOf F_pays F_price j 1 hns hso (by omega)) 2 wm_5 wm_6 wm_7 wm_8 wm_9 (by decide +kernel) ⟨Nat.le_of_ble_eq_true rfl, Nat.le_of_ble_eq_true rfl⟩ hK rfl (hC.1.1 51 (by decide)) F_m rfl hl.1 rfl (Nat.le_of_ble_eq_true rfl) dX6_sum_73 ⟨Nat.le_of_ble_eq_true rfl, Nat.le_of_ble_eq_true rfl⟩ hS hP (fun r_11 H locs hpr_11 hP hS => ?_)
              refine lv_goto (tgt := 80) hx hb dX6_sum_76 (by decide) ?_
              refine lv_iadd hx hb dX6_sum_80 ?_
              refine lv_topi (fun x_12 ex_12 => ?_)
              refine lv_iadd hx hb dX6_sum_81 ?_
              refine lv_topi (fun x_13 ex_13 => ?_)
              refine lv_istore (lv' := [(5, .int x_13), (0, .ref (rt 51)), (1, .int x), (2, .int y), (3, .int u), (4, .int v), (6, .int (nI j))]) hx hb dX6_sum_82 hl (by decide) rfl (fun ls hl => ?_)
              obtain ⟨x_14, ex_14⟩ : ∃ y : Int32, y = (nI j) + 1 := ⟨_, rfl⟩
              refine lv_iinc (v := x_14) (lv' := [(6, .int x_14), (5, .int x_13), (0, .ref (rt 51)), (1, .int x), (2, .int y), (3, .int u), (4, .int v)]) hx hb dX6_sum_84 hl (k := 6) rfl (by rw [ex_14]; rfl) (by decide) rfl (fun ls hl => ?_)
              refine lv_goto (tgt := 6) hx hb dX6_sum_87 (by decide) ?_
              obtain rfl : x_14 = nI (j + 1) := ex_14.trans (nI_1 j)
              exact ih (n - 1) (by omega) _ _ _ ⟨j + 1, _, by omega, trivial, hP, hS, lv_sub hl [2, 3, 4, 5, 6, 1, 0] rfl⟩
          · skip
            refine lv_aload_n hx hb dX6_sum_53 rfl (lv_at hl 0 rfl) ?_
            refine lv_iload hx hb dX6_sum_54 (lv_at hl 6 rfl) ?_
            refine lv_iconst (v := 0) hx hb dX6_sum_56 (by decide) ?_
            refine gc_R (ci := 6) ⟨hx, hb, hml, hown, hts⟩ (m_coins l dC dI K L f rt hC F_state F_saleOf F_pays F_price j 0 hns hso (by omega)) 2 wm_5 wm_6 wm_7 wm_8 wm_9 (by decide +kernel) ⟨Nat.le_of_ble_eq_true rfl, Nat.le_of_ble_eq_true rfl⟩ hK rfl (hC.1.1 51 (by decide)) F_m rfl hl.1 rfl (Nat.le_of_ble_eq_true rfl) dX6_sum_57 ⟨Nat.le_of_ble_eq_true rfl, Nat.le_of_ble_eq_true rfl⟩ hS hP (fun r_15 H locs hpr_15 hP hS => ?_)
            refine lv_goto (tgt := 64) hx hb dX6_sum_60 (by decide) ?_
            refine lv_iload hx hb dX6_sum_64 (lv_at hl 4 rfl) ?_
            refine lv_if_eq (tgt := 79) hx hb dX6_sum_66 (by decide) (fun c_16 => ?_) (fun c_16 => ?_)
            · skip
              refine lv_iconst (v := 0) hx hb dX6_sum_79 (by decide) ?_
              refine lv_iadd hx hb dX6_sum_80 ?_
              refine lv_topi (fun x_17 ex_17 => ?_)
              refine lv_iadd hx hb dX6_sum_81 ?_
              refine lv_topi (fun x_18 ex_18 => ?_)
              refine lv_istore (lv' := [(5, .int x_18), (0, .ref (rt 51)), (1, .int x), (2, .int y), (3, .int u), (4, .int v), (6, .int (nI j))]) hx hb dX6_sum_82 hl (by decide) rfl (fun ls hl => ?_)
              obtain ⟨x_19, ex_19⟩ : ∃ y : Int32, y = (nI j) + 1 := ⟨_, rfl⟩
              refine lv_iinc (v := x_19) (lv' := [(6, .int x_19), (5, .int x_18), (0, .ref (rt 51)), (1, .int x), (2, .int y), (3, .int u), (4, .int v)]) hx hb dX6_sum_84 hl (k := 6) rfl (by rw [ex_19]; rfl) (by decide) rfl (fun ls hl => ?_)
              refine lv_goto (tgt := 6) hx hb dX6_sum_87 (by decide) ?_
              obtain rfl : x_19 = nI (j + 1) := ex_19.trans (nI_1 j)
              exact ih (n - 1) (by omega) _ _ _ ⟨j + 1, _, by omega, trivial, hP, hS, lv_sub hl [2, 3, 4, 5, 6, 1, 0] rfl⟩
            · skip
              refine lv_aload_n hx hb dX6_sum_69 rfl (lv_at hl 0 rfl) ?_
              refine lv_iload hx hb dX6_sum_70 (lv_at hl 6 rfl) ?_
              refine lv_iconst (v := 1) hx hb dX6_sum_72 (by decide) ?_
              refine gc_R (ci := 6) ⟨hx, hb, hml, hown, hts⟩ (m_coins l dC dI K L f rt hC F_state F_saleOf F_pays F_price j 1 hns hso (by omega)) 2 wm_5 wm_6 wm_7 wm_8 wm_9 (by decide +kernel) ⟨Nat.le_of_ble_eq_true rfl, Nat.le_of_ble_eq_true rfl⟩ hK rfl (hC.1.1 51 (by decide)) F_m rfl hl.1 rfl (Nat.le_of_ble_eq_true rfl) dX6_sum_73 ⟨Nat.le_of_ble_eq_true rfl, Nat.le_of_ble_eq_true rfl⟩ hS hP (fun r_20 H locs hpr_20 hP hS => ?_)
              refine lv_goto (tgt := 80) hx hb dX6_sum_76 (by decide) ?_
              refine lv_iadd hx hb dX6_sum_80 ?_
              refine lv_topi (fun x_21 ex_21 => ?_)
              refine lv_iadd hx hb dX6_sum_81 ?_
              refine lv_topi (fun x_22 ex_22 => ?_)
              refine lv_istore (lv' := [(5, .int x_22), (0, .ref (rt 51)), (1, .int x), (2, .int y), (3, .int u), (4, .int v), (6, .int (nI j))]) hx hb dX6_sum_82 hl (by decide) rfl (fun ls hl => ?_)
              obtain ⟨x_23, ex_23⟩ : ∃ y : Int32, y = (nI j) + 1 := ⟨_, rfl⟩
              refine lv_iinc (v := x_23) (lv' := [(6, .int x_23), (5, .int x_22), (0, .ref (rt 51)), (1, .int x), (2, .int y), (3, .int u), (4, .int v)]) hx hb dX6_sum_84 hl (k := 6) rfl (by rw [ex_23]; rfl) (by decide) rfl (fun ls hl => ?_)
              refine lv_goto (tgt := 6) hx hb dX6_sum_87 (by decide) ?_
              obtain rfl : x_23 = nI (j + 1) := ex_23.trans (nI_1 j)
              exact ih (n - 1) (by omega) _ _ _ ⟨j + 1, _, by omega, trivial, hP, hS, lv_sub hl [2, 3, 4, 5, 6, 1, 0] rfl⟩
        · skip
          refine lv_aload_n hx hb dX6_sum_30 rfl (lv_at hl 0 rfl) ?_
          refine g_get (ci := 6) (v := .ref (rt 26)) (C := RX6) (T := TX6) (N := 51) hx hb hts uB6 hown hK hP (hC.1.1 51 (by decide)) F_m rfl 26 (by decide) wm_10 (hC.2.2.2 26 (by decide)) dX6_sum_31 ?_
          refine lv_iload hx hb dX6_sum_34 (lv_at hl 6 rfl) ?_
          refine g_iald hx hb hK hP (hC.1.1 26 (by decide)) F_saleTick (vp_in_nI (by omega) (by decide)) dX6_sum_36 ?_
          refine lv_topi (fun x_24 ex_24 => ?_)
          rw [nI_clamp (by omega)] at ex_24
          refine lv_bipush (v := 100) hx hb dX6_sum_37 (by decide) ?_
          refine lv_idiv hx hb dX6_sum_39 (by decide) ?_
          refine lv_topi (fun x_25 ex_25 => ?_)
          refine lv_iload_n hx hb dX6_sum_40 rfl (lv_at hl 2 rfl) ?_
          refine lv_icmp_eq (tgt := 47) hx hb dX6_sum_41 (by decide) (fun c_26 => ?_) (fun c_26 => ?_)
          · skip
            refine lv_iload hx hb dX6_sum_47 (lv_at hl 5 rfl) ?_
            refine lv_iload_n hx hb dX6_sum_49 rfl (lv_at hl 3 rfl) ?_
            refine lv_if_eq (tgt := 63) hx hb dX6_sum_50 (by decide) (fun c_27 => ?_) (fun c_27 => ?_)
            · skip
              refine lv_iconst (v := 0) hx hb dX6_sum_63 (by decide) ?_
              refine lv_iload hx hb dX6_sum_64 (lv_at hl 4 rfl) ?_
              refine lv_if_eq (tgt := 79) hx hb dX6_sum_66 (by decide) (fun c_28 => ?_) (fun c_28 => ?_)
              · skip
                refine lv_iconst (v := 0) hx hb dX6_sum_79 (by decide) ?_
                refine lv_iadd hx hb dX6_sum_80 ?_
                refine lv_topi (fun x_29 ex_29 => ?_)
                obtain rfl : x_29 = 0 := ex_29.trans (by decide)
                refine lv_iadd hx hb dX6_sum_81 ?_
                refine lv_topi (fun x_30 ex_30 => ?_)
                refine lv_istore (lv' := [(5, .int x_30), (0, .ref (rt 51)), (1, .int x), (2, .int y), (3, .int u), (4, .int v), (6, .int (nI j))]) hx hb dX6_sum_82 hl (by decide) rfl (fun ls hl => ?_)
                obtain ⟨x_31, ex_31⟩ : ∃ y : Int32, y = (nI j) + 1 := ⟨_, rfl⟩
                refine lv_iinc (v := x_31) (lv' := [(6, .int x_31), (5, .int x_30), (0, .ref (rt 51)), (1, .int x), (2, .int y), (3, .int u), (4, .int v)]) hx hb dX6_sum_84 hl (k := 6) rfl (by rw [ex_31]; rfl) (by decide) rfl (fun ls hl => ?_)
                refine lv_goto (tgt := 6) hx hb dX6_sum_87 (by decide) ?_
                obtain rfl : x_31 = nI (j + 1) := ex_31.trans (nI_1 j)
                exact ih (n - 1) (by omega) _ _ _ ⟨j + 1, _, by omega, trivial, hP, hS, lv_sub hl [2, 3, 4, 5, 6, 1, 0] rfl⟩
              · skip
                refine lv_aload_n hx hb dX6_sum_69 rfl (lv_at hl 0 rfl) ?_
                refine lv_iload hx hb dX6_sum_70 (lv_at hl 6 rfl) ?_
                refine lv_iconst (v := 1) hx hb dX6_sum_72 (by decide) ?_
                refine gc_R (ci := 6) ⟨hx, hb, hml, hown, hts⟩ (m_coins l dC dI K L f rt hC F_state F_saleOf F_pays F_price j 1 hns hso (by omega)) 2 wm_5 wm_6 wm_7 wm_8 wm_9 (by decide +kernel) ⟨Nat.le_of_ble_eq_true rfl, Nat.le_of_ble_eq_true rfl⟩ hK rfl (hC.1.1 51 (by decide)) F_m rfl hl.1 rfl (Nat.le_of_ble_eq_true rfl) dX6_sum_73 ⟨Nat.le_of_ble_eq_true rfl, Nat.le_of_ble_eq_true rfl⟩ hS hP (fun r_32 H locs hpr_32 hP hS => ?_)
                refine lv_goto (tgt := 80) hx hb dX6_sum_76 (by decide) ?_
                refine lv_iadd hx hb dX6_sum_80 ?_
                refine lv_topi (fun x_33 ex_33 => ?_)
                refine lv_iadd hx hb dX6_sum_81 ?_
                refine lv_topi (fun x_34 ex_34 => ?_)
                refine lv_istore (lv' := [(5, .int x_34), (0, .ref (rt 51)), (1, .int x), (2, .int y), (3, .int u), (4, .int v), (6, .int (nI j))]) hx hb dX6_sum_82 hl (by decide) rfl (fun ls hl => ?_)
                obtain ⟨x_35, ex_35⟩ : ∃ y : Int32, y = (nI j) + 1 := ⟨_, rfl⟩
                refine lv_iinc (v := x_35) (lv' := [(6, .int x_35), (5, .int x_34), (0, .ref (rt 51)), (1, .int x), (2, .int y), (3, .int u), (4, .int v)]) hx hb dX6_sum_84 hl (k := 6) rfl (by rw [ex_35]; rfl) (by decide) rfl (fun ls hl => ?_)
                refine lv_goto (tgt := 6) hx hb dX6_sum_87 (by decide) ?_
                obtain rfl : x_35 = nI (j + 1) := ex_35.trans (nI_1 j)
                exact ih (n - 1) (by omega) _ _ _ ⟨j + 1, _, by omega, trivial, hP, hS, lv_sub hl [2, 3, 4, 5, 6, 1, 0] rfl⟩
            · skip
              refine lv_aload_n hx hb dX6_sum_53 rfl (lv_at hl 0 rfl) ?_
              refine lv_iload hx hb dX6_sum_54 (lv_at hl 6 rfl) ?_
              refine lv_iconst (v := 0) hx hb dX6_sum_56 (by decide) ?_
              refine gc_R (ci := 6) ⟨hx, hb, hml, hown, hts⟩ (m_coins l dC dI K L f rt hC F_state F_saleOf F_pays F_price j 0 hns hso (by omega)) 2 wm_5 wm_6 wm_7 wm_8 wm_9 (by decide +kernel) ⟨Nat.le_of_ble_eq_true rfl, Nat.le_of_ble_eq_true rfl⟩ hK rfl (hC.1.1 51 (by decide)) F_m rfl hl.1 rfl (Nat.le_of_ble_eq_true rfl) dX6_sum_57 ⟨Nat.le_of_ble_eq_true rfl, Nat.le_of_ble_eq_true rfl⟩ hS hP (fun r_36 H locs hpr_36 hP hS => ?_)
              refine lv_goto (tgt := 64) hx hb dX6_sum_60 (by decide) ?_
              refine lv_iload hx hb dX6_sum_64 (lv_at hl 4 rfl) ?_
              refine lv_if_eq (tgt := 79) hx hb dX6_sum_66 (by decide) (fun c_37 => ?_) (fun c_37 => ?_)
              · skip
                refine lv_iconst (v := 0) hx hb dX6_sum_79 (by decide) ?_
                refine lv_iadd hx hb dX6_sum_80 ?_
                refine lv_topi (fun x_38 ex_38 => ?_)
                refine lv_iadd hx hb dX6_sum_81 ?_
                refine lv_topi (fun x_39 ex_39 => ?_)
                refine lv_istore (lv' := [(5, .int x_39), (0, .ref (rt 51)), (1, .int x), (2, .int y), (3, .int u), (4, .int v), (6, .int (nI j))]) hx hb dX6_sum_82 hl (by decide) rfl (fun ls hl => ?_)
                obtain ⟨x_40, ex_40⟩ : ∃ y : Int32, y = (nI j) + 1 := ⟨_, rfl⟩
                refine lv_iinc (v := x_40) (lv' := [(6, .int x_40), (5, .int x_39), (0, .ref (rt 51)), (1, .int x), (2, .int y), (3, .int u), (4, .int v)]) hx hb dX6_sum_84 hl (k := 6) rfl (by rw [ex_40]; rfl) (by decide) rfl (fun ls hl => ?_)
                refine lv_goto (tgt := 6) hx hb dX6_sum_87 (by decide) ?_
                obtain rfl : x_40 = nI (j + 1) := ex_40.trans (nI_1 j)
                exact ih (n - 1) (by omega) _ _ _ ⟨j + 1, _, by omega, trivial, hP, hS, lv_sub hl [2, 3, 4, 5, 6, 1, 0] rfl⟩
              · skip
                refine lv_aload_n hx hb dX6_sum_69 rfl (lv_at hl 0 rfl) ?_
                refine lv_iload hx hb dX6_sum_70 (lv_at hl 6 rfl) ?_
                refine lv_iconst (v := 1) hx hb dX6_sum_72 (by decide) ?_
                refine gc_R (ci := 6) ⟨hx, hb, hml, hown, hts⟩ (m_coins l dC dI K L f rt hC F_state F_saleOf F_pays F_price j 1 hns hso (by omega)) 2 wm_5 wm_6 wm_7 wm_8 wm_9 (by decide +kernel) ⟨Nat.le_of_ble_eq_true rfl, Nat.le_of_ble_eq_true rfl⟩ hK rfl (hC.1.1 51 (by decide)) F_m rfl hl.1 rfl (Nat.le_of_ble_eq_true rfl) dX6_sum_73 ⟨Nat.le_of_ble_eq_true rfl, Nat.le_of_ble_eq_true rfl⟩ hS hP (fun r_41 H locs hpr_41 hP hS => ?_)
                refine lv_goto (tgt := 80) hx hb dX6_sum_76 (by decide) ?_
                refine lv_iadd hx hb dX6_sum_80 ?_
                refine lv_topi (fun x_42 ex_42 => ?_)
                refine lv_iadd hx hb dX6_sum_81 ?_
                refine lv_topi (fun x_43 ex_43 => ?_)
                refine lv_istore (lv' := [(5, .int x_43), (0, .ref (rt 51)), (1, .int x), (2, .int y), (3, .int u), (4, .int v), (6, .int (nI j))]) hx hb dX6_sum_82 hl (by decide) rfl (fun ls hl => ?_)
                obtain ⟨x_44, ex_44⟩ : ∃ y : Int32, y = (nI j) + 1 := ⟨_, rfl⟩
                refine lv_iinc (v := x_44) (lv' := [(6, .int x_44), (5, .int x_43), (0, .ref (rt 51)), (1, .int x), (2, .int y), (3, .int u), (4, .int v)]) hx hb dX6_sum_84 hl (k := 6) rfl (by rw [ex_44]; rfl) (by decide) rfl (fun ls hl => ?_)
                refine lv_goto (tgt := 6) hx hb dX6_sum_87 (by decide) ?_
                obtain rfl : x_44 = nI (j + 1) := ex_44.trans (nI_1 j)
                exact ih (n - 1) (by omega) _ _ _ ⟨j + 1, _, by omega, trivial, hP, hS, lv_sub hl [2, 3, 4, 5, 6, 1, 0] rfl⟩
          · skip
            refine lv_goto (tgt := 84) hx hb dX6_sum_44 (by decide) ?_
            obtain ⟨x_45, ex_45⟩ : ∃ y : Int32, y = (nI j) + 1 := ⟨_, rfl⟩
            refine lv_iinc (v := x_45) (lv' := [(6, .int x_45), (0, .ref (rt 51)), (1, .int x), (2, .int y), (3, .int u), (4, .int v), (5, .int acc)]) hx hb dX6_sum_84 hl (k := 6) rfl (by rw [ex_45]; rfl) (by decide) rfl (fun ls hl => ?_)
            refine lv_goto (tgt := 6) hx hb dX6_sum_87 (by decide) ?_
            obtain rfl : x_45 = nI (j + 1) := ex_45.trans (nI_1 j)
            exact ih (n - 1) (by omega) _ _ _ ⟨j + 1, _, by omega, trivial, hP, hS, lv_sub hl [1, 2, 3, 4, 5, 6, 0] rfl⟩
set_option maxHeartbeats 4000000 in
set_option maxRecDepth 100000 in
theorem m_showings (l : Launch) (dC : Nat → ClassId) (dI : Nat → Nat → Nat) (K : Nat → ClassId) (L : List Nat) (f : Nat → va_E) (rt : Nat → Nat) {fm : List Value} (hC : mC rt L f fm) {g_saleOf : Nat → Int32} (F_saleOf : f (rt 30) = .inl (K 0, 1000, .inl g_saleOf)) {g_state : Nat → Int32} (F_state : f (rt 32) = .inl (K 0, 1000, .inl g_state)) {g_saleTick : Nat → Int32} (F_saleTick : f (rt 26) = .inl (K 0, 1000, .inl g_saleTick)) {ns : Nat} (I_sales : fm[25]? = some (.int (nI ns))) (x : Int32) (y : Int32) (hns : ns ≤ 1000) : gR l yX6_showings cX6_showings 5 .int 0 (dC, dI) K L f [.ref (rt 51), .int x, .int y] (fun r => ∃ q : Nat, q ≤ ns ∧ r = nI q) := by
  refine Met.ofW (cc := cX6_showings) (maxL := 5) (ret := some .int) (by decide) rfl ?_
  intro p e s m args below meth c s₁ B hml hv
  obtain ⟨rfl, hP, hK⟩ := hv
  have F_m := hC.2.1
  have hx := B.exec
  have hb := B.bytes
  have hr := B.returns
  have hlocks := B.notSynchronized
  have hts0 := atoms_spec (ws := Cond.code yX6_showings cX6_showings 5 (some .int) :: lw_B) B.pre
  have hts : ∀ w ∈ lw_B, w.before _ s = true := fun w h => hts0 w (List.mem_cons_of_mem _ h)
  have hown : s.vm.findClass RX6 = some m.cls := findClass_of_methodNamed B.named
  have hS : va_S (fun _ => False) s.heap s.heap [] := va_S.rf
  have hl := lv_entry ([.ref (rt 51), .int x, .int y]) (n := 5) (Nat.le_of_ble_eq_true rfl)
  rw [lg_entry_eq]
  generalize (lg_sl ([.ref (rt 51), .int x, .int y]) ++ List.replicate (5 - (lg_sl ([.ref (rt 51), .int x, .int y])).length) Slot.unset).toArray = ls at hl ⊢
  have hl : lv_has ls 5 [(0, .ref (rt 51)), (1, .int x), (2, .int y)] := hl
  refine lv_iconst (v := 0) hx hb dX6_showings_0 (by decide) ?_
  refine lv_istore_n (lv' := [(3, .int 0), (0, .ref (rt 51)), (1, .int x), (2, .int y)]) hx hb dX6_showings_1 rfl hl (by decide) rfl (fun ls hl => ?_)
  refine lv_iconst (v := 0) hx hb dX6_showings_2 (by decide) ?_
  refine lv_istore (lv' := [(4, .int 0), (3, .int 0), (0, .ref (rt 51)), (1, .int x), (2, .int y)]) hx hb dX6_showings_3 hl (by decide) rfl (fun ls hl => ?_)
  refine k_lx (pcx := 61) (fun n H locs ls => ∃ (j : Nat) (acc : Int32), j + n = ns ∧ (∃ q : Nat, q ≤ j ∧ acc = nI q) ∧ va_P (dC, dI) vwCl (va_pl L f) H ∧ va_S (fun _ => False) s.heap H locs ∧ lv_has ls 5 [(0, .ref (rt 51)), (1, .int x), (2, .int y), (3, .int acc), (4, .int (nI j))]) (fun H locs ls => ∃ (j : Nat) (acc : Int32), j = ns ∧ (∃ q : Nat, q ≤ j ∧ acc = nI q) ∧ va_P (dC, dI) vwCl (va_pl L f) H ∧ va_S (fun _ => False) s.heap H locs ∧ lv_has ls 5 [(0, .ref (rt 51)), (1, .int x), (2, .int y), (3, .int acc), (4, .int (nI j))]) (fun H locs ls hI => ?_) (fun n H locs ls hI hE ih => ?_) ns _ _ _ ⟨0, _, by omega, ⟨0, Nat.le_refl _, rfl⟩, hP, hS, lv_sub hl [2, 3, 4, 1, 0] rfl⟩
  · skip
    obtain ⟨j, acc, hj, hacc, hP, hS, hl⟩ := hI
    refine lv_iload_n hx hb dX6_showings_61 rfl (lv_at hl 3 rfl) ?_
    exact W.iret (v := acc) hx hb hr (fun t ht hW => ⟨⟨acc, (), rfl, by obtain ⟨q, hq1, hq2⟩ := hacc; exact ⟨q, by omega, hq2⟩, trivial⟩, hS.F ht⟩) hS.2.2 dX6_showings_62
  · skip
    obtain ⟨j, acc, hj, hacc, hP, hS, hl⟩ := hI
    refine lv_iload hx hb dX6_showings_5 (lv_at hl 4 rfl) ?_
    refine lv_aload_n hx hb dX6_showings_7 rfl (lv_at hl 0 rfl) ?_
    refine g_get (ci := 6) (v := .int (nI ns)) (C := RX6) (T := TX6) (N := 51) hx hb hts uB6 hown hK hP (hC.1.1 51 (by decide)) F_m rfl 25 (by decide) wm_4 I_sales dX6_showings_8 ?_
    refine lv_icmp_ge (tgt := 61) hx hb dX6_showings_11 (by decide) (fun c_1 => ?_) (fun c_1 => ?_)
    · skip
      have hjn : j = ns := by have := (nI_leI (a := ns) (b := j) (by omega) (by omega)).mp c_1; omega
      exact hE _ _ _ ⟨j, _, by omega, hacc, hP, hS, lv_sub hl [0, 1, 2, 3, 4] rfl⟩
    · skip
      have hjn : j < ns := by rcases Nat.lt_or_ge j ns with q | q; exact q; exact absurd (nI_le q (by omega)) c_1
      refine lv_iload_n hx hb dX6_showings_14 rfl (lv_at hl 3 rfl) ?_
      refine lv_aload_n hx hb dX6_showings_15 rfl (lv_at hl 0 rfl) ?_
      refine g_get (ci := 6) (v := .ref (rt 30)) (C := RX6) (T := TX6) (N := 51) hx hb hts uB6 hown hK hP (hC.1.1 51 (by decide)) F_m rfl 30 (by decide) wm_2 (hC.2.2.2 30 (by decide)) dX6_showings_16 ?_
      refine lv_iload hx hb dX6_showings_19 (lv_at hl 4 rfl) ?_
      refine g_iald hx hb hK hP (hC.1.1 30 (by decide)) F_saleOf (vp_in_nI (by omega) (by decide)) dX6_showings_21 ?_
      refine lv_topi (fun x_2 ex_2 => ?_)
      rw [nI_clamp (by omega)] at ex_2
      refine lv_iload_n hx hb dX6_showings_22 rfl (lv_at hl 1 rfl) ?_
      refine lv_icmp_ne (tgt := 52) hx hb dX6_showings_23 (by decide) (fun c_3 => ?_) (fun c_3 => ?_)
      · skip
        refine lv_iconst (v := 0) hx hb dX6_showings_52 (by decide) ?_
        refine lv_iadd hx hb dX6_showings_53 ?_
        refine lv_topi (fun x_4 ex_4 => ?_)
        refine lv_istore_n (lv' := [(3, .int x_4), (0, .ref (rt 51)), (1, .int x), (2, .int y), (4, .int (nI j))]) hx hb dX6_showings_54 rfl hl (by decide) rfl (fun ls hl => ?_)
        obtain ⟨x_5, ex_5⟩ : ∃ y : Int32, y = (nI j) + 1 := ⟨_, rfl⟩
        refine lv_iinc (v := x_5) (lv' := [(4, .int x_5), (3, .int x_4), (0, .ref (rt 51)), (1, .int x), (2, .int y)]) hx hb dX6_showings_55 hl (k := 4) rfl (by rw [ex_5]; rfl) (by decide) rfl (fun ls hl => ?_)
        refine lv_goto (tgt := 5) hx hb dX6_showings_58 (by decide) ?_
        obtain rfl : x_5 = nI (j + 1) := ex_5.trans (nI_1 j)
        exact ih (n - 1) (by omega) _ _ _ ⟨j + 1, _, by omega, acc_next hacc (by first | exact Or.inl ex_4 | exact Or.inr ex_4), hP, hS, lv_sub hl [2, 3, 4, 1, 0] rfl⟩
      · skip
        refine lv_aload_n hx hb dX6_showings_26 rfl (lv_at hl 0 rfl) ?_
        refine g_get (ci := 6) (v := .ref (rt 32)) (C := RX6) (T := TX6) (N := 51) hx hb hts uB6 hown hK hP (hC.1.1 51 (by decide)) F_m rfl 32 (by decide) wm_0 (hC.2.2.2 32 (by decide)) dX6_showings_27 ?_
        refine lv_iload hx hb dX6_showings_30 (lv_at hl 4 rfl) ?_
        refine g_iald hx hb hK hP (hC.1.1 32 (by decide)) F_state (vp_in_nI (by omega) (by decide)) dX6_showings_32 ?_
        refine lv_topi (fun x_6 ex_6 => ?_)
        rw [nI_clamp (by omega)] at ex_6
        refine lv_iconst (v := 3) hx hb dX6_showings_33 (by decide) ?_
        refine lv_icmp_eq (tgt := 52) hx hb dX6_showings_34 (by decide) (fun c_7 => ?_) (fun c_7 => ?_)
        · skip
          refine lv_iconst (v := 0) hx hb dX6_showings_52 (by decide) ?_
          refine lv_iadd hx hb dX6_showings_53 ?_
          refine lv_topi (fun x_8 ex_8 => ?_)
          refine lv_istore_n (lv' := [(3, .int x_8), (0, .ref (rt 51)), (1, .int x), (2, .int y), (4, .int (nI j))]) hx hb dX6_showings_54 rfl hl (by decide) rfl (fun ls hl => ?_)
          obtain ⟨x_9, ex_9⟩ : ∃ y : Int32, y = (nI j) + 1 := ⟨_, rfl⟩
          refine lv_iinc (v := x_9) (lv' := [(4, .int x_9), (3, .int x_8), (0, .ref (rt 51)), (1, .int x), (2, .int y)]) hx hb dX6_showings_55 hl (k := 4) rfl (by rw [ex_9]; rfl) (by decide) rfl (fun ls hl => ?_)
          refine lv_goto (tgt := 5) hx hb dX6_showings_58 (by decide) ?_
          obtain rfl : x_9 = nI (j + 1) := ex_9.trans (nI_1 j)
          exact ih (n - 1) (by omega) _ _ _ ⟨j + 1, _, by omega, acc_next hacc (by first | exact Or.inl ex_8 | exact Or.inr ex_8), hP, hS, lv_sub hl [2, 3, 4, 1, 0] rfl⟩
        · skip
          refine lv_aload_n hx hb dX6_showings_37 rfl (lv_at hl 0 rfl) ?_
          refine g_get (ci := 6) (v := .ref (rt 26)) (C := RX6) (T := TX6) (N := 51) hx hb hts uB6 hown hK hP (hC.1.1 51 (by decide)) F_m rfl 26 (by decide) wm_10 (hC.2.2.2 26 (by decide)) dX6_showings_38 ?_
          refine lv_iload hx hb dX6_showings_41 (lv_at hl 4 rfl) ?_
          refine g_iald hx hb hK hP (hC.1.1 26 (by decide)) F_saleTick (vp_in_nI (by omega) (by decide)) dX6_showings_43 ?_
          refine lv_topi (fun x_10 ex_10 => ?_)
          rw [nI_clamp (by omega)] at ex_10
          refine lv_iload_n hx hb dX6_showings_44 rfl (lv_at hl 2 rfl) ?_
          refine lv_icmp_ge (tgt := 52) hx hb dX6_showings_45 (by decide) (fun c_11 => ?_) (fun c_11 => ?_)
          · skip
            refine lv_iconst (v := 0) hx hb dX6_showings_52 (by decide) ?_
            refine lv_iadd hx hb dX6_showings_53 ?_
            refine lv_topi (fun x_12 ex_12 => ?_)
            refine lv_istore_n (lv' := [(3, .int x_12), (0, .ref (rt 51)), (1, .int x), (2, .int y), (4, .int (nI j))]) hx hb dX6_showings_54 rfl hl (by decide) rfl (fun ls hl => ?_)
            obtain ⟨x_13, ex_13⟩ : ∃ y : Int32, y = (nI j) + 1 := ⟨_, rfl⟩
            refine lv_iinc (v := x_13) (lv' := [(4, .int x_13), (3, .int x_12), (0, .ref (rt 51)), (1, .int x), (2, .int y)]) hx hb dX6_showings_55 hl (k := 4) rfl (by rw [ex_13]; rfl) (by decide) rfl (fun ls hl => ?_)
            refine lv_goto (tgt := 5) hx hb dX6_showings_58 (by decide) ?_
            obtain rfl : x_13 = nI (j + 1) := ex_13.trans (nI_1 j)
            exact ih (n - 1) (by omega) _ _ _ ⟨j + 1, _, by omega, acc_next hacc (by first | exact Or.inl ex_12 | exact Or.inr ex_12), hP, hS, lv_sub hl [2, 3, 4, 1, 0] rfl⟩
          · skip
            refine lv_iconst (v := 1) hx hb dX6_showings_48 (by decide) ?_
            refine lv_goto (tgt := 53) hx hb dX6_showings_49 (by decide) ?_
            refine lv_iadd hx hb dX6_showings_53 ?_
            refine lv_topi (fun x_14 ex_14 => ?_)
            refine lv_istore_n (lv' := [(3, .int x_14), (0, .ref (rt 51)), (1, .int x), (2, .int y), (4, .int (nI j))]) hx hb dX6_showings_54 rfl hl (by decide) rfl (fun ls hl => ?_)
            obtain ⟨x_15, ex_15⟩ : ∃ y : Int32, y = (nI j) + 1 := ⟨_, rfl⟩
            refine lv_iinc (v := x_15) (lv' := [(4, .int x_15), (3, .int x_14), (0, .ref (rt 51)), (1, .int x), (2, .int y)]) hx hb dX6_showings_55 hl (k := 4) rfl (by rw [ex_15]; rfl) (by decide) rfl (fun ls hl => ?_)
            refine lv_goto (tgt := 5) hx hb dX6_showings_58 (by decide) ?_
            obtain rfl : x_15 = nI (j + 1) := ex_15.trans (nI_1 j)
            exact ih (n - 1) (by omega) _ _ _ ⟨j + 1, _, by omega, acc_next hacc (by first | exact Or.inl ex_14 | exact Or.inr ex_14), hP, hS, lv_sub hl [2, 3, 4, 1, 0] rfl⟩
set_option maxHeartbeats 4000000 in
set_option maxRecDepth 100000 in
theorem m_presses (l : Launch) (dC : Nat → ClassId) (dI : Nat → Nat → Nat) (K : Nat → ClassId) (L : List Nat) (f : Nat → va_E) (rt : Nat → Nat) {fm : List Value} (hC : mC rt L f fm) {g_saleOf : Nat → Int32} (F_saleOf : f (rt 30) = .inl (K 0, 1000, .inl g_saleOf)) {g_state : Nat → Int32} (F_state : f (rt 32) = .inl (K 0, 1000, .inl g_state)) {g_pressTick : Nat → Int32} (F_pressTick : f (rt 34) = .inl (K 0, 1000, .inl g_pressTick)) {ns : Nat} (I_sales : fm[25]? = some (.int (nI ns))) (x : Int32) (y : Int32) (hns : ns ≤ 1000) : gR l yX6_presses cX6_presses 5 .int 0 (dC, dI) K L f [.ref (rt 51), .int x, .int y] (fun r => ∃ q : Nat, q ≤ ns ∧ r = nI q) := by
  refine Met.ofW (cc := cX6_presses) (maxL := 5) (ret := some .int) (by decide) rfl ?_
  intro p e s m args below meth c s₁ B hml hv
  obtain ⟨rfl, hP, hK⟩ := hv
  have F_m := hC.2.1
  have hx := B.exec
  have hb := B.bytes
  have hr := B.returns
  have hlocks := B.notSynchronized
  have hts0 := atoms_spec (ws := Cond.code yX6_presses cX6_presses 5 (some .int) :: lw_B) B.pre
  have hts : ∀ w ∈ lw_B, w.before _ s = true := fun w h => hts0 w (List.mem_cons_of_mem _ h)
  have hown : s.vm.findClass RX6 = some m.cls := findClass_of_methodNamed B.named
  have hS : va_S (fun _ => False) s.heap s.heap [] := va_S.rf
  have hl := lv_entry ([.ref (rt 51), .int x, .int y]) (n := 5) (Nat.le_of_ble_eq_true rfl)
  rw [lg_entry_eq]
  generalize (lg_sl ([.ref (rt 51), .int x, .int y]) ++ List.replicate (5 - (lg_sl ([.ref (rt 51), .int x, .int y])).length) Slot.unset).toArray = ls at hl ⊢
  have hl : lv_has ls 5 [(0, .ref (rt 51)), (1, .int x), (2, .int y)] := hl
  refine lv_iconst (v := 0) hx hb dX6_presses_0 (by decide) ?_
  refine lv_istore_n (lv' := [(3, .int 0), (0, .ref (rt 51)), (1, .int x), (2, .int y)]) hx hb dX6_presses_1 rfl hl (by decide) rfl (fun ls hl => ?_)
  refine lv_iconst (v := 0) hx hb dX6_presses_2 (by decide) ?_
  refine lv_istore (lv' := [(4, .int 0), (3, .int 0), (0, .ref (rt 51)), (1, .int x), (2, .int y)]) hx hb dX6_presses_3 hl (by decide) rfl (fun ls hl => ?_)
  refine k_lx (pcx := 61) (fun n H locs ls => ∃ (j : Nat) (acc : Int32), j + n = ns ∧ (∃ q : Nat, q ≤ j ∧ acc = nI q) ∧ va_P (dC, dI) vwCl (va_pl L f) H ∧ va_S (fun _ => False) s.heap H locs ∧ lv_has ls 5 [(0, .ref (rt 51)), (1, .int x), (2, .int y), (3, .int acc), (4, .int (nI j))]) (fun H locs ls => ∃ (j : Nat) (acc : Int32), j = ns ∧ (∃ q : Nat, q ≤ j ∧ acc = nI q) ∧ va_P (dC, dI) vwCl (va_pl L f) H ∧ va_S (fun _ => False) s.heap H locs ∧ lv_has ls 5 [(0, .ref (rt 51)), (1, .int x), (2, .int y), (3, .int acc), (4, .int (nI j))]) (fun H locs ls hI => ?_) (fun n H locs ls hI hE ih => ?_) ns _ _ _ ⟨0, _, by omega, ⟨0, Nat.le_refl _, rfl⟩, hP, hS, lv_sub hl [2, 3, 4, 1, 0] rfl⟩
  · skip
    obtain ⟨j, acc, hj, hacc, hP, hS, hl⟩ := hI
    refine lv_iload_n hx hb dX6_presses_61 rfl (lv_at hl 3 rfl) ?_
    exact W.iret (v := acc) hx hb hr (fun t ht hW => ⟨⟨acc, (), rfl, by obtain ⟨q, hq1, hq2⟩ := hacc; exact ⟨q, by omega, hq2⟩, trivial⟩, hS.F ht⟩) hS.2.2 dX6_presses_62
  · skip
    obtain ⟨j, acc, hj, hacc, hP, hS, hl⟩ := hI
    refine lv_iload hx hb dX6_presses_5 (lv_at hl 4 rfl) ?_
    refine lv_aload_n hx hb dX6_presses_7 rfl (lv_at hl 0 rfl) ?_
    refine g_get (ci := 6) (v := .int (nI ns)) (C := RX6) (T := TX6) (N := 51) hx hb hts uB6 hown hK hP (hC.1.1 51 (by decide)) F_m rfl 25 (by decide) wm_4 I_sales dX6_presses_8 ?_
    refine lv_icmp_ge (tgt := 61) hx hb dX6_presses_11 (by decide) (fun c_1 => ?_) (fun c_1 => ?_)
    · skip
      have hjn : j = ns := by have := (nI_leI (a := ns) (b := j) (by omega) (by omega)).mp c_1; omega
      exact hE _ _ _ ⟨j, _, by omega, hacc, hP, hS, lv_sub hl [0, 1, 2, 3, 4] rfl⟩
    · skip
      have hjn : j < ns := by rcases Nat.lt_or_ge j ns with q | q; exact q; exact absurd (nI_le q (by omega)) c_1
      refine lv_iload_n hx hb dX6_presses_14 rfl (lv_at hl 3 rfl) ?_
      refine lv_aload_n hx hb dX6_presses_15 rfl (lv_at hl 0 rfl) ?_
      refine g_get (ci := 6) (v := .ref (rt 30)) (C := RX6) (T := TX6) (N := 51) hx hb hts uB6 hown hK hP (hC.1.1 51 (by decide)) F_m rfl 30 (by decide) wm_2 (hC.2.2.2 30 (by decide)) dX6_presses_16 ?_
      refine lv_iload hx hb dX6_presses_19 (lv_at hl 4 rfl) ?_
      refine g_iald hx hb hK hP (hC.1.1 30 (by decide)) F_saleOf (vp_in_nI (by omega) (by decide)) dX6_presses_21 ?_
      refine lv_topi (fun x_2 ex_2 => ?_)
      rw [nI_clamp (by omega)] at ex_2
      refine lv_iload_n hx hb dX6_presses_22 rfl (lv_at hl 1 rfl) ?_
      refine lv_icmp_ne (tgt := 52) hx hb dX6_presses_23 (by decide) (fun c_3 => ?_) (fun c_3 => ?_)
      · skip
        refine lv_iconst (v := 0) hx hb dX6_presses_52 (by decide) ?_
        refine lv_iadd hx hb dX6_presses_53 ?_
        refine lv_topi (fun x_4 ex_4 => ?_)
        refine lv_istore_n (lv' := [(3, .int x_4), (0, .ref (rt 51)), (1, .int x), (2, .int y), (4, .int (nI j))]) hx hb dX6_presses_54 rfl hl (by decide) rfl (fun ls hl => ?_)
        obtain ⟨x_5, ex_5⟩ : ∃ y : Int32, y = (nI j) + 1 := ⟨_, rfl⟩
        refine lv_iinc (v := x_5) (lv' := [(4, .int x_5), (3, .int x_4), (0, .ref (rt 51)), (1, .int x), (2, .int y)]) hx hb dX6_presses_55 hl (k := 4) rfl (by rw [ex_5]; rfl) (by decide) rfl (fun ls hl => ?_)
        refine lv_goto (tgt := 5) hx hb dX6_presses_58 (by decide) ?_
        obtain rfl : x_5 = nI (j + 1) := ex_5.trans (nI_1 j)
        exact ih (n - 1) (by omega) _ _ _ ⟨j + 1, _, by omega, acc_next hacc (by first | exact Or.inl ex_4 | exact Or.inr ex_4), hP, hS, lv_sub hl [2, 3, 4, 1, 0] rfl⟩
      · skip
        refine lv_aload_n hx hb dX6_presses_26 rfl (lv_at hl 0 rfl) ?_
        refine g_get (ci := 6) (v := .ref (rt 32)) (C := RX6) (T := TX6) (N := 51) hx hb hts uB6 hown hK hP (hC.1.1 51 (by decide)) F_m rfl 32 (by decide) wm_0 (hC.2.2.2 32 (by decide)) dX6_presses_27 ?_
        refine lv_iload hx hb dX6_presses_30 (lv_at hl 4 rfl) ?_
        refine g_iald hx hb hK hP (hC.1.1 32 (by decide)) F_state (vp_in_nI (by omega) (by decide)) dX6_presses_32 ?_
        refine lv_topi (fun x_6 ex_6 => ?_)
        rw [nI_clamp (by omega)] at ex_6
        refine lv_iconst (v := 2) hx hb dX6_presses_33 (by decide) ?_
        refine lv_icmp_ne (tgt := 52) hx hb dX6_presses_34 (by decide) (fun c_7 => ?_) (fun c_7 => ?_)
        · skip
          refine lv_iconst (v := 0) hx hb dX6_presses_52 (by decide) ?_
          refine lv_iadd hx hb dX6_presses_53 ?_
          refine lv_topi (fun x_8 ex_8 => ?_)
          refine lv_istore_n (lv' := [(3, .int x_8), (0, .ref (rt 51)), (1, .int x), (2, .int y), (4, .int (nI j))]) hx hb dX6_presses_54 rfl hl (by decide) rfl (fun ls hl => ?_)
          obtain ⟨x_9, ex_9⟩ : ∃ y : Int32, y = (nI j) + 1 := ⟨_, rfl⟩
          refine lv_iinc (v := x_9) (lv' := [(4, .int x_9), (3, .int x_8), (0, .ref (rt 51)), (1, .int x), (2, .int y)]) hx hb dX6_presses_55 hl (k := 4) rfl (by rw [ex_9]; rfl) (by decide) rfl (fun ls hl => ?_)
          refine lv_goto (tgt := 5) hx hb dX6_presses_58 (by decide) ?_
          obtain rfl : x_9 = nI (j + 1) := ex_9.trans (nI_1 j)
          exact ih (n - 1) (by omega) _ _ _ ⟨j + 1, _, by omega, acc_next hacc (by first | exact Or.inl ex_8 | exact Or.inr ex_8), hP, hS, lv_sub hl [2, 3, 4, 1, 0] rfl⟩
        · skip
          refine lv_aload_n hx hb dX6_presses_37 rfl (lv_at hl 0 rfl) ?_
          refine g_get (ci := 6) (v := .ref (rt 34)) (C := RX6) (T := TX6) (N := 51) hx hb hts uB6 hown hK hP (hC.1.1 51 (by decide)) F_m rfl 34 (by decide) wm_11 (hC.2.2.2 34 (by decide)) dX6_presses_38 ?_
          refine lv_iload hx hb dX6_presses_41 (lv_at hl 4 rfl) ?_
          refine g_iald hx hb hK hP (hC.1.1 34 (by decide)) F_pressTick (vp_in_nI (by omega) (by decide)) dX6_presses_43 ?_
          refine lv_topi (fun x_10 ex_10 => ?_)
          rw [nI_clamp (by omega)] at ex_10
          refine lv_iload_n hx hb dX6_presses_44 rfl (lv_at hl 2 rfl) ?_
          refine lv_icmp_ge (tgt := 52) hx hb dX6_presses_45 (by decide) (fun c_11 => ?_) (fun c_11 => ?_)
          · skip
            refine lv_iconst (v := 0) hx hb dX6_presses_52 (by decide) ?_
            refine lv_iadd hx hb dX6_presses_53 ?_
            refine lv_topi (fun x_12 ex_12 => ?_)
            refine lv_istore_n (lv' := [(3, .int x_12), (0, .ref (rt 51)), (1, .int x), (2, .int y), (4, .int (nI j))]) hx hb dX6_presses_54 rfl hl (by decide) rfl (fun ls hl => ?_)
            obtain ⟨x_13, ex_13⟩ : ∃ y : Int32, y = (nI j) + 1 := ⟨_, rfl⟩
            refine lv_iinc (v := x_13) (lv' := [(4, .int x_13), (3, .int x_12), (0, .ref (rt 51)), (1, .int x), (2, .int y)]) hx hb dX6_presses_55 hl (k := 4) rfl (by rw [ex_13]; rfl) (by decide) rfl (fun ls hl => ?_)
            refine lv_goto (tgt := 5) hx hb dX6_presses_58 (by decide) ?_
            obtain rfl : x_13 = nI (j + 1) := ex_13.trans (nI_1 j)
            exact ih (n - 1) (by omega) _ _ _ ⟨j + 1, _, by omega, acc_next hacc (by first | exact Or.inl ex_12 | exact Or.inr ex_12), hP, hS, lv_sub hl [2, 3, 4, 1, 0] rfl⟩
          · skip
            refine lv_iconst (v := 1) hx hb dX6_presses_48 (by decide) ?_
            refine lv_goto (tgt := 53) hx hb dX6_presses_49 (by decide) ?_
            refine lv_iadd hx hb dX6_presses_53 ?_
            refine lv_topi (fun x_14 ex_14 => ?_)
            refine lv_istore_n (lv' := [(3, .int x_14), (0, .ref (rt 51)), (1, .int x), (2, .int y), (4, .int (nI j))]) hx hb dX6_presses_54 rfl hl (by decide) rfl (fun ls hl => ?_)
            obtain ⟨x_15, ex_15⟩ : ∃ y : Int32, y = (nI j) + 1 := ⟨_, rfl⟩
            refine lv_iinc (v := x_15) (lv' := [(4, .int x_15), (3, .int x_14), (0, .ref (rt 51)), (1, .int x), (2, .int y)]) hx hb dX6_presses_55 hl (k := 4) rfl (by rw [ex_15]; rfl) (by decide) rfl (fun ls hl => ?_)
            refine lv_goto (tgt := 5) hx hb dX6_presses_58 (by decide) ?_
            obtain rfl : x_15 = nI (j + 1) := ex_15.trans (nI_1 j)
            exact ih (n - 1) (by omega) _ _ _ ⟨j + 1, _, by omega, acc_next hacc (by first | exact Or.inl ex_14 | exact Or.inr ex_14), hP, hS, lv_sub hl [2, 3, 4, 1, 0] rfl⟩
set_option maxHeartbeats 4000000 in
set_option maxRecDepth 100000 in
theorem m_leftOfDay (l : Launch) (dC : Nat → ClassId) (dI : Nat → Nat → Nat) (K : Nat → ClassId) (L : List Nat) (f : Nat → va_E) (rt : Nat → Nat) {fm : List Value} (hC : mC rt L f fm) {g_dayBudget : Nat → Int32} (F_dayBudget : f (rt 15) = .inl (K 0, 40, .inl g_dayBudget)) {g_saleOf : Nat → Int32} (F_saleOf : f (rt 30) = .inl (K 0, 1000, .inl g_saleOf)) {g_saleTick : Nat → Int32} (F_saleTick : f (rt 26) = .inl (K 0, 1000, .inl g_saleTick)) {g_state : Nat → Int32} (F_state : f (rt 32) = .inl (K 0, 1000, .inl g_state)) {g_pays : Nat → Int32} (F_pays : f (rt 11) = .inl (K 0, 40, .inl g_pays)) {g_price : Nat → Int32} (F_price : f (rt 31) = .inl (K 0, 1000, .inl g_price)) {ns : Nat} {t : Int32} (I_sales : fm[25]? = some (.int (nI ns))) (I_tick : fm[1]? = some (.int t)) (cn : Nat) (hns : ns ≤ 1000) (hso : ∀ j, j < ns → vp_in (g_saleOf j) 40) (hc : cn < 40) : gR l yX6_leftOfDay cX6_leftOfDay 2 .int 2 (dC, dI) K L f [.ref (rt 51), .int (nI cn)] (fun _ => True) := by
  refine Met.ofW (cc := cX6_leftOfDay) (maxL := 2) (ret := some .int) (by decide) rfl ?_
  intro p e s m args below meth c s₁ B hml hv
  obtain ⟨rfl, hP, hK⟩ := hv
  have F_m := hC.2.1
  have hx := B.exec
  have hb := B.bytes
  have hr := B.returns
  have hlocks := B.notSynchronized
  have hts0 := atoms_spec (ws := Cond.code yX6_leftOfDay cX6_leftOfDay 2 (some .int) :: lw_B) B.pre
  have hts : ∀ w ∈ lw_B, w.before _ s = true := fun w h => hts0 w (List.mem_cons_of_mem _ h)
  have hown : s.vm.findClass RX6 = some m.cls := findClass_of_methodNamed B.named
  have hS : va_S (fun _ => False) s.heap s.heap [] := va_S.rf
  have hl := lv_entry ([.ref (rt 51), .int (nI cn)]) (n := 2) (Nat.le_of_ble_eq_true rfl)
  rw [lg_entry_eq]
  generalize (lg_sl ([.ref (rt 51), .int (nI cn)]) ++ List.replicate (2 - (lg_sl ([.ref (rt 51), .int (nI cn)])).length) Slot.unset).toArray = ls at hl ⊢
  have hl : lv_has ls 2 [(0, .ref (rt 51)), (1, .int (nI cn))] := hl
  refine lv_aload_n hx hb dX6_leftOfDay_0 rfl (lv_at hl 0 rfl) ?_
  refine g_get (ci := 6) (v := .ref (rt 15)) (C := RX6) (T := TX6) (N := 51) hx hb hts uB6 hown hK hP (hC.1.1 51 (by decide)) F_m rfl 15 (by decide) wm_12 (hC.2.2.2 15 (by decide)) dX6_leftOfDay_1 ?_
  refine lv_iload_n hx hb dX6_leftOfDay_4 rfl (lv_at hl 1 rfl) ?_
  refine g_iald hx hb hK hP (hC.1.1 15 (by decide)) F_dayBudget (vp_in_nI (by omega) (by decide)) dX6_leftOfDay_5 ?_
  refine lv_topi (fun x_1 ex_1 => ?_)
  rw [nI_clamp (by omega)] at ex_1
  refine lv_aload_n hx hb dX6_leftOfDay_6 rfl (lv_at hl 0 rfl) ?_
  refine lv_iload_n hx hb dX6_leftOfDay_7 rfl (lv_at hl 1 rfl) ?_
  refine lv_aload_n hx hb dX6_leftOfDay_8 rfl (lv_at hl 0 rfl) ?_
  refine g_get (ci := 6) (v := .int t) (C := RX6) (T := TX6) (N := 51) hx hb hts uB6 hown hK hP (hC.1.1 51 (by decide)) F_m rfl 1 (by decide) wm_13 I_tick dX6_leftOfDay_9 ?_
  refine lv_bipush (v := 100) hx hb dX6_leftOfDay_12 (by decide) ?_
  refine lv_idiv hx hb dX6_leftOfDay_14 (by decide) ?_
  refine lv_topi (fun x_2 ex_2 => ?_)
  refine lv_iconst (v := 1) hx hb dX6_leftOfDay_15 (by decide) ?_
  refine lv_iconst (v := 1) hx hb dX6_leftOfDay_16 (by decide) ?_
  refine gc_R (ci := 6) ⟨hx, hb, hml, hown, hts⟩ (m_sum l dC dI K L f rt hC F_saleOf F_saleTick F_state F_pays F_price I_sales (nI cn) x_2 1 1 hns hso) 4 wm_14 wm_15 wm_16 wm_8 wm_17 (by decide +kernel) ⟨Nat.le_of_ble_eq_true rfl, Nat.le_of_ble_eq_true rfl⟩ hK rfl (hC.1.1 51 (by decide)) F_m rfl hl.1 rfl (Nat.le_of_ble_eq_true rfl) dX6_leftOfDay_17 ⟨Nat.le_of_ble_eq_true rfl, Nat.le_of_ble_eq_true rfl⟩ hS hP (fun r_3 H locs hpr_3 hP hS => ?_)
  refine lv_isub hx hb dX6_leftOfDay_20 ?_
  refine lv_topi (fun x_4 ex_4 => ?_)
  exact W.iret (v := x_4) hx hb hr (fun t ht hW => ⟨⟨x_4, (), rfl, trivial, trivial⟩, hS.F ht⟩) hS.2.2 dX6_leftOfDay_21
set_option maxHeartbeats 4000000 in
set_option maxRecDepth 100000 in
theorem m_leftInAll (l : Launch) (dC : Nat → ClassId) (dI : Nat → Nat → Nat) (K : Nat → ClassId) (L : List Nat) (f : Nat → va_E) (rt : Nat → Nat) {fm : List Value} (hC : mC rt L f fm) {g_allBudget : Nat → Int32} (F_allBudget : f (rt 16) = .inl (K 0, 40, .inl g_allBudget)) {g_saleOf : Nat → Int32} (F_saleOf : f (rt 30) = .inl (K 0, 1000, .inl g_saleOf)) {g_saleTick : Nat → Int32} (F_saleTick : f (rt 26) = .inl (K 0, 1000, .inl g_saleTick)) {g_state : Nat → Int32} (F_state : f (rt 32) = .inl (K 0, 1000, .inl g_state)) {g_pays : Nat → Int32} (F_pays : f (rt 11) = .inl (K 0, 40, .inl g_pays)) {g_price : Nat → Int32} (F_price : f (rt 31) = .inl (K 0, 1000, .inl g_price)) {ns : Nat} (I_sales : fm[25]? = some (.int (nI ns))) (cn : Nat) (hns : ns ≤ 1000) (hso : ∀ j, j < ns → vp_in (g_saleOf j) 40) (hc : cn < 40) : gR l yX6_leftInAll cX6_leftInAll 2 .int 2 (dC, dI) K L f [.ref (rt 51), .int (nI cn)] (fun _ => True) := by
  refine Met.ofW (cc := cX6_leftInAll) (maxL := 2) (ret := some .int) (by decide) rfl ?_
  intro p e s m args below meth c s₁ B hml hv
  obtain ⟨rfl, hP, hK⟩ := hv
  have F_m := hC.2.1
  have hx := B.exec
  have hb := B.bytes
  have hr := B.returns
  have hlocks := B.notSynchronized
  have hts0 := atoms_spec (ws := Cond.code yX6_leftInAll cX6_leftInAll 2 (some .int) :: lw_B) B.pre
  have hts : ∀ w ∈ lw_B, w.before _ s = true := fun w h => hts0 w (List.mem_cons_of_mem _ h)
  have hown : s.vm.findClass RX6 = some m.cls := findClass_of_methodNamed B.named
  have hS : va_S (fun _ => False) s.heap s.heap [] := va_S.rf
  have hl := lv_entry ([.ref (rt 51), .int (nI cn)]) (n := 2) (Nat.le_of_ble_eq_true rfl)
  rw [lg_entry_eq]
  generalize (lg_sl ([.ref (rt 51), .int (nI cn)]) ++ List.replicate (2 - (lg_sl ([.ref (rt 51), .int (nI cn)])).length) Slot.unset).toArray = ls at hl ⊢
  have hl : lv_has ls 2 [(0, .ref (rt 51)), (1, .int (nI cn))] := hl
  refine lv_aload_n hx hb dX6_leftInAll_0 rfl (lv_at hl 0 rfl) ?_
  refine g_get (ci := 6) (v := .ref (rt 16)) (C := RX6) (T := TX6) (N := 51) hx hb hts uB6 hown hK hP (hC.1.1 51 (by decide)) F_m rfl 16 (by decide) wm_18 (hC.2.2.2 16 (by decide)) dX6_leftInAll_1 ?_
  refine lv_iload_n hx hb dX6_leftInAll_4 rfl (lv_at hl 1 rfl) ?_
  refine g_iald hx hb hK hP (hC.1.1 16 (by decide)) F_allBudget (vp_in_nI (by omega) (by decide)) dX6_leftInAll_5 ?_
  refine lv_topi (fun x_1 ex_1 => ?_)
  rw [nI_clamp (by omega)] at ex_1
  refine lv_aload_n hx hb dX6_leftInAll_6 rfl (lv_at hl 0 rfl) ?_
  refine lv_iload_n hx hb dX6_leftInAll_7 rfl (lv_at hl 1 rfl) ?_
  refine lv_iconst (v := (-1)) hx hb dX6_leftInAll_8 (by decide) ?_
  refine lv_iconst (v := 1) hx hb dX6_leftInAll_9 (by decide) ?_
  refine lv_iconst (v := 1) hx hb dX6_leftInAll_10 (by decide) ?_
  refine gc_R (ci := 6) ⟨hx, hb, hml, hown, hts⟩ (m_sum l dC dI K L f rt hC F_saleOf F_saleTick F_state F_pays F_price I_sales (nI cn) (-1) 1 1 hns hso) 4 wm_14 wm_15 wm_16 wm_8 wm_17 (by decide +kernel) ⟨Nat.le_of_ble_eq_true rfl, Nat.le_of_ble_eq_true rfl⟩ hK rfl (hC.1.1 51 (by decide)) F_m rfl hl.1 rfl (Nat.le_of_ble_eq_true rfl) dX6_leftInAll_11 ⟨Nat.le_of_ble_eq_true rfl, Nat.le_of_ble_eq_true rfl⟩ hS hP (fun r_2 H locs hpr_2 hP hS => ?_)
  refine lv_isub hx hb dX6_leftInAll_14 ?_
  refine lv_topi (fun x_3 ex_3 => ?_)
  exact W.iret (v := x_3) hx hb hr (fun t ht hW => ⟨⟨x_3, (), rfl, trivial, trivial⟩, hS.F ht⟩) hS.2.2 dX6_leftInAll_15
/-- DRAW, as the machine reckons it -/
def drw (t r c : Int32) : Int32 := let h := t * 40503 + r * 9973 + c * 7919; let h2 := (h ^^^ (h.toUInt32 >>> ((7 : Int32).toUInt32 &&& Int32.toUInt32 31)).toInt32) * 668265263; let u := (h2.toUInt32 >>> ((16 : Int32).toUInt32 &&& Int32.toUInt32 31)).toInt32; u - u / 1000 * 1000
set_option maxHeartbeats 4000000 in
set_option maxRecDepth 100000 in
theorem m_drawOf (l : Launch) (dC : Nat → ClassId) (dI : Nat → Nat → Nat) (K : Nat → ClassId) (L : List Nat) (f : Nat → va_E) (rt : Nat → Nat) {fm : List Value} (hC : mC rt L f fm) {t : Int32} (I_tick : fm[1]? = some (.int t)) (x : Int32) (y : Int32) : gR l yX6_drawOf cX6_drawOf 4 .int 0 (dC, dI) K L f [.ref (rt 51), .int x, .int y] (fun r => r = drw t y x) := by
  refine Met.ofW (cc := cX6_drawOf) (maxL := 4) (ret := some .int) (by decide) rfl ?_
  intro p e s m args below meth c s₁ B hml hv
  obtain ⟨rfl, hP, hK⟩ := hv
  have F_m := hC.2.1
  have hx := B.exec
  have hb := B.bytes
  have hr := B.returns
  have hlocks := B.notSynchronized
  have hts0 := atoms_spec (ws := Cond.code yX6_drawOf cX6_drawOf 4 (some .int) :: lw_B) B.pre
  have hts : ∀ w ∈ lw_B, w.before _ s = true := fun w h => hts0 w (List.mem_cons_of_mem _ h)
  have hown : s.vm.findClass RX6 = some m.cls := findClass_of_methodNamed B.named
  have hS : va_S (fun _ => False) s.heap s.heap [] := va_S.rf
  have hl := lv_entry ([.ref (rt 51), .int x, .int y]) (n := 4) (Nat.le_of_ble_eq_true rfl)
  rw [lg_entry_eq]
  generalize (lg_sl ([.ref (rt 51), .int x, .int y]) ++ List.replicate (4 - (lg_sl ([.ref (rt 51), .int x, .int y])).length) Slot.unset).toArray = ls at hl ⊢
  have hl : lv_has ls 4 [(0, .ref (rt 51)), (1, .int x), (2, .int y)] := hl
  refine lv_aload_n hx hb dX6_drawOf_0 rfl (lv_at hl 0 rfl) ?_
  refine g_get (ci := 6) (v := .int t) (C := RX6) (T := TX6) (N := 51) hx hb hts uB6 hown hK hP (hC.1.1 51 (by decide)) F_m rfl 1 (by decide) wm_13 I_tick dX6_drawOf_1 ?_
  refine lv_ldc (v := 40503) hx hb hown (hts _ wm_19) dX6_drawOf_4 ?_
  refine lv_imul hx hb dX6_drawOf_6 ?_
  refine lv_topi (fun x_1 ex_1 => ?_)
  refine lv_iload_n hx hb dX6_drawOf_7 rfl (lv_at hl 2 rfl) ?_
  refine lv_sipush (v := 9973) hx hb dX6_drawOf_8 (by decide) ?_
  refine lv_imul hx hb dX6_drawOf_11 ?_
  refine lv_topi (fun x_2 ex_2 => ?_)
  refine lv_iadd hx hb dX6_drawOf_12 ?_
  refine lv_topi (fun x_3 ex_3 => ?_)
  refine lv_iload_n hx hb dX6_drawOf_13 rfl (lv_at hl 1 rfl) ?_
  refine lv_sipush (v := 7919) hx hb dX6_drawOf_14 (by decide) ?_
  refine lv_imul hx hb dX6_drawOf_17 ?_
  refine lv_topi (fun x_4 ex_4 => ?_)
  refine lv_iadd hx hb dX6_drawOf_18 ?_
  refine lv_topi (fun x_5 ex_5 => ?_)
  refine lv_istore_n (lv' := [(3, .int x_5), (0, .ref (rt 51)), (1, .int x), (2, .int y)]) hx hb dX6_drawOf_19 rfl hl (by decide) rfl (fun ls hl => ?_)
  refine lv_iload_n hx hb dX6_drawOf_20 rfl (lv_at hl 0 rfl) ?_
  refine lv_iload_n hx hb dX6_drawOf_21 rfl (lv_at hl 0 rfl) ?_
  refine lv_bipush (v := 7) hx hb dX6_drawOf_22 (by decide) ?_
  refine lv_iushr hx hb dX6_drawOf_24 rfl ?_
  refine lv_topi (fun x_6 ex_6 => ?_)
  refine lv_ixor hx hb dX6_drawOf_25 ?_
  refine lv_topi (fun x_7 ex_7 => ?_)
  refine lv_ldc (v := 668265263) hx hb hown (hts _ wm_20) dX6_drawOf_26 ?_
  refine lv_imul hx hb dX6_drawOf_28 ?_
  refine lv_topi (fun x_8 ex_8 => ?_)
  refine lv_istore_n (lv' := [(3, .int x_8), (0, .ref (rt 51)), (1, .int x), (2, .int y)]) hx hb dX6_drawOf_29 rfl hl (by decide) rfl (fun ls hl => ?_)
  refine lv_iload_n hx hb dX6_drawOf_30 rfl (lv_at hl 0 rfl) ?_
  refine lv_bipush (v := 16) hx hb dX6_drawOf_31 (by decide) ?_
  refine lv_iushr hx hb dX6_drawOf_33 rfl ?_
  refine lv_topi (fun x_9 ex_9 => ?_)
  refine lv_sipush (v := 1000) hx hb dX6_drawOf_34 (by decide) ?_
  refine lv_irem hx hb dX6_drawOf_37 (by decide) ?_
  refine lv_topi (fun x_10 ex_10 => ?_)
  exact W.iret (v := x_10) hx hb hr (fun t ht hW => ⟨⟨x_10, (), rfl, (by subst ex_1 ex_2 ex_3 ex_4 ex_5 ex_6 ex_7 ex_8 ex_9 ex_10; rfl), trivial⟩, hS.F ht⟩) hS.2.2 dX6_drawOf_38
end
section
theorem k_beh {P Dd Fr : Nat → Int32} {c : Nat} (h : P c = 0 ∨ ∃ a d : Nat, d ≤ 100 ∧ a < 100 * d + 100 ∧ Dd c = nI d ∧ Fr c = nI a) (hp : ¬ P c = 0) : ¬ (100 * Dd c + 100) - Fr c = 0 := by
  rcases h with h | ⟨a, d, h1, h2, h3, h4⟩
  · exact absurd h hp
  · rw [h3, h4, show (100 : Int32) = nI 100 from rfl, pk_mul, nI_add, pk_sub (by omega)]
    exact nI_ne0 (by omega) (by omega)
theorem k_ap {c : Nat} {y : Int32} (hc : c < 40) (hy : vp_in y 40) : vp_in (40 * nI c + y) 1600 := by
  obtain ⟨q, hq, rfl⟩ := vp_in_of hy (by decide)
  rw [show (40 : Int32) = nI 40 from rfl, pk_mul, nI_add]
  exact vp_in_nI (by omega) (by decide)
theorem k_20 {q : Nat} (h : q ≤ 1000) : ¬ (nI q + 20).toInt64 = 0 := by
  rw [show (20 : Int32) = nI 20 from rfl, nI_add, nI_l (by omega)]
  exact fun e => absurd ((lN_eq (b := 0) (by omega) (by decide)).mp e) (by omega)
theorem k_w1 {b z : Nat} (hb : b ≤ 1000) (hz : z ≤ 100) : (10000 : Int64) * (nI b).toInt64 * (nI z).toInt64 = lN (10000 * b * z) := by
  rw [nI_l (by omega), nI_l (by omega), show (10000 : Int64) = lN 10000 from rfl, lN_mul, lN_mul]
theorem k_w2 {W q r : Nat} (hW : W ≤ 1000000000) (hq : q ≤ 1000) (hr : r ≤ 1000) : lN W * (nI q + 1).toInt64 / (nI r + 20).toInt64 = lN (W * (q + 1) / (r + 20)) := by
  have h1 : W * (q + 1) ≤ 1000000000 * 1001 := Nat.mul_le_mul hW (by omega)
  rw [nI_1, show (20 : Int32) = nI 20 from rfl, nI_add, nI_l (by omega), nI_l (by omega), lN_mul]
  exact pk_lDiv (by omega) (by omega) (by omega)
theorem k_w3 {b z : Nat} (hb : b ≤ 1000) (hz : z ≤ 100) : 10000 * b * z ≤ 1000000000 := by
  have h1 : 10000 * b ≤ 10000000 := by omega
  have := Nat.mul_le_mul h1 hz
  omega
theorem k_w4 {W q r : Nat} (hW : W ≤ 1000000000) (hq : q ≤ 1000) : W * (q + 1) / (r + 20) ≤ 1001000000000 := by
  have h1 : W * (q + 1) ≤ 1000000000 * 1001 := Nat.mul_le_mul hW (by omega)
  exact Nat.le_trans (Nat.div_le_self _ _) (by omega)
set_option maxHeartbeats 4000000 in
set_option maxRecDepth 100000 in
theorem m_isBehind (l : Launch) (dC : Nat → ClassId) (dI : Nat → Nat → Nat) (K : Nat → ClassId) (L : List Nat) (f : Nat → va_E) (rt : Nat → Nat) {fm : List Value} (hC : mC rt L f fm) {g_sort : Nat → Int32} (F_sort : f (rt 10) = .inl (K 0, 40, .inl g_sort)) {g_promised : Nat → Int32} (F_promised : f (rt 22) = .inl (K 0, 40, .inl g_promised)) {g_promiseDay : Nat → Int32} (F_promiseDay : f (rt 23) = .inl (K 0, 40, .inl g_promiseDay)) {g_promiseFrom : Nat → Int32} (F_promiseFrom : f (rt 24) = .inl (K 0, 40, .inl g_promiseFrom)) {g_saleOf : Nat → Int32} (F_saleOf : f (rt 30) = .inl (K 0, 1000, .inl g_saleOf)) {g_state : Nat → Int32} (F_state : f (rt 32) = .inl (K 0, 1000, .inl g_state)) {g_saleTick : Nat → Int32} (F_saleTick : f (rt 26) = .inl (K 0, 1000, .inl g_saleTick)) {ns : Nat} {t : Int32} (I_sales : fm[25]? = some (.int (nI ns))) (I_tick : fm[1]? = some (.int t)) (cn : Nat) (hns : ns ≤ 1000) (hpb : ∀ c, c < 40 → g_promised c = 0 ∨ ∃ a d : Nat, d ≤ 100 ∧ a < 100 * d + 100 ∧ g_promiseDay c = nI d ∧ g_promiseFrom c = nI a) (hc : cn < 40) : gR l yX6_isBehind cX6_isBehind 4 .boolean 1 (dC, dI) K L f [.ref (rt 51), .int (nI cn)] (fun r => r = 0 ∨ r = 1) := by
  refine Met.ofW (cc := cX6_isBehind) (maxL := 4) (ret := some .boolean) (by decide) rfl ?_
  intro p e s m args below meth c s₁ B hml hv
  obtain ⟨rfl, hP, hK⟩ := hv
  have F_m := hC.2.1
  have hx := B.exec
  have hb := B.bytes
  have hr := B.returns
  have hlocks := B.notSynchronized
  have hts0 := atoms_spec (ws := Cond.code yX6_isBehind cX6_isBehind 4 (some .boolean) :: lw_B) B.pre
  have hts : ∀ w ∈ lw_B, w.before _ s = true := fun w h => hts0 w (List.mem_cons_of_mem _ h)
  have hown : s.vm.findClass RX6 = some m.cls := findClass_of_methodNamed B.named
  have hS : va_S (fun _ => False) s.heap s.heap [] := va_S.rf
  have hl := lv_entry ([.ref (rt 51), .int (nI cn)]) (n := 4) (Nat.le_of_ble_eq_true rfl)
  rw [lg_entry_eq]
  generalize (lg_sl ([.ref (rt 51), .int (nI cn)]) ++ List.replicate (4 - (lg_sl ([.ref (rt 51), .int (nI cn)])).length) Slot.unset).toArray = ls at hl ⊢
  have hl : lv_has ls 4 [(0, .ref (rt 51)), (1, .int (nI cn))] := hl
  refine lv_aload_n hx hb dX6_isBehind_0 rfl (lv_at hl 0 rfl) ?_
  refine g_get (ci := 6) (v := .ref (rt 10)) (C := RX6) (T := TX6) (N := 51) hx hb hts uB6 hown hK hP (hC.1.1 51 (by decide)) F_m rfl 10 (by decide) wm_21 (hC.2.2.2 10 (by decide)) dX6_isBehind_1 ?_
  refine lv_iload_n hx hb dX6_isBehind_4 rfl (lv_at hl 1 rfl) ?_
  refine g_iald hx hb hK hP (hC.1.1 10 (by decide)) F_sort (vp_in_nI (by omega) (by decide)) dX6_isBehind_5 ?_
  refine lv_topi (fun x_1 ex_1 => ?_)
  rw [nI_clamp (by omega)] at ex_1
  refine lv_iconst (v := 1) hx hb dX6_isBehind_6 (by decide) ?_
  refine lv_icmp_ne (tgt := 19) hx hb dX6_isBehind_7 (by decide) (fun c_2 => ?_) (fun c_2 => ?_)
  · skip
    refine lv_iconst (v := 0) hx hb dX6_isBehind_19 (by decide) ?_
    exact W.zret (v := 0) hx hb hr rfl (fun t ht hW => ⟨⟨0, (), rfl, Or.inl rfl, trivial⟩, hS.F ht⟩) hS.2.2 dX6_isBehind_20
  · skip
    refine lv_aload_n hx hb dX6_isBehind_10 rfl (lv_at hl 0 rfl) ?_
    refine g_get (ci := 6) (v := .ref (rt 22)) (C := RX6) (T := TX6) (N := 51) hx hb hts uB6 hown hK hP (hC.1.1 51 (by decide)) F_m rfl 22 (by decide) wm_22 (hC.2.2.2 22 (by decide)) dX6_isBehind_11 ?_
    refine lv_iload_n hx hb dX6_isBehind_14 rfl (lv_at hl 1 rfl) ?_
    refine g_iald hx hb hK hP (hC.1.1 22 (by decide)) F_promised (vp_in_nI (by omega) (by decide)) dX6_isBehind_15 ?_
    refine lv_topi (fun x_3 ex_3 => ?_)
    rw [nI_clamp (by omega)] at ex_3
    refine lv_if_ne (tgt := 21) hx hb dX6_isBehind_16 (by decide) (fun c_4 => ?_) (fun c_4 => ?_)
    · skip
      have hpr9 := c_4
      rw [ex_3] at hpr9
      refine lv_aload_n hx hb dX6_isBehind_21 rfl (lv_at hl 0 rfl) ?_
      refine lv_iload_n hx hb dX6_isBehind_22 rfl (lv_at hl 1 rfl) ?_
      refine lv_sipush (v := 10001) hx hb dX6_isBehind_23 (by decide) ?_
      refine gc_R (ci := 6) ⟨hx, hb, hml, hown, hts⟩ (m_showings l dC dI K L f rt hC F_saleOf F_state F_saleTick I_sales (nI cn) 10001 hns) 2 wm_23 wm_24 wm_25 wm_8 wm_26 (by decide +kernel) ⟨Nat.le_of_ble_eq_true rfl, Nat.le_of_ble_eq_true rfl⟩ hK rfl (hC.1.1 51 (by decide)) F_m rfl hl.1 rfl (Nat.le_of_ble_eq_true rfl) dX6_isBehind_26 ⟨Nat.le_of_ble_eq_true rfl, Nat.le_of_ble_eq_true rfl⟩ hS hP (fun r_5 H locs hpr_5 hP hS => ?_)
      refine lv_istore_n (lv' := [(2, .int r_5), (0, .ref (rt 51)), (1, .int (nI cn))]) hx hb dX6_isBehind_29 rfl hl (by decide) rfl (fun ls hl => ?_)
      refine lv_bipush (v := 100) hx hb dX6_isBehind_30 (by decide) ?_
      refine lv_aload_n hx hb dX6_isBehind_32 rfl (lv_at hl 1 rfl) ?_
      refine g_get (ci := 6) (v := .ref (rt 23)) (C := RX6) (T := TX6) (N := 51) hx hb hts uB6 hown hK hP (hC.1.1 51 (by decide)) F_m rfl 23 (by decide) wm_27 (hC.2.2.2 23 (by decide)) dX6_isBehind_33 ?_
      refine lv_iload_n hx hb dX6_isBehind_36 rfl (lv_at hl 2 rfl) ?_
      refine g_iald hx hb hK hP (hC.1.1 23 (by decide)) F_promiseDay (vp_in_nI (by omega) (by decide)) dX6_isBehind_37 ?_
      refine lv_topi (fun x_6 ex_6 => ?_)
      rw [nI_clamp (by omega)] at ex_6
      refine lv_imul hx hb dX6_isBehind_38 ?_
      refine lv_topi (fun x_7 ex_7 => ?_)
      refine lv_bipush (v := 100) hx hb dX6_isBehind_39 (by decide) ?_
      refine lv_iadd hx hb dX6_isBehind_41 ?_
      refine lv_topi (fun x_8 ex_8 => ?_)
      refine lv_istore_n (lv' := [(3, .int x_8), (2, .int r_5), (0, .ref (rt 51)), (1, .int (nI cn))]) hx hb dX6_isBehind_42 rfl hl (by decide) rfl (fun ls hl => ?_)
      refine lv_aload_n hx hb dX6_isBehind_43 rfl (lv_at hl 2 rfl) ?_
      refine g_get (ci := 6) (v := .int t) (C := RX6) (T := TX6) (N := 51) hx hb hts uB6 hown hK hP (hC.1.1 51 (by decide)) F_m rfl 1 (by decide) wm_13 I_tick dX6_isBehind_44 ?_
      refine lv_iload_n hx hb dX6_isBehind_47 rfl (lv_at hl 0 rfl) ?_
      refine lv_icmp_lt (tgt := 67) hx hb dX6_isBehind_48 (by decide) (fun c_9 => ?_) (fun c_9 => ?_)
      · skip
        refine lv_iload_n hx hb dX6_isBehind_67 rfl (lv_at hl 1 rfl) ?_
        refine lv_aload_n hx hb dX6_isBehind_68 rfl (lv_at hl 2 rfl) ?_
        refine g_get (ci := 6) (v := .ref (rt 22)) (C := RX6) (T := TX6) (N := 51) hx hb hts uB6 hown hK hP (hC.1.1 51 (by decide)) F_m rfl 22 (by decide) wm_22 (hC.2.2.2 22 (by decide)) dX6_isBehind_69 ?_
        refine lv_iload_n hx hb dX6_isBehind_72 rfl (lv_at hl 3 rfl) ?_
        refine g_iald hx hb hK hP (hC.1.1 22 (by decide)) F_promised (vp_in_nI (by omega) (by decide)) dX6_isBehind_73 ?_
        refine lv_topi (fun x_10 ex_10 => ?_)
        rw [nI_clamp (by omega)] at ex_10
        refine lv_aload_n hx hb dX6_isBehind_74 rfl (lv_at hl 2 rfl) ?_
        refine g_get (ci := 6) (v := .int t) (C := RX6) (T := TX6) (N := 51) hx hb hts uB6 hown hK hP (hC.1.1 51 (by decide)) F_m rfl 1 (by decide) wm_13 I_tick dX6_isBehind_75 ?_
        refine lv_aload_n hx hb dX6_isBehind_78 rfl (lv_at hl 2 rfl) ?_
        refine g_get (ci := 6) (v := .ref (rt 24)) (C := RX6) (T := TX6) (N := 51) hx hb hts uB6 hown hK hP (hC.1.1 51 (by decide)) F_m rfl 24 (by decide) wm_28 (hC.2.2.2 24 (by decide)) dX6_isBehind_79 ?_
        refine lv_iload_n hx hb dX6_isBehind_82 rfl (lv_at hl 3 rfl) ?_
        refine g_iald hx hb hK hP (hC.1.1 24 (by decide)) F_promiseFrom (vp_in_nI (by omega) (by decide)) dX6_isBehind_83 ?_
        refine lv_topi (fun x_11 ex_11 => ?_)
        rw [nI_clamp (by omega)] at ex_11
        refine lv_isub hx hb dX6_isBehind_84 ?_
        refine lv_topi (fun x_12 ex_12 => ?_)
        refine lv_imul hx hb dX6_isBehind_85 ?_
        refine lv_topi (fun x_13 ex_13 => ?_)
        refine lv_iload_n hx hb dX6_isBehind_86 rfl (lv_at hl 0 rfl) ?_
        refine lv_aload_n hx hb dX6_isBehind_87 rfl (lv_at hl 2 rfl) ?_
        refine g_get (ci := 6) (v := .ref (rt 24)) (C := RX6) (T := TX6) (N := 51) hx hb hts uB6 hown hK hP (hC.1.1 51 (by decide)) F_m rfl 24 (by decide) wm_28 (hC.2.2.2 24 (by decide)) dX6_isBehind_88 ?_
        refine lv_iload_n hx hb dX6_isBehind_91 rfl (lv_at hl 3 rfl) ?_
        refine g_iald hx hb hK hP (hC.1.1 24 (by decide)) F_promiseFrom (vp_in_nI (by omega) (by decide)) dX6_isBehind_92 ?_
        refine lv_topi (fun x_14 ex_14 => ?_)
        rw [nI_clamp (by omega)] at ex_14
        refine lv_isub hx hb dX6_isBehind_93 ?_
        refine lv_topi (fun x_15 ex_15 => ?_)
        refine lv_idiv hx hb dX6_isBehind_94 (by subst ex_1 ex_3 ex_6 ex_7 ex_8 ex_10 ex_11 ex_12 ex_13 ex_14 ex_15; exact k_beh (hpb cn hc) (by first | assumption | exact hpr9)) ?_
        refine lv_topi (fun x_16 ex_16 => ?_)
        refine lv_icmp_ge (tgt := 102) hx hb dX6_isBehind_95 (by decide) (fun c_17 => ?_) (fun c_17 => ?_)
        · skip
          refine lv_iconst (v := 0) hx hb dX6_isBehind_102 (by decide) ?_
          exact W.zret (v := 0) hx hb hr rfl (fun t ht hW => ⟨⟨0, (), rfl, Or.inl rfl, trivial⟩, hS.F ht⟩) hS.2.2 dX6_isBehind_103
        · skip
          refine lv_iconst (v := 1) hx hb dX6_isBehind_98 (by decide) ?_
          refine lv_goto (tgt := 103) hx hb dX6_isBehind_99 (by decide) ?_
          exact W.zret (v := 1) hx hb hr rfl (fun t ht hW => ⟨⟨1, (), rfl, Or.inr rfl, trivial⟩, hS.F ht⟩) hS.2.2 dX6_isBehind_103
      · skip
        refine lv_iload_n hx hb dX6_isBehind_51 rfl (lv_at hl 1 rfl) ?_
        refine lv_aload_n hx hb dX6_isBehind_52 rfl (lv_at hl 2 rfl) ?_
        refine g_get (ci := 6) (v := .ref (rt 22)) (C := RX6) (T := TX6) (N := 51) hx hb hts uB6 hown hK hP (hC.1.1 51 (by decide)) F_m rfl 22 (by decide) wm_22 (hC.2.2.2 22 (by decide)) dX6_isBehind_53 ?_
        refine lv_iload_n hx hb dX6_isBehind_56 rfl (lv_at hl 3 rfl) ?_
        refine g_iald hx hb hK hP (hC.1.1 22 (by decide)) F_promised (vp_in_nI (by omega) (by decide)) dX6_isBehind_57 ?_
        refine lv_topi (fun x_18 ex_18 => ?_)
        rw [nI_clamp (by omega)] at ex_18
        refine lv_icmp_ge (tgt := 65) hx hb dX6_isBehind_58 (by decide) (fun c_19 => ?_) (fun c_19 => ?_)
        · skip
          refine lv_iconst (v := 0) hx hb dX6_isBehind_65 (by decide) ?_
          exact W.zret (v := 0) hx hb hr rfl (fun t ht hW => ⟨⟨0, (), rfl, Or.inl rfl, trivial⟩, hS.F ht⟩) hS.2.2 dX6_isBehind_66
        · skip
          refine lv_iconst (v := 1) hx hb dX6_isBehind_61 (by decide) ?_
          refine lv_goto (tgt := 66) hx hb dX6_isBehind_62 (by decide) ?_
          exact W.zret (v := 1) hx hb hr rfl (fun t ht hW => ⟨⟨1, (), rfl, Or.inr rfl, trivial⟩, hS.F ht⟩) hS.2.2 dX6_isBehind_66
    · skip
      refine lv_iconst (v := 0) hx hb dX6_isBehind_19 (by decide) ?_
      exact W.zret (v := 0) hx hb hr rfl (fun t ht hW => ⟨⟨0, (), rfl, Or.inl rfl, trivial⟩, hS.F ht⟩) hS.2.2 dX6_isBehind_20
set_option maxHeartbeats 4000000 in
set_option maxRecDepth 100000 in
theorem m_hinders (l : Launch) (dC : Nat → ClassId) (dI : Nat → Nat → Nat) (K : Nat → ClassId) (L : List Nat) (f : Nat → va_E) (rt : Nat → Nat) {fm : List Value} (hC : mC rt L f fm) {g_stopped : Nat → Int32} (F_stopped : f (rt 20) = .inl (K 2, 40, .inl g_stopped)) {g_marks : Nat → Int32} (F_marks : f (rt 8) = .inl (K 0, 100, .inl g_marks)) {g_must : Nat → Int32} (F_must : f (rt 12) = .inl (K 0, 40, .inl g_must)) {g_never : Nat → Int32} (F_never : f (rt 13) = .inl (K 0, 40, .inl g_never)) {g_saleOf : Nat → Int32} (F_saleOf : f (rt 30) = .inl (K 0, 1000, .inl g_saleOf)) {g_saleReader : Nat → Int32} (F_saleReader : f (rt 27) = .inl (K 0, 1000, .inl g_saleReader)) {g_saleTick : Nat → Int32} (F_saleTick : f (rt 26) = .inl (K 0, 1000, .inl g_saleTick)) {g_salePage : Nat → Int32} (F_salePage : f (rt 28) = .inl (K 0, 1000, .inl g_salePage)) {g_state : Nat → Int32} (F_state : f (rt 32) = .inl (K 0, 1000, .inl g_state)) {g_span : Nat → Int32} (F_span : f (rt 18) = .inl (K 0, 40, .inl g_span)) {g_apart : Nat → Int32} (F_apart : f (rt 21) = .inl (K 2, 1600, .inl g_apart)) {g_cap : Nat → Int32} (F_cap : f (rt 17) = .inl (K 0, 40, .inl g_cap)) {g_sort : Nat → Int32} (F_sort : f (rt 10) = .inl (K 0, 40, .inl g_sort)) {g_bid : Nat → Int32} (F_bid : f (rt 14) = .inl (K 0, 40, .inl g_bid)) {g_throttle : Nat → Int32} (F_throttle : f (rt 19) = .inl (K 0, 40, .inl g_throttle)) {g_dayBudget : Nat → Int32} (F_dayBudget : f (rt 15) = .inl (K 0, 40, .inl g_dayBudget)) {g_allBudget : Nat → Int32} (F_allBudget : f (rt 16) = .inl (K 0, 40, .inl g_allBudget)) {g_pays : Nat → Int32} (F_pays : f (rt 11) = .inl (K 0, 40, .inl g_pays)) {g_price : Nat → Int32} (F_price : f (rt 31) = .inl (K 0, 1000, .inl g_price)) {ns : Nat} {t : Int32} (I_sales : fm[25]? = some (.int (nI ns))) (I_tick : fm[1]? = some (.int t)) (cn : Nat) (rd : Nat) (pg : Int32) (hns : ns ≤ 1000) (hso : ∀ j, j < ns → vp_in (g_saleOf j) 40) (hc : cn < 40) (hrd : rd < 100) : gR l yX6_hinders cX6_hinders 8 .int 3 (dC, dI) K L f [.ref (rt 51), .int (nI cn), .int (nI rd), .int pg] (fun _ => True) := by
  refine Met.ofW (cc := cX6_hinders) (maxL := 8) (ret := some .int) (by decide) rfl ?_
  intro p e s m args below meth c s₁ B hml hv
  obtain ⟨rfl, hP, hK⟩ := hv
  have F_m := hC.2.1
  have hx := B.exec
  have hb := B.bytes
  have hr := B.returns
  have hlocks := B.notSynchronized
  have hts0 := atoms_spec (ws := Cond.code yX6_hinders cX6_hinders 8 (some .int) :: lw_B) B.pre
  have hts : ∀ w ∈ lw_B, w.before _ s = true := fun w h => hts0 w (List.mem_cons_of_mem _ h)
  have hown : s.vm.findClass RX6 = some m.cls := findClass_of_methodNamed B.named
  have hS : va_S (fun _ => False) s.heap s.heap [] := va_S.rf
  have hl := lv_entry ([.ref (rt 51), .int (nI cn), .int (nI rd), .int pg]) (n := 8) (Nat.le_of_ble_eq_true rfl)
  rw [lg_entry_eq]
  generalize (lg_sl ([.ref (rt 51), .int (nI cn), .int (nI rd), .int pg]) ++ List.replicate (8 - (lg_sl ([.ref (rt 51), .int (nI cn), .int (nI rd), .int pg])).length) Slot.unset).toArray = ls at hl ⊢
  have hl : lv_has ls 8 [(0, .ref (rt 51)), (1, .int (nI cn)), (2, .int (nI rd)), (3, .int pg)] := hl
  refine lv_aload_n hx hb dX6_hinders_0 rfl (lv_at hl 0 rfl) ?_
  refine g_get (ci := 6) (v := .ref (rt 20)) (C := RX6) (T := TX6) (N := 51) hx hb hts uB6 hown hK hP (hC.1.1 51 (by decide)) F_m rfl 20 (by decide) wm_29 (hC.2.2.2 20 (by decide)) dX6_hinders_1 ?_
  refine lv_iload_n hx hb dX6_hinders_4 rfl (lv_at hl 1 rfl) ?_
  refine g_zald hx hb hK hP (hC.1.1 20 (by decide)) F_stopped (vp_in_nI (by omega) (by decide)) dX6_hinders_5 ?_
  refine lv_topi (fun x_1 ex_1 => ?_)
  rw [nI_clamp (by omega)] at ex_1
  refine lv_if_eq (tgt := 11) hx hb dX6_hinders_6 (by decide) (fun c_2 => ?_) (fun c_2 => ?_)
  · skip
    refine lv_aload_n hx hb dX6_hinders_11 rfl (lv_at hl 0 rfl) ?_
    refine g_get (ci := 6) (v := .ref (rt 8)) (C := RX6) (T := TX6) (N := 51) hx hb hts uB6 hown hK hP (hC.1.1 51 (by decide)) F_m rfl 8 (by decide) wm_30 (hC.2.2.2 8 (by decide)) dX6_hinders_12 ?_
    refine lv_iload_n hx hb dX6_hinders_15 rfl (lv_at hl 2 rfl) ?_
    refine g_iald hx hb hK hP (hC.1.1 8 (by decide)) F_marks (vp_in_nI (by omega) (by decide)) dX6_hinders_16 ?_
    refine lv_topi (fun x_3 ex_3 => ?_)
    rw [nI_clamp (by omega)] at ex_3
    refine lv_aload_n hx hb dX6_hinders_17 rfl (lv_at hl 0 rfl) ?_
    refine g_get (ci := 6) (v := .ref (rt 12)) (C := RX6) (T := TX6) (N := 51) hx hb hts uB6 hown hK hP (hC.1.1 51 (by decide)) F_m rfl 12 (by decide) wm_31 (hC.2.2.2 12 (by decide)) dX6_hinders_18 ?_
    refine lv_iload_n hx hb dX6_hinders_21 rfl (lv_at hl 1 rfl) ?_
    refine g_iald hx hb hK hP (hC.1.1 12 (by decide)) F_must (vp_in_nI (by omega) (by decide)) dX6_hinders_22 ?_
    refine lv_topi (fun x_4 ex_4 => ?_)
    rw [nI_clamp (by omega)] at ex_4
    refine lv_iand hx hb dX6_hinders_23 ?_
    refine lv_topi (fun x_5 ex_5 => ?_)
    refine lv_aload_n hx hb dX6_hinders_24 rfl (lv_at hl 0 rfl) ?_
    refine g_get (ci := 6) (v := .ref (rt 12)) (C := RX6) (T := TX6) (N := 51) hx hb hts uB6 hown hK hP (hC.1.1 51 (by decide)) F_m rfl 12 (by decide) wm_31 (hC.2.2.2 12 (by decide)) dX6_hinders_25 ?_
    refine lv_iload_n hx hb dX6_hinders_28 rfl (lv_at hl 1 rfl) ?_
    refine g_iald hx hb hK hP (hC.1.1 12 (by decide)) F_must (vp_in_nI (by omega) (by decide)) dX6_hinders_29 ?_
    refine lv_topi (fun x_6 ex_6 => ?_)
    rw [nI_clamp (by omega)] at ex_6
    refine lv_icmp_ne (tgt := 49) hx hb dX6_hinders_30 (by decide) (fun c_7 => ?_) (fun c_7 => ?_)
    · skip
      refine lv_iconst (v := 2) hx hb dX6_hinders_49 (by decide) ?_
      exact W.iret (v := 2) hx hb hr (fun t ht hW => ⟨⟨2, (), rfl, trivial, trivial⟩, hS.F ht⟩) hS.2.2 dX6_hinders_50
    · skip
      refine lv_aload_n hx hb dX6_hinders_33 rfl (lv_at hl 0 rfl) ?_
      refine g_get (ci := 6) (v := .ref (rt 8)) (C := RX6) (T := TX6) (N := 51) hx hb hts uB6 hown hK hP (hC.1.1 51 (by decide)) F_m rfl 8 (by decide) wm_30 (hC.2.2.2 8 (by decide)) dX6_hinders_34 ?_
      refine lv_iload_n hx hb dX6_hinders_37 rfl (lv_at hl 2 rfl) ?_
      refine g_iald hx hb hK hP (hC.1.1 8 (by decide)) F_marks (vp_in_nI (by omega) (by decide)) dX6_hinders_38 ?_
      refine lv_topi (fun x_8 ex_8 => ?_)
      rw [nI_clamp (by omega)] at ex_8
      refine lv_aload_n hx hb dX6_hinders_39 rfl (lv_at hl 0 rfl) ?_
      refine g_get (ci := 6) (v := .ref (rt 13)) (C := RX6) (T := TX6) (N := 51) hx hb hts uB6 hown hK hP (hC.1.1 51 (by decide)) F_m rfl 13 (by decide) wm_32 (hC.2.2.2 13 (by decide)) dX6_hinders_40 ?_
      refine lv_iload_n hx hb dX6_hinders_43 rfl (lv_at hl 1 rfl) ?_
      refine g_iald hx hb hK hP (hC.1.1 13 (by decide)) F_never (vp_in_nI (by omega) (by decide)) dX6_hinders_44 ?_
      refine lv_topi (fun x_9 ex_9 => ?_)
      rw [nI_clamp (by omega)] at ex_9
      refine lv_iand hx hb dX6_hinders_45 ?_
      refine lv_topi (fun x_10 ex_10 => ?_)
      refine lv_if_eq (tgt := 51) hx hb dX6_hinders_46 (by decide) (fun c_11 => ?_) (fun c_11 => ?_)
      · skip
        refine lv_iconst (v := 0) hx hb dX6_hinders_51 (by decide) ?_
        refine lv_istore (lv' := [(4, .int 0), (0, .ref (rt 51)), (1, .int (nI cn)), (2, .int (nI rd)), (3, .int pg)]) hx hb dX6_hinders_52 hl (by decide) rfl (fun ls hl => ?_)
        refine lv_iconst (v := 0) hx hb dX6_hinders_54 (by decide) ?_
        refine lv_istore (lv' := [(5, .int 0), (4, .int 0), (0, .ref (rt 51)), (1, .int (nI cn)), (2, .int (nI rd)), (3, .int pg)]) hx hb dX6_hinders_55 hl (by decide) rfl (fun ls hl => ?_)
        refine lv_iconst (v := 0) hx hb dX6_hinders_57 (by decide) ?_
        refine lv_istore (lv' := [(6, .int 0), (5, .int 0), (4, .int 0), (0, .ref (rt 51)), (1, .int (nI cn)), (2, .int (nI rd)), (3, .int pg)]) hx hb dX6_hinders_58 hl (by decide) rfl (fun ls hl => ?_)
        refine lv_iconst (v := 0) hx hb dX6_hinders_60 (by decide) ?_
        refine lv_istore (lv' := [(7, .int 0), (6, .int 0), (5, .int 0), (4, .int 0), (0, .ref (rt 51)), (1, .int (nI cn)), (2, .int (nI rd)), (3, .int pg)]) hx hb dX6_hinders_61 hl (by decide) rfl (fun ls hl => ?_)
        refine k_lx (pcx := 228) (fun n H locs ls => ∃ (j : Nat) (a4 : Int32) (a5 : Int32) (a6 : Int32), j + n = ns ∧ True ∧ va_P (dC, dI) vwCl (va_pl L f) H ∧ va_S (fun _ => False) s.heap H locs ∧ lv_has ls 8 [(0, .ref (rt 51)), (1, .int (nI cn)), (2, .int (nI rd)), (3, .int pg), (4, .int a4), (5, .int a5), (6, .int a6), (7, .int (nI j))]) (fun H locs ls => ∃ (j : Nat) (a4 : Int32) (a5 : Int32) (a6 : Int32), j = ns ∧ True ∧ va_P (dC, dI) vwCl (va_pl L f) H ∧ va_S (fun _ => False) s.heap H locs ∧ lv_has ls 8 [(0, .ref (rt 51)), (1, .int (nI cn)), (2, .int (nI rd)), (3, .int pg), (4, .int a4), (5, .int a5), (6, .int a6), (7, .int (nI j))]) (fun H locs ls hI => ?_) (fun n H locs ls hI hE ih => ?_) ns _ _ _ ⟨0, _, _, _, by omega, trivial, hP, hS, lv_sub hl [4, 5, 6, 7, 3, 2, 1, 0] rfl⟩
        · skip
          obtain ⟨j, a4, a5, a6, hj, hacc, hP, hS, hl⟩ := hI
          refine lv_iload hx hb dX6_hinders_228 (lv_at hl 4 rfl) ?_
          refine lv_aload_n hx hb dX6_hinders_230 rfl (lv_at hl 0 rfl) ?_
          refine g_get (ci := 6) (v := .ref (rt 17)) (C := RX6) (T := TX6) (N := 51) hx hb hts uB6 hown hK hP (hC.1.1 51 (by decide)) F_m rfl 17 (by decide) wm_33 (hC.2.2.2 17 (by decide)) dX6_hinders_231 ?_
          refine lv_iload_n hx hb dX6_hinders_234 rfl (lv_at hl 1 rfl) ?_
          refine g_iald hx hb hK hP (hC.1.1 17 (by decide)) F_cap (vp_in_nI (by omega) (by decide)) dX6_hinders_235 ?_
          refine lv_topi (fun x_12 ex_12 => ?_)
          rw [nI_clamp (by omega)] at ex_12
          refine lv_icmp_lt (tgt := 241) hx hb dX6_hinders_236 (by decide) (fun c_13 => ?_) (fun c_13 => ?_)
          · skip
            refine lv_aload_n hx hb dX6_hinders_241 rfl (lv_at hl 0 rfl) ?_
            refine g_get (ci := 6) (v := .ref (rt 10)) (C := RX6) (T := TX6) (N := 51) hx hb hts uB6 hown hK hP (hC.1.1 51 (by decide)) F_m rfl 10 (by decide) wm_21 (hC.2.2.2 10 (by decide)) dX6_hinders_242 ?_
            refine lv_iload_n hx hb dX6_hinders_245 rfl (lv_at hl 1 rfl) ?_
            refine g_iald hx hb hK hP (hC.1.1 10 (by decide)) F_sort (vp_in_nI (by omega) (by decide)) dX6_hinders_246 ?_
            refine lv_topi (fun x_14 ex_14 => ?_)
            rw [nI_clamp (by omega)] at ex_14
            refine lv_if_ne (tgt := 280) hx hb dX6_hinders_247 (by decide) (fun c_15 => ?_) (fun c_15 => ?_)
            · skip
              refine lv_aload_n hx hb dX6_hinders_280 rfl (lv_at hl 0 rfl) ?_
              refine lv_iload_n hx hb dX6_hinders_281 rfl (lv_at hl 1 rfl) ?_
              refine lv_iload_n hx hb dX6_hinders_282 rfl (lv_at hl 2 rfl) ?_
              refine gc_R (ci := 6) ⟨hx, hb, hml, hown, hts⟩ (m_drawOf l dC dI K L f rt hC I_tick (nI cn) (nI rd)) 2 wm_34 wm_35 wm_36 wm_8 wm_37 (by decide +kernel) ⟨Nat.le_of_ble_eq_true rfl, Nat.le_of_ble_eq_true rfl⟩ hK rfl (hC.1.1 51 (by decide)) F_m rfl hl.1 rfl (Nat.le_of_ble_eq_true rfl) dX6_hinders_283 ⟨Nat.le_of_ble_eq_true rfl, Nat.le_of_ble_eq_true rfl⟩ hS hP (fun r_16 H locs hpr_16 hP hS => ?_)
              refine lv_aload_n hx hb dX6_hinders_286 rfl (lv_at hl 0 rfl) ?_
              refine g_get (ci := 6) (v := .ref (rt 19)) (C := RX6) (T := TX6) (N := 51) hx hb hts uB6 hown hK hP (hC.1.1 51 (by decide)) F_m rfl 19 (by decide) wm_38 (hC.2.2.2 19 (by decide)) dX6_hinders_287 ?_
              refine lv_iload_n hx hb dX6_hinders_290 rfl (lv_at hl 1 rfl) ?_
              refine g_iald hx hb hK hP (hC.1.1 19 (by decide)) F_throttle (vp_in_nI (by omega) (by decide)) dX6_hinders_291 ?_
              refine lv_topi (fun x_17 ex_17 => ?_)
              rw [nI_clamp (by omega)] at ex_17
              refine lv_icmp_lt (tgt := 297) hx hb dX6_hinders_292 (by decide) (fun c_18 => ?_) (fun c_18 => ?_)
              · skip
                refine lv_iload hx hb dX6_hinders_297 (lv_at hl 5 rfl) ?_
                refine lv_if_eq (tgt := 307) hx hb dX6_hinders_299 (by decide) (fun c_19 => ?_) (fun c_19 => ?_)
                · skip
                  refine lv_iload hx hb dX6_hinders_307 (lv_at hl 6 rfl) ?_
                  refine lv_if_eq (tgt := 317) hx hb dX6_hinders_309 (by decide) (fun c_20 => ?_) (fun c_20 => ?_)
                  · skip
                    refine lv_iconst (v := 0) hx hb dX6_hinders_317 (by decide) ?_
                    exact W.iret (v := 0) hx hb hr (fun t ht hW => ⟨⟨0, (), rfl, trivial, trivial⟩, hS.F ht⟩) hS.2.2 dX6_hinders_318
                  · skip
                    refine lv_bipush (v := 7) hx hb dX6_hinders_312 (by decide) ?_
                    refine lv_goto (tgt := 318) hx hb dX6_hinders_314 (by decide) ?_
                    exact W.iret (v := 7) hx hb hr (fun t ht hW => ⟨⟨7, (), rfl, trivial, trivial⟩, hS.F ht⟩) hS.2.2 dX6_hinders_318
                · skip
                  refine lv_bipush (v := 6) hx hb dX6_hinders_302 (by decide) ?_
                  refine lv_goto (tgt := 318) hx hb dX6_hinders_304 (by decide) ?_
                  exact W.iret (v := 6) hx hb hr (fun t ht hW => ⟨⟨6, (), rfl, trivial, trivial⟩, hS.F ht⟩) hS.2.2 dX6_hinders_318
              · skip
                refine lv_iconst (v := 5) hx hb dX6_hinders_295 (by decide) ?_
                exact W.iret (v := 5) hx hb hr (fun t ht hW => ⟨⟨5, (), rfl, trivial, trivial⟩, hS.F ht⟩) hS.2.2 dX6_hinders_296
            · skip
              refine lv_aload_n hx hb dX6_hinders_250 rfl (lv_at hl 0 rfl) ?_
              refine lv_iload_n hx hb dX6_hinders_251 rfl (lv_at hl 1 rfl) ?_
              refine gc_R (ci := 6) ⟨hx, hb, hml, hown, hts⟩ (m_leftOfDay l dC dI K L f rt hC F_dayBudget F_saleOf F_saleTick F_state F_pays F_price I_sales I_tick cn hns hso hc) 1 wm_39 wm_40 wm_41 wm_8 wm_42 (by decide +kernel) ⟨Nat.le_of_ble_eq_true rfl, Nat.le_of_ble_eq_true rfl⟩ hK rfl (hC.1.1 51 (by decide)) F_m rfl hl.1 rfl (Nat.le_of_ble_eq_true rfl) dX6_hinders_252 ⟨Nat.le_of_ble_eq_true rfl, Nat.le_of_ble_eq_true rfl⟩ hS hP (fun r_21 H locs hpr_21 hP hS => ?_)
              refine lv_aload_n hx hb dX6_hinders_255 rfl (lv_at hl 0 rfl) ?_
              refine g_get (ci := 6) (v := .ref (rt 14)) (C := RX6) (T := TX6) (N := 51) hx hb hts uB6 hown hK hP (hC.1.1 51 (by decide)) F_m rfl 14 (by decide) wm_43 (hC.2.2.2 14 (by decide)) dX6_hinders_256 ?_
              refine lv_iload_n hx hb dX6_hinders_259 rfl (lv_at hl 1 rfl) ?_
              refine g_iald hx hb hK hP (hC.1.1 14 (by decide)) F_bid (vp_in_nI (by omega) (by decide)) dX6_hinders_260 ?_
              refine lv_topi (fun x_22 ex_22 => ?_)
              rw [nI_clamp (by omega)] at ex_22
              refine lv_icmp_lt (tgt := 278) hx hb dX6_hinders_261 (by decide) (fun c_23 => ?_) (fun c_23 => ?_)
              · skip
                refine lv_iconst (v := 4) hx hb dX6_hinders_278 (by decide) ?_
                exact W.iret (v := 4) hx hb hr (fun t ht hW => ⟨⟨4, (), rfl, trivial, trivial⟩, hS.F ht⟩) hS.2.2 dX6_hinders_279
              · skip
                refine lv_aload_n hx hb dX6_hinders_264 rfl (lv_at hl 0 rfl) ?_
                refine lv_iload_n hx hb dX6_hinders_265 rfl (lv_at hl 1 rfl) ?_
                refine gc_R (ci := 6) ⟨hx, hb, hml, hown, hts⟩ (m_leftInAll l dC dI K L f rt hC F_allBudget F_saleOf F_saleTick F_state F_pays F_price I_sales cn hns hso hc) 1 wm_44 wm_45 wm_46 wm_8 wm_47 (by decide +kernel) ⟨Nat.le_of_ble_eq_true rfl, Nat.le_of_ble_eq_true rfl⟩ hK rfl (hC.1.1 51 (by decide)) F_m rfl hl.1 rfl (Nat.le_of_ble_eq_true rfl) dX6_hinders_266 ⟨Nat.le_of_ble_eq_true rfl, Nat.le_of_ble_eq_true rfl⟩ hS hP (fun r_24 H locs hpr_24 hP hS => ?_)
                refine lv_aload_n hx hb dX6_hinders_269 rfl (lv_at hl 0 rfl) ?_
                refine g_get (ci := 6) (v := .ref (rt 14)) (C := RX6) (T := TX6) (N := 51) hx hb hts uB6 hown hK hP (hC.1.1 51 (by decide)) F_m rfl 14 (by decide) wm_43 (hC.2.2.2 14 (by decide)) dX6_hinders_270 ?_
                refine lv_iload_n hx hb dX6_hinders_273 rfl (lv_at hl 1 rfl) ?_
                refine g_iald hx hb hK hP (hC.1.1 14 (by decide)) F_bid (vp_in_nI (by omega) (by decide)) dX6_hinders_274 ?_
                refine lv_topi (fun x_25 ex_25 => ?_)
                rw [nI_clamp (by omega)] at ex_25
                refine lv_icmp_ge (tgt := 280) hx hb dX6_hinders_275 (by decide) (fun c_26 => ?_) (fun c_26 => ?_)
                · skip
                  refine lv_aload_n hx hb dX6_hinders_280 rfl (lv_at hl 0 rfl) ?_
                  refine lv_iload_n hx hb dX6_hinders_281 rfl (lv_at hl 1 rfl) ?_
                  refine lv_iload_n hx hb dX6_hinders_282 rfl (lv_at hl 2 rfl) ?_
                  refine gc_R (ci := 6) ⟨hx, hb, hml, hown, hts⟩ (m_drawOf l dC dI K L f rt hC I_tick (nI cn) (nI rd)) 2 wm_34 wm_35 wm_36 wm_8 wm_37 (by decide +kernel) ⟨Nat.le_of_ble_eq_true rfl, Nat.le_of_ble_eq_true rfl⟩ hK rfl (hC.1.1 51 (by decide)) F_m rfl hl.1 rfl (Nat.le_of_ble_eq_true rfl) dX6_hinders_283 ⟨Nat.le_of_ble_eq_true rfl, Nat.le_of_ble_eq_true rfl⟩ hS hP (fun r_27 H locs hpr_27 hP hS => ?_)
                  refine lv_aload_n hx hb dX6_hinders_286 rfl (lv_at hl 0 rfl) ?_
                  refine g_get (ci := 6) (v := .ref (rt 19)) (C := RX6) (T := TX6) (N := 51) hx hb hts uB6 hown hK hP (hC.1.1 51 (by decide)) F_m rfl 19 (by decide) wm_38 (hC.2.2.2 19 (by decide)) dX6_hinders_287 ?_
                  refine lv_iload_n hx hb dX6_hinders_290 rfl (lv_at hl 1 rfl) ?_
                  refine g_iald hx hb hK hP (hC.1.1 19 (by decide)) F_throttle (vp_in_nI (by omega) (by decide)) dX6_hinders_291 ?_
                  refine lv_topi (fun x_28 ex_28 => ?_)
                  rw [nI_clamp (by omega)] at ex_28
                  refine lv_icmp_lt (tgt := 297) hx hb dX6_hinders_292 (by decide) (fun c_29 => ?_) (fun c_29 => ?_)
                  · skip
                    refine lv_iload hx hb dX6_hinders_297 (lv_at hl 5 rfl) ?_
                    refine lv_if_eq (tgt := 307) hx hb dX6_hinders_299 (by decide) (fun c_30 => ?_) (fun c_30 => ?_)
                    · skip
                      refine lv_iload hx hb dX6_hinders_307 (lv_at hl 6 rfl) ?_
                      refine lv_if_eq (tgt := 317) hx hb dX6_hinders_309 (by decide) (fun c_31 => ?_) (fun c_31 => ?_)
                      · skip
                        refine lv_iconst (v := 0) hx hb dX6_hinders_317 (by decide) ?_
                        exact W.iret (v := 0) hx hb hr (fun t ht hW => ⟨⟨0, (), rfl, trivial, trivial⟩, hS.F ht⟩) hS.2.2 dX6_hinders_318
                      · skip
                        refine lv_bipush (v := 7) hx hb dX6_hinders_312 (by decide) ?_
                        refine lv_goto (tgt := 318) hx hb dX6_hinders_314 (by decide) ?_
                        exact W.iret (v := 7) hx hb hr (fun t ht hW => ⟨⟨7, (), rfl, trivial, trivial⟩, hS.F ht⟩) hS.2.2 dX6_hinders_318
                    · skip
                      refine lv_bipush (v := 6) hx hb dX6_hinders_302 (by decide) ?_
                      refine lv_goto (tgt := 318) hx hb dX6_hinders_304 (by decide) ?_
                      exact W.iret (v := 6) hx hb hr (fun t ht hW => ⟨⟨6, (), rfl, trivial, trivial⟩, hS.F ht⟩) hS.2.2 dX6_hinders_318
                  · skip
                    refine lv_iconst (v := 5) hx hb dX6_hinders_295 (by decide) ?_
                    exact W.iret (v := 5) hx hb hr (fun t ht hW => ⟨⟨5, (), rfl, trivial, trivial⟩, hS.F ht⟩) hS.2.2 dX6_hinders_296
                · skip
                  refine lv_iconst (v := 4) hx hb dX6_hinders_278 (by decide) ?_
                  exact W.iret (v := 4) hx hb hr (fun t ht hW => ⟨⟨4, (), rfl, trivial, trivial⟩, hS.F ht⟩) hS.2.2 dX6_hinders_279
          · skip
            refine lv_iconst (v := 3) hx hb dX6_hinders_239 (by decide) ?_
            exact W.iret (v := 3) hx hb hr (fun t ht hW => ⟨⟨3, (), rfl, trivial, trivial⟩, hS.F ht⟩) hS.2.2 dX6_hinders_240
        · skip
          obtain ⟨j, a4, a5, a6, hj, hacc, hP, hS, hl⟩ := hI
          refine lv_iload hx hb dX6_hinders_63 (lv_at hl 7 rfl) ?_
          refine lv_aload_n hx hb dX6_hinders_65 rfl (lv_at hl 0 rfl) ?_
          refine g_get (ci := 6) (v := .int (nI ns)) (C := RX6) (T := TX6) (N := 51) hx hb hts uB6 hown hK hP (hC.1.1 51 (by decide)) F_m rfl 25 (by decide) wm_4 I_sales dX6_hinders_66 ?_
          refine lv_icmp_ge (tgt := 228) hx hb dX6_hinders_69 (by decide) (fun c_32 => ?_) (fun c_32 => ?_)
          · skip
            have hjn : j = ns := by have := (nI_leI (a := ns) (b := j) (by omega) (by omega)).mp c_32; omega
            exact hE _ _ _ ⟨j, _, _, _, by omega, hacc, hP, hS, lv_sub hl [0, 1, 2, 3, 4, 5, 6, 7] rfl⟩
          · skip
            have hjn : j < ns := by rcases Nat.lt_or_ge j ns with q | q; exact q; exact absurd (nI_le q (by omega)) c_32
            refine lv_aload_n hx hb dX6_hinders_72 rfl (lv_at hl 0 rfl) ?_
            refine g_get (ci := 6) (v := .ref (rt 32)) (C := RX6) (T := TX6) (N := 51) hx hb hts uB6 hown hK hP (hC.1.1 51 (by decide)) F_m rfl 32 (by decide) wm_0 (hC.2.2.2 32 (by decide)) dX6_hinders_73 ?_
            refine lv_iload hx hb dX6_hinders_76 (lv_at hl 7 rfl) ?_
            refine g_iald hx hb hK hP (hC.1.1 32 (by decide)) F_state (vp_in_nI (by omega) (by decide)) dX6_hinders_78 ?_
            refine lv_topi (fun x_33 ex_33 => ?_)
            rw [nI_clamp (by omega)] at ex_33
            refine lv_iconst (v := 3) hx hb dX6_hinders_79 (by decide) ?_
            refine lv_icmp_ne (tgt := 86) hx hb dX6_hinders_80 (by decide) (fun c_34 => ?_) (fun c_34 => ?_)
            · skip
              refine k_jn (pcj := 139) (fun H locs ls => ∃ (b4 : Int32), True ∧ va_P (dC, dI) vwCl (va_pl L f) H ∧ va_S (fun _ => False) s.heap H locs ∧ lv_has ls 8 [(0, .ref (rt 51)), (1, .int (nI cn)), (2, .int (nI rd)), (3, .int pg), (5, .int a5), (6, .int a6), (7, .int (nI j)), (4, .int b4)]) (fun H locs ls hI => ?_) (fun hJ_k => ?_)
              · skip
                obtain ⟨b4, ha_k, hP, hS, hl⟩ := hI
                refine lv_aload_n hx hb dX6_hinders_139 rfl (lv_at hl 0 rfl) ?_
                refine g_get (ci := 6) (v := .ref (rt 26)) (C := RX6) (T := TX6) (N := 51) hx hb hts uB6 hown hK hP (hC.1.1 51 (by decide)) F_m rfl 26 (by decide) wm_10 (hC.2.2.2 26 (by decide)) dX6_hinders_140 ?_
                refine lv_iload hx hb dX6_hinders_143 (lv_at hl 6 rfl) ?_
                refine g_iald hx hb hK hP (hC.1.1 26 (by decide)) F_saleTick (vp_in_nI (by omega) (by decide)) dX6_hinders_145 ?_
                refine lv_topi (fun x_35 ex_35 => ?_)
                rw [nI_clamp (by omega)] at ex_35
                refine lv_aload_n hx hb dX6_hinders_146 rfl (lv_at hl 0 rfl) ?_
                refine g_get (ci := 6) (v := .int t) (C := RX6) (T := TX6) (N := 51) hx hb hts uB6 hown hK hP (hC.1.1 51 (by decide)) F_m rfl 1 (by decide) wm_13 I_tick dX6_hinders_147 ?_
                refine lv_icmp_ne (tgt := 222) hx hb dX6_hinders_150 (by decide) (fun c_36 => ?_) (fun c_36 => ?_)
                · skip
                  obtain ⟨x_37, ex_37⟩ : ∃ y : Int32, y = (nI j) + 1 := ⟨_, rfl⟩
                  refine lv_iinc (v := x_37) (lv' := [(7, .int x_37), (0, .ref (rt 51)), (1, .int (nI cn)), (2, .int (nI rd)), (3, .int pg), (5, .int a5), (6, .int a6), (4, .int b4)]) hx hb dX6_hinders_222 hl (k := 6) rfl (by rw [ex_37]; rfl) (by decide) rfl (fun ls hl => ?_)
                  refine lv_goto (tgt := 63) hx hb dX6_hinders_225 (by decide) ?_
                  obtain rfl : x_37 = nI (j + 1) := ex_37.trans (nI_1 j)
                  exact ih (n - 1) (by omega) _ _ _ ⟨j + 1, _, _, _, by omega, trivial, hP, hS, lv_sub hl [1, 2, 3, 4, 7, 5, 6, 0] rfl⟩
                · skip
                  refine lv_aload_n hx hb dX6_hinders_153 rfl (lv_at hl 0 rfl) ?_
                  refine g_get (ci := 6) (v := .ref (rt 28)) (C := RX6) (T := TX6) (N := 51) hx hb hts uB6 hown hK hP (hC.1.1 51 (by decide)) F_m rfl 28 (by decide) wm_48 (hC.2.2.2 28 (by decide)) dX6_hinders_154 ?_
                  refine lv_iload hx hb dX6_hinders_157 (lv_at hl 6 rfl) ?_
                  refine g_iald hx hb hK hP (hC.1.1 28 (by decide)) F_salePage (vp_in_nI (by omega) (by decide)) dX6_hinders_159 ?_
                  refine lv_topi (fun x_38 ex_38 => ?_)
                  rw [nI_clamp (by omega)] at ex_38
                  refine lv_iload_n hx hb dX6_hinders_160 rfl (lv_at hl 3 rfl) ?_
                  refine lv_icmp_eq (tgt := 167) hx hb dX6_hinders_161 (by decide) (fun c_39 => ?_) (fun c_39 => ?_)
                  · skip
                    refine k_jn (pcj := 199) (fun H locs ls => ∃ (b5 : Int32), True ∧ va_P (dC, dI) vwCl (va_pl L f) H ∧ va_S (fun _ => False) s.heap H locs ∧ lv_has ls 8 [(0, .ref (rt 51)), (1, .int (nI cn)), (2, .int (nI rd)), (3, .int pg), (4, .int b4), (6, .int a6), (7, .int (nI j)), (5, .int b5)]) (fun H locs ls hI => ?_) (fun hJ_n => ?_)
                    · skip
                      obtain ⟨b5, ha_n, hP, hS, hl⟩ := hI
                      refine lv_iload hx hb dX6_hinders_199 (lv_at hl 5 rfl) ?_
                      refine lv_if_ne (tgt := 215) hx hb dX6_hinders_201 (by decide) (fun c_40 => ?_) (fun c_40 => ?_)
                      · skip
                        refine lv_iconst (v := 1) hx hb dX6_hinders_215 (by decide) ?_
                        refine lv_goto (tgt := 220) hx hb dX6_hinders_216 (by decide) ?_
                        refine lv_istore (lv' := [(6, .int 1), (0, .ref (rt 51)), (1, .int (nI cn)), (2, .int (nI rd)), (3, .int pg), (4, .int b4), (7, .int (nI j)), (5, .int b5)]) hx hb dX6_hinders_220 hl (by decide) rfl (fun ls hl => ?_)
                        obtain ⟨x_41, ex_41⟩ : ∃ y : Int32, y = (nI j) + 1 := ⟨_, rfl⟩
                        refine lv_iinc (v := x_41) (lv' := [(7, .int x_41), (6, .int 1), (0, .ref (rt 51)), (1, .int (nI cn)), (2, .int (nI rd)), (3, .int pg), (4, .int b4), (5, .int b5)]) hx hb dX6_hinders_222 hl (k := 6) rfl (by rw [ex_41]; rfl) (by decide) rfl (fun ls hl => ?_)
                        refine lv_goto (tgt := 63) hx hb dX6_hinders_225 (by decide) ?_
                        obtain rfl : x_41 = nI (j + 1) := ex_41.trans (nI_1 j)
                        exact ih (n - 1) (by omega) _ _ _ ⟨j + 1, _, _, _, by omega, trivial, hP, hS, lv_sub hl [2, 3, 4, 5, 6, 7, 1, 0] rfl⟩
                      · skip
                        refine lv_aload_n hx hb dX6_hinders_204 rfl (lv_at hl 0 rfl) ?_
                        refine g_get (ci := 6) (v := .ref (rt 30)) (C := RX6) (T := TX6) (N := 51) hx hb hts uB6 hown hK hP (hC.1.1 51 (by decide)) F_m rfl 30 (by decide) wm_2 (hC.2.2.2 30 (by decide)) dX6_hinders_205 ?_
                        refine lv_iload hx hb dX6_hinders_208 (lv_at hl 6 rfl) ?_
                        refine g_iald hx hb hK hP (hC.1.1 30 (by decide)) F_saleOf (vp_in_nI (by omega) (by decide)) dX6_hinders_210 ?_
                        refine lv_topi (fun x_42 ex_42 => ?_)
                        rw [nI_clamp (by omega)] at ex_42
                        refine lv_iload_n hx hb dX6_hinders_211 rfl (lv_at hl 1 rfl) ?_
                        refine lv_icmp_ne (tgt := 219) hx hb dX6_hinders_212 (by decide) (fun c_43 => ?_) (fun c_43 => ?_)
                        · skip
                          refine lv_iconst (v := 0) hx hb dX6_hinders_219 (by decide) ?_
                          refine lv_istore (lv' := [(6, .int 0), (0, .ref (rt 51)), (1, .int (nI cn)), (2, .int (nI rd)), (3, .int pg), (4, .int b4), (7, .int (nI j)), (5, .int b5)]) hx hb dX6_hinders_220 hl (by decide) rfl (fun ls hl => ?_)
                          obtain ⟨x_44, ex_44⟩ : ∃ y : Int32, y = (nI j) + 1 := ⟨_, rfl⟩
                          refine lv_iinc (v := x_44) (lv' := [(7, .int x_44), (6, .int 0), (0, .ref (rt 51)), (1, .int (nI cn)), (2, .int (nI rd)), (3, .int pg), (4, .int b4), (5, .int b5)]) hx hb dX6_hinders_222 hl (k := 6) rfl (by rw [ex_44]; rfl) (by decide) rfl (fun ls hl => ?_)
                          refine lv_goto (tgt := 63) hx hb dX6_hinders_225 (by decide) ?_
                          obtain rfl : x_44 = nI (j + 1) := ex_44.trans (nI_1 j)
                          exact ih (n - 1) (by omega) _ _ _ ⟨j + 1, _, _, _, by omega, trivial, hP, hS, lv_sub hl [2, 3, 4, 5, 6, 7, 1, 0] rfl⟩
                        · skip
                          refine lv_iconst (v := 1) hx hb dX6_hinders_215 (by decide) ?_
                          refine lv_goto (tgt := 220) hx hb dX6_hinders_216 (by decide) ?_
                          refine lv_istore (lv' := [(6, .int 1), (0, .ref (rt 51)), (1, .int (nI cn)), (2, .int (nI rd)), (3, .int pg), (4, .int b4), (7, .int (nI j)), (5, .int b5)]) hx hb dX6_hinders_220 hl (by decide) rfl (fun ls hl => ?_)
                          obtain ⟨x_45, ex_45⟩ : ∃ y : Int32, y = (nI j) + 1 := ⟨_, rfl⟩
                          refine lv_iinc (v := x_45) (lv' := [(7, .int x_45), (6, .int 1), (0, .ref (rt 51)), (1, .int (nI cn)), (2, .int (nI rd)), (3, .int pg), (4, .int b4), (5, .int b5)]) hx hb dX6_hinders_222 hl (k := 6) rfl (by rw [ex_45]; rfl) (by decide) rfl (fun ls hl => ?_)
                          refine lv_goto (tgt := 63) hx hb dX6_hinders_225 (by decide) ?_
                          obtain rfl : x_45 = nI (j + 1) := ex_45.trans (nI_1 j)
                          exact ih (n - 1) (by omega) _ _ _ ⟨j + 1, _, _, _, by omega, trivial, hP, hS, lv_sub hl [2, 3, 4, 5, 6, 7, 1, 0] rfl⟩
                    · skip
                      refine lv_iload hx hb dX6_hinders_167 (lv_at hl 4 rfl) ?_
                      refine lv_if_ne (tgt := 192) hx hb dX6_hinders_169 (by decide) (fun c_46 => ?_) (fun c_46 => ?_)
                      · skip
                        refine lv_iconst (v := 1) hx hb dX6_hinders_192 (by decide) ?_
                        refine lv_goto (tgt := 197) hx hb dX6_hinders_193 (by decide) ?_
                        refine lv_istore (lv' := [(5, .int 1), (0, .ref (rt 51)), (1, .int (nI cn)), (2, .int (nI rd)), (3, .int pg), (6, .int a6), (7, .int (nI j)), (4, .int b4)]) hx hb dX6_hinders_197 hl (by decide) rfl (fun ls hl => ?_)
                        exact hJ_n _ _ _ ⟨_, trivial, hP, hS, lv_sub hl [1, 2, 3, 4, 7, 5, 6, 0] rfl⟩
                      · skip
                        refine lv_aload_n hx hb dX6_hinders_172 rfl (lv_at hl 0 rfl) ?_
                        refine g_get (ci := 6) (v := .ref (rt 21)) (C := RX6) (T := TX6) (N := 51) hx hb hts uB6 hown hK hP (hC.1.1 51 (by decide)) F_m rfl 21 (by decide) wm_49 (hC.2.2.2 21 (by decide)) dX6_hinders_173 ?_
                        refine lv_bipush (v := 40) hx hb dX6_hinders_176 (by decide) ?_
                        refine lv_iload_n hx hb dX6_hinders_178 rfl (lv_at hl 1 rfl) ?_
                        refine lv_imul hx hb dX6_hinders_179 ?_
                        refine lv_topi (fun x_47 ex_47 => ?_)
                        refine lv_aload_n hx hb dX6_hinders_180 rfl (lv_at hl 0 rfl) ?_
                        refine g_get (ci := 6) (v := .ref (rt 30)) (C := RX6) (T := TX6) (N := 51) hx hb hts uB6 hown hK hP (hC.1.1 51 (by decide)) F_m rfl 30 (by decide) wm_2 (hC.2.2.2 30 (by decide)) dX6_hinders_181 ?_
                        refine lv_iload hx hb dX6_hinders_184 (lv_at hl 6 rfl) ?_
                        refine g_iald hx hb hK hP (hC.1.1 30 (by decide)) F_saleOf (vp_in_nI (by omega) (by decide)) dX6_hinders_186 ?_
                        refine lv_topi (fun x_48 ex_48 => ?_)
                        rw [nI_clamp (by omega)] at ex_48
                        refine lv_iadd hx hb dX6_hinders_187 ?_
                        refine lv_topi (fun x_49 ex_49 => ?_)
                        refine g_zald hx hb hK hP (hC.1.1 21 (by decide)) F_apart (by subst ex_49 ex_48 ex_47; exact k_ap hc (hso j hjn)) dX6_hinders_188 ?_
                        refine lv_topi (fun x_50 ex_50 => ?_)
                        refine lv_if_eq (tgt := 196) hx hb dX6_hinders_189 (by decide) (fun c_51 => ?_) (fun c_51 => ?_)
                        · skip
                          refine lv_iconst (v := 0) hx hb dX6_hinders_196 (by decide) ?_
                          refine lv_istore (lv' := [(5, .int 0), (0, .ref (rt 51)), (1, .int (nI cn)), (2, .int (nI rd)), (3, .int pg), (6, .int a6), (7, .int (nI j)), (4, .int b4)]) hx hb dX6_hinders_197 hl (by decide) rfl (fun ls hl => ?_)
                          exact hJ_n _ _ _ ⟨_, trivial, hP, hS, lv_sub hl [1, 2, 3, 4, 7, 5, 6, 0] rfl⟩
                        · skip
                          refine lv_iconst (v := 1) hx hb dX6_hinders_192 (by decide) ?_
                          refine lv_goto (tgt := 197) hx hb dX6_hinders_193 (by decide) ?_
                          refine lv_istore (lv' := [(5, .int 1), (0, .ref (rt 51)), (1, .int (nI cn)), (2, .int (nI rd)), (3, .int pg), (6, .int a6), (7, .int (nI j)), (4, .int b4)]) hx hb dX6_hinders_197 hl (by decide) rfl (fun ls hl => ?_)
                          exact hJ_n _ _ _ ⟨_, trivial, hP, hS, lv_sub hl [1, 2, 3, 4, 7, 5, 6, 0] rfl⟩
                  · skip
                    refine lv_goto (tgt := 222) hx hb dX6_hinders_164 (by decide) ?_
                    obtain ⟨x_52, ex_52⟩ : ∃ y : Int32, y = (nI j) + 1 := ⟨_, rfl⟩
                    refine lv_iinc (v := x_52) (lv' := [(7, .int x_52), (0, .ref (rt 51)), (1, .int (nI cn)), (2, .int (nI rd)), (3, .int pg), (5, .int a5), (6, .int a6), (4, .int b4)]) hx hb dX6_hinders_222 hl (k := 6) rfl (by rw [ex_52]; rfl) (by decide) rfl (fun ls hl => ?_)
                    refine lv_goto (tgt := 63) hx hb dX6_hinders_225 (by decide) ?_
                    obtain rfl : x_52 = nI (j + 1) := ex_52.trans (nI_1 j)
                    exact ih (n - 1) (by omega) _ _ _ ⟨j + 1, _, _, _, by omega, trivial, hP, hS, lv_sub hl [1, 2, 3, 4, 7, 5, 6, 0] rfl⟩
              · skip
                refine lv_iload hx hb dX6_hinders_86 (lv_at hl 4 rfl) ?_
                refine lv_aload_n hx hb dX6_hinders_88 rfl (lv_at hl 0 rfl) ?_
                refine g_get (ci := 6) (v := .ref (rt 30)) (C := RX6) (T := TX6) (N := 51) hx hb hts uB6 hown hK hP (hC.1.1 51 (by decide)) F_m rfl 30 (by decide) wm_2 (hC.2.2.2 30 (by decide)) dX6_hinders_89 ?_
                refine lv_iload hx hb dX6_hinders_92 (lv_at hl 7 rfl) ?_
                refine g_iald hx hb hK hP (hC.1.1 30 (by decide)) F_saleOf (vp_in_nI (by omega) (by decide)) dX6_hinders_94 ?_
                refine lv_topi (fun x_53 ex_53 => ?_)
                rw [nI_clamp (by omega)] at ex_53
                refine lv_iload_n hx hb dX6_hinders_95 rfl (lv_at hl 1 rfl) ?_
                refine lv_icmp_ne (tgt := 135) hx hb dX6_hinders_96 (by decide) (fun c_54 => ?_) (fun c_54 => ?_)
                · skip
                  refine lv_iconst (v := 0) hx hb dX6_hinders_135 (by decide) ?_
                  refine lv_iadd hx hb dX6_hinders_136 ?_
                  refine lv_topi (fun x_55 ex_55 => ?_)
                  refine lv_istore (lv' := [(4, .int x_55), (0, .ref (rt 51)), (1, .int (nI cn)), (2, .int (nI rd)), (3, .int pg), (5, .int a5), (6, .int a6), (7, .int (nI j))]) hx hb dX6_hinders_137 hl (by decide) rfl (fun ls hl => ?_)
                  exact hJ_k _ _ _ ⟨_, trivial, hP, hS, lv_sub hl [1, 2, 3, 4, 5, 6, 7, 0] rfl⟩
                · skip
                  refine lv_aload_n hx hb dX6_hinders_99 rfl (lv_at hl 0 rfl) ?_
                  refine g_get (ci := 6) (v := .ref (rt 27)) (C := RX6) (T := TX6) (N := 51) hx hb hts uB6 hown hK hP (hC.1.1 51 (by decide)) F_m rfl 27 (by decide) wm_50 (hC.2.2.2 27 (by decide)) dX6_hinders_100 ?_
                  refine lv_iload hx hb dX6_hinders_103 (lv_at hl 7 rfl) ?_
                  refine g_iald hx hb hK hP (hC.1.1 27 (by decide)) F_saleReader (vp_in_nI (by omega) (by decide)) dX6_hinders_105 ?_
                  refine lv_topi (fun x_56 ex_56 => ?_)
                  rw [nI_clamp (by omega)] at ex_56
                  refine lv_iload_n hx hb dX6_hinders_106 rfl (lv_at hl 2 rfl) ?_
                  refine lv_icmp_ne (tgt := 135) hx hb dX6_hinders_107 (by decide) (fun c_57 => ?_) (fun c_57 => ?_)
                  · skip
                    refine lv_iconst (v := 0) hx hb dX6_hinders_135 (by decide) ?_
                    refine lv_iadd hx hb dX6_hinders_136 ?_
                    refine lv_topi (fun x_58 ex_58 => ?_)
                    refine lv_istore (lv' := [(4, .int x_58), (0, .ref (rt 51)), (1, .int (nI cn)), (2, .int (nI rd)), (3, .int pg), (5, .int a5), (6, .int a6), (7, .int (nI j))]) hx hb dX6_hinders_137 hl (by decide) rfl (fun ls hl => ?_)
                    exact hJ_k _ _ _ ⟨_, trivial, hP, hS, lv_sub hl [1, 2, 3, 4, 5, 6, 7, 0] rfl⟩
                  · skip
                    refine lv_aload_n hx hb dX6_hinders_110 rfl (lv_at hl 0 rfl) ?_
                    refine g_get (ci := 6) (v := .ref (rt 26)) (C := RX6) (T := TX6) (N := 51) hx hb hts uB6 hown hK hP (hC.1.1 51 (by decide)) F_m rfl 26 (by decide) wm_10 (hC.2.2.2 26 (by decide)) dX6_hinders_111 ?_
                    refine lv_iload hx hb dX6_hinders_114 (lv_at hl 7 rfl) ?_
                    refine g_iald hx hb hK hP (hC.1.1 26 (by decide)) F_saleTick (vp_in_nI (by omega) (by decide)) dX6_hinders_116 ?_
                    refine lv_topi (fun x_59 ex_59 => ?_)
                    rw [nI_clamp (by omega)] at ex_59
                    refine lv_aload_n hx hb dX6_hinders_117 rfl (lv_at hl 0 rfl) ?_
                    refine g_get (ci := 6) (v := .int t) (C := RX6) (T := TX6) (N := 51) hx hb hts uB6 hown hK hP (hC.1.1 51 (by decide)) F_m rfl 1 (by decide) wm_13 I_tick dX6_hinders_118 ?_
                    refine lv_aload_n hx hb dX6_hinders_121 rfl (lv_at hl 0 rfl) ?_
                    refine g_get (ci := 6) (v := .ref (rt 18)) (C := RX6) (T := TX6) (N := 51) hx hb hts uB6 hown hK hP (hC.1.1 51 (by decide)) F_m rfl 18 (by decide) wm_51 (hC.2.2.2 18 (by decide)) dX6_hinders_122 ?_
                    refine lv_iload_n hx hb dX6_hinders_125 rfl (lv_at hl 1 rfl) ?_
                    refine g_iald hx hb hK hP (hC.1.1 18 (by decide)) F_span (vp_in_nI (by omega) (by decide)) dX6_hinders_126 ?_
                    refine lv_topi (fun x_60 ex_60 => ?_)
                    rw [nI_clamp (by omega)] at ex_60
                    refine lv_isub hx hb dX6_hinders_127 ?_
                    refine lv_topi (fun x_61 ex_61 => ?_)
                    refine lv_icmp_le (tgt := 135) hx hb dX6_hinders_128 (by decide) (fun c_62 => ?_) (fun c_62 => ?_)
                    · skip
                      refine lv_iconst (v := 0) hx hb dX6_hinders_135 (by decide) ?_
                      refine lv_iadd hx hb dX6_hinders_136 ?_
                      refine lv_topi (fun x_63 ex_63 => ?_)
                      refine lv_istore (lv' := [(4, .int x_63), (0, .ref (rt 51)), (1, .int (nI cn)), (2, .int (nI rd)), (3, .int pg), (5, .int a5), (6, .int a6), (7, .int (nI j))]) hx hb dX6_hinders_137 hl (by decide) rfl (fun ls hl => ?_)
                      exact hJ_k _ _ _ ⟨_, trivial, hP, hS, lv_sub hl [1, 2, 3, 4, 5, 6, 7, 0] rfl⟩
                    · skip
                      refine lv_iconst (v := 1) hx hb dX6_hinders_131 (by decide) ?_
                      refine lv_goto (tgt := 136) hx hb dX6_hinders_132 (by decide) ?_
                      refine lv_iadd hx hb dX6_hinders_136 ?_
                      refine lv_topi (fun x_64 ex_64 => ?_)
                      refine lv_istore (lv' := [(4, .int x_64), (0, .ref (rt 51)), (1, .int (nI cn)), (2, .int (nI rd)), (3, .int pg), (5, .int a5), (6, .int a6), (7, .int (nI j))]) hx hb dX6_hinders_137 hl (by decide) rfl (fun ls hl => ?_)
                      exact hJ_k _ _ _ ⟨_, trivial, hP, hS, lv_sub hl [1, 2, 3, 4, 5, 6, 7, 0] rfl⟩
            · skip
              refine lv_goto (tgt := 222) hx hb dX6_hinders_83 (by decide) ?_
              obtain ⟨x_65, ex_65⟩ : ∃ y : Int32, y = (nI j) + 1 := ⟨_, rfl⟩
              refine lv_iinc (v := x_65) (lv' := [(7, .int x_65), (0, .ref (rt 51)), (1, .int (nI cn)), (2, .int (nI rd)), (3, .int pg), (4, .int a4), (5, .int a5), (6, .int a6)]) hx hb dX6_hinders_222 hl (k := 7) rfl (by rw [ex_65]; rfl) (by decide) rfl (fun ls hl => ?_)
              refine lv_goto (tgt := 63) hx hb dX6_hinders_225 (by decide) ?_
              obtain rfl : x_65 = nI (j + 1) := ex_65.trans (nI_1 j)
              exact ih (n - 1) (by omega) _ _ _ ⟨j + 1, _, _, _, by omega, trivial, hP, hS, lv_sub hl [1, 2, 3, 4, 5, 6, 7, 0] rfl⟩
      · skip
        refine lv_iconst (v := 2) hx hb dX6_hinders_49 (by decide) ?_
        exact W.iret (v := 2) hx hb hr (fun t ht hW => ⟨⟨2, (), rfl, trivial, trivial⟩, hS.F ht⟩) hS.2.2 dX6_hinders_50
  · skip
    refine lv_iconst (v := 1) hx hb dX6_hinders_9 (by decide) ?_
    exact W.iret (v := 1) hx hb hr (fun t ht hW => ⟨⟨1, (), rfl, trivial, trivial⟩, hS.F ht⟩) hS.2.2 dX6_hinders_10
set_option maxHeartbeats 4000000 in
set_option maxRecDepth 100000 in
theorem m_worthOf (l : Launch) (dC : Nat → ClassId) (dI : Nat → Nat → Nat) (K : Nat → ClassId) (L : List Nat) (f : Nat → va_E) (rt : Nat → Nat) {fm : List Value} (hC : mC rt L f fm) {g_sort : Nat → Int32} (F_sort : f (rt 10) = .inl (K 0, 40, .inl g_sort)) {g_bid : Nat → Int32} (F_bid : f (rt 14) = .inl (K 0, 40, .inl g_bid)) {g_pays : Nat → Int32} (F_pays : f (rt 11) = .inl (K 0, 40, .inl g_pays)) {g_promised : Nat → Int32} (F_promised : f (rt 22) = .inl (K 0, 40, .inl g_promised)) {g_promiseDay : Nat → Int32} (F_promiseDay : f (rt 23) = .inl (K 0, 40, .inl g_promiseDay)) {g_promiseFrom : Nat → Int32} (F_promiseFrom : f (rt 24) = .inl (K 0, 40, .inl g_promiseFrom)) {g_saleOf : Nat → Int32} (F_saleOf : f (rt 30) = .inl (K 0, 1000, .inl g_saleOf)) {g_state : Nat → Int32} (F_state : f (rt 32) = .inl (K 0, 1000, .inl g_state)) {g_saleTick : Nat → Int32} (F_saleTick : f (rt 26) = .inl (K 0, 1000, .inl g_saleTick)) {g_pressTick : Nat → Int32} (F_pressTick : f (rt 34) = .inl (K 0, 1000, .inl g_pressTick)) {ns : Nat} {t : Int32} (I_sales : fm[25]? = some (.int (nI ns))) (I_tick : fm[1]? = some (.int t)) (cn : Nat) (z : Nat) (hns : ns ≤ 1000) (hpb : ∀ c, c < 40 → g_promised c = 0 ∨ ∃ a d : Nat, d ≤ 100 ∧ a < 100 * d + 100 ∧ g_promiseDay c = nI d ∧ g_promiseFrom c = nI a) (hbd : ∀ c, c < 40 → ∃ b : Nat, b ≤ 1000 ∧ g_bid c = nI b) (hc : cn < 40) (hz : z ≤ 100) : gRl l yX6_worthOf cX6_worthOf 5 .long 2 (dC, dI) K L f [.ref (rt 51), .int (nI cn), .int (nI z)] (fun r => ∃ w9 : Nat, w9 ≤ 1002000000000 ∧ r = lN w9) := by
  refine Met.ofW (cc := cX6_worthOf) (maxL := 5) (ret := some .long) (by decide) rfl ?_
  intro p e s m args below meth c s₁ B hml hv
  obtain ⟨rfl, hP, hK⟩ := hv
  have F_m := hC.2.1
  have hx := B.exec
  have hb := B.bytes
  have hr := B.returns
  have hlocks := B.notSynchronized
  have hts0 := atoms_spec (ws := Cond.code yX6_worthOf cX6_worthOf 5 (some .long) :: lw_B) B.pre
  have hts : ∀ w ∈ lw_B, w.before _ s = true := fun w h => hts0 w (List.mem_cons_of_mem _ h)
  have hown : s.vm.findClass RX6 = some m.cls := findClass_of_methodNamed B.named
  have hS : va_S (fun _ => False) s.heap s.heap [] := va_S.rf
  have hl := lv_entry ([.ref (rt 51), .int (nI cn), .int (nI z)]) (n := 5) (Nat.le_of_ble_eq_true rfl)
  rw [lg_entry_eq]
  generalize (lg_sl ([.ref (rt 51), .int (nI cn), .int (nI z)]) ++ List.replicate (5 - (lg_sl ([.ref (rt 51), .int (nI cn), .int (nI z)])).length) Slot.unset).toArray = ls at hl ⊢
  have hl : lv_has ls 5 [(0, .ref (rt 51)), (1, .int (nI cn)), (2, .int (nI z))] := hl
  refine lv_aload_n hx hb dX6_worthOf_0 rfl (lv_at hl 0 rfl) ?_
  refine g_get (ci := 6) (v := .ref (rt 10)) (C := RX6) (T := TX6) (N := 51) hx hb hts uB6 hown hK hP (hC.1.1 51 (by decide)) F_m rfl 10 (by decide) wm_21 (hC.2.2.2 10 (by decide)) dX6_worthOf_1 ?_
  refine lv_iload_n hx hb dX6_worthOf_4 rfl (lv_at hl 1 rfl) ?_
  refine g_iald hx hb hK hP (hC.1.1 10 (by decide)) F_sort (vp_in_nI (by omega) (by decide)) dX6_worthOf_5 ?_
  refine lv_topi (fun x_1 ex_1 => ?_)
  rw [nI_clamp (by omega)] at ex_1
  refine lv_iconst (v := 2) hx hb dX6_worthOf_6 (by decide) ?_
  refine lv_icmp_ne (tgt := 12) hx hb dX6_worthOf_7 (by decide) (fun c_2 => ?_) (fun c_2 => ?_)
  · skip
    refine lv_ldc2 (v := 10000) hx hb hown (hts _ wm_52) dX6_worthOf_12 ?_
    refine lv_aload_n hx hb dX6_worthOf_15 rfl (lv_at hl 0 rfl) ?_
    refine g_get (ci := 6) (v := .ref (rt 14)) (C := RX6) (T := TX6) (N := 51) hx hb hts uB6 hown hK hP (hC.1.1 51 (by decide)) F_m rfl 14 (by decide) wm_43 (hC.2.2.2 14 (by decide)) dX6_worthOf_16 ?_
    refine lv_iload_n hx hb dX6_worthOf_19 rfl (lv_at hl 1 rfl) ?_
    refine g_iald hx hb hK hP (hC.1.1 14 (by decide)) F_bid (vp_in_nI (by omega) (by decide)) dX6_worthOf_20 ?_
    refine lv_topi (fun x_3 ex_3 => ?_)
    rw [nI_clamp (by omega)] at ex_3
    refine lv_i2l hx hb dX6_worthOf_21 rfl ?_
    refine lv_topl (fun x_4 ex_4 => ?_)
    refine lv_lmul hx hb dX6_worthOf_22 ?_
    refine lv_topl (fun x_5 ex_5 => ?_)
    refine lv_iload_n hx hb dX6_worthOf_23 rfl (lv_at hl 2 rfl) ?_
    refine lv_i2l hx hb dX6_worthOf_24 rfl ?_
    refine lv_topl (fun x_6 ex_6 => ?_)
    refine lv_lmul hx hb dX6_worthOf_25 ?_
    refine lv_topl (fun x_7 ex_7 => ?_)
    obtain ⟨b9, hb9, eb9⟩ := hbd cn hc
    obtain ⟨w9, hw9, rfl⟩ : ∃ w9 : Nat, w9 ≤ 1000000000 ∧ x_7 = lN w9 := ⟨10000 * b9 * z, k_w3 hb9 hz, by subst ex_1 ex_3 ex_4 ex_5 ex_6 ex_7; rw [eb9]; exact k_w1 hb9 hz⟩
    refine lv_lstore_n (lv' := [(3, .long (lN w9)), (0, .ref (rt 51)), (1, .int (nI cn)), (2, .int (nI z))]) hx hb dX6_worthOf_26 rfl hl (by decide) rfl (fun ls hl => ?_)
    refine lv_aload_n hx hb dX6_worthOf_27 rfl (lv_at hl 1 rfl) ?_
    refine g_get (ci := 6) (v := .ref (rt 11)) (C := RX6) (T := TX6) (N := 51) hx hb hts uB6 hown hK hP (hC.1.1 51 (by decide)) F_m rfl 11 (by decide) wm_1 (hC.2.2.2 11 (by decide)) dX6_worthOf_28 ?_
    refine lv_iload_n hx hb dX6_worthOf_31 rfl (lv_at hl 2 rfl) ?_
    refine g_iald hx hb hK hP (hC.1.1 11 (by decide)) F_pays (vp_in_nI (by omega) (by decide)) dX6_worthOf_32 ?_
    refine lv_topi (fun x_8 ex_8 => ?_)
    rw [nI_clamp (by omega)] at ex_8
    refine lv_iconst (v := 1) hx hb dX6_worthOf_33 (by decide) ?_
    refine lv_icmp_ne (tgt := 66) hx hb dX6_worthOf_34 (by decide) (fun c_9 => ?_) (fun c_9 => ?_)
    · skip
      refine lv_aload_n hx hb dX6_worthOf_66 rfl (lv_at hl 1 rfl) ?_
      refine lv_iload_n hx hb dX6_worthOf_67 rfl (lv_at hl 2 rfl) ?_
      refine gc_R (ci := 6) ⟨hx, hb, hml, hown, hts⟩ (m_isBehind l dC dI K L f rt hC F_sort F_promised F_promiseDay F_promiseFrom F_saleOf F_state F_saleTick I_sales I_tick cn hns hpb hc) 1 wm_53 wm_54 wm_55 wm_8 wm_56 (by decide +kernel) ⟨Nat.le_of_ble_eq_true rfl, Nat.le_of_ble_eq_true rfl⟩ hK rfl (hC.1.1 51 (by decide)) F_m rfl hl.1 rfl (Nat.le_of_ble_eq_true rfl) dX6_worthOf_68 ⟨Nat.le_of_ble_eq_true rfl, Nat.le_of_ble_eq_true rfl⟩ hS hP (fun r_10 H locs hpr_10 hP hS => ?_)
      refine lv_if_eq (tgt := 82) hx hb dX6_worthOf_71 (by decide) (fun c_11 => ?_) (fun c_11 => ?_)
      · skip
        refine lv_lload_n hx hb dX6_worthOf_82 rfl (lv_at hl 0 rfl) ?_
        exact W.lret (v := lN w9) hx hb hr (fun t ht hW => ⟨⟨lN w9, (), rfl, ⟨_, by omega, rfl⟩, trivial⟩, hS.F ht⟩) hS.2.2 dX6_worthOf_83
      · skip
        refine lv_lload_n hx hb dX6_worthOf_74 rfl (lv_at hl 0 rfl) ?_
        refine lv_ldc2 (v := 1000000000) hx hb hown (hts _ wm_57) dX6_worthOf_75 ?_
        refine lv_ladd hx hb dX6_worthOf_78 ?_
        refine lv_topl (fun x_12 ex_12 => ?_)
        refine lv_goto (tgt := 83) hx hb dX6_worthOf_79 (by decide) ?_
        exact W.lret (v := x_12) hx hb hr (fun t ht hW => ⟨⟨x_12, (), rfl, (by subst ex_8 ex_12; exact ⟨_, by omega, (lN_add _ 1000000000)⟩), trivial⟩, hS.F ht⟩) hS.2.2 dX6_worthOf_83
    · skip
      refine lv_lload_n hx hb dX6_worthOf_37 rfl (lv_at hl 0 rfl) ?_
      refine lv_aload_n hx hb dX6_worthOf_38 rfl (lv_at hl 1 rfl) ?_
      refine lv_iload_n hx hb dX6_worthOf_39 rfl (lv_at hl 2 rfl) ?_
      refine lv_aload_n hx hb dX6_worthOf_40 rfl (lv_at hl 1 rfl) ?_
      refine g_get (ci := 6) (v := .int t) (C := RX6) (T := TX6) (N := 51) hx hb hts uB6 hown hK hP (hC.1.1 51 (by decide)) F_m rfl 1 (by decide) wm_13 I_tick dX6_worthOf_41 ?_
      refine gc_R (ci := 6) ⟨hx, hb, hml, hown, hts⟩ (m_presses l dC dI K L f rt hC F_saleOf F_state F_pressTick I_sales (nI cn) t hns) 2 wm_58 wm_59 wm_60 wm_8 wm_61 (by decide +kernel) ⟨Nat.le_of_ble_eq_true rfl, Nat.le_of_ble_eq_true rfl⟩ hK rfl (hC.1.1 51 (by decide)) F_m rfl hl.1 rfl (Nat.le_of_ble_eq_true rfl) dX6_worthOf_44 ⟨Nat.le_of_ble_eq_true rfl, Nat.le_of_ble_eq_true rfl⟩ hS hP (fun r_13 H locs hpr_13 hP hS => ?_)
      obtain ⟨q1, hq1, rfl⟩ := hpr_13
      refine lv_iconst (v := 1) hx hb dX6_worthOf_47 (by decide) ?_
      refine lv_iadd hx hb dX6_worthOf_48 ?_
      refine lv_topi (fun x_14 ex_14 => ?_)
      refine lv_i2l hx hb dX6_worthOf_49 rfl ?_
      refine lv_topl (fun x_15 ex_15 => ?_)
      refine lv_lmul hx hb dX6_worthOf_50 ?_
      refine lv_topl (fun x_16 ex_16 => ?_)
      refine lv_aload_n hx hb dX6_worthOf_51 rfl (lv_at hl 1 rfl) ?_
      refine lv_iload_n hx hb dX6_worthOf_52 rfl (lv_at hl 2 rfl) ?_
      refine lv_aload_n hx hb dX6_worthOf_53 rfl (lv_at hl 1 rfl) ?_
      refine g_get (ci := 6) (v := .int t) (C := RX6) (T := TX6) (N := 51) hx hb hts uB6 hown hK hP (hC.1.1 51 (by decide)) F_m rfl 1 (by decide) wm_13 I_tick dX6_worthOf_54 ?_
      refine gc_R (ci := 6) ⟨hx, hb, hml, hown, hts⟩ (m_showings l dC dI K L f rt hC F_saleOf F_state F_saleTick I_sales (nI cn) t hns) 2 wm_23 wm_24 wm_25 wm_8 wm_26 (by decide +kernel) ⟨Nat.le_of_ble_eq_true rfl, Nat.le_of_ble_eq_true rfl⟩ hK rfl (hC.1.1 51 (by decide)) F_m rfl hl.1 rfl (Nat.le_of_ble_eq_true rfl) dX6_worthOf_57 ⟨Nat.le_of_ble_eq_true rfl, Nat.le_of_ble_eq_true rfl⟩ hS hP (fun r_17 H locs hpr_17 hP hS => ?_)
      obtain ⟨q2, hq2, rfl⟩ := hpr_17
      refine lv_bipush (v := 20) hx hb dX6_worthOf_60 (by decide) ?_
      refine lv_iadd hx hb dX6_worthOf_62 ?_
      refine lv_topi (fun x_18 ex_18 => ?_)
      refine lv_i2l hx hb dX6_worthOf_63 rfl ?_
      refine lv_topl (fun x_19 ex_19 => ?_)
      refine lv_ldiv hx hb dX6_worthOf_64 (by subst ex_8 ex_14 ex_15 ex_16 ex_18 ex_19; exact k_20 (by omega)) ?_
      refine lv_topl (fun x_20 ex_20 => ?_)
      obtain ⟨w92, hw92, rfl⟩ : ∃ w92 : Nat, w92 ≤ 1001000000000 ∧ x_20 = lN w92 := ⟨_, k_w4 (q := q1) (r := q2) hw9 (by omega), by subst ex_8 ex_14 ex_15 ex_16 ex_18 ex_19 ex_20; exact k_w2 hw9 (by omega) (by omega)⟩
      refine lv_lstore_n (lv' := [(3, .long (lN w92)), (0, .ref (rt 51)), (1, .int (nI cn)), (2, .int (nI z))]) hx hb dX6_worthOf_65 rfl hl (by decide) rfl (fun ls hl => ?_)
      refine lv_aload_n hx hb dX6_worthOf_66 rfl (lv_at hl 1 rfl) ?_
      refine lv_iload_n hx hb dX6_worthOf_67 rfl (lv_at hl 2 rfl) ?_
      refine gc_R (ci := 6) ⟨hx, hb, hml, hown, hts⟩ (m_isBehind l dC dI K L f rt hC F_sort F_promised F_promiseDay F_promiseFrom F_saleOf F_state F_saleTick I_sales I_tick cn hns hpb hc) 1 wm_53 wm_54 wm_55 wm_8 wm_56 (by decide +kernel) ⟨Nat.le_of_ble_eq_true rfl, Nat.le_of_ble_eq_true rfl⟩ hK rfl (hC.1.1 51 (by decide)) F_m rfl hl.1 rfl (Nat.le_of_ble_eq_true rfl) dX6_worthOf_68 ⟨Nat.le_of_ble_eq_true rfl, Nat.le_of_ble_eq_true rfl⟩ hS hP (fun r_21 H locs hpr_21 hP hS => ?_)
      refine lv_if_eq (tgt := 82) hx hb dX6_worthOf_71 (by decide) (fun c_22 => ?_) (fun c_22 => ?_)
      · skip
        refine lv_lload_n hx hb dX6_worthOf_82 rfl (lv_at hl 0 rfl) ?_
        exact W.lret (v := lN w92) hx hb hr (fun t ht hW => ⟨⟨lN w92, (), rfl, ⟨_, by omega, rfl⟩, trivial⟩, hS.F ht⟩) hS.2.2 dX6_worthOf_83
      · skip
        refine lv_lload_n hx hb dX6_worthOf_74 rfl (lv_at hl 0 rfl) ?_
        refine lv_ldc2 (v := 1000000000) hx hb hown (hts _ wm_57) dX6_worthOf_75 ?_
        refine lv_ladd hx hb dX6_worthOf_78 ?_
        refine lv_topl (fun x_23 ex_23 => ?_)
        refine lv_goto (tgt := 83) hx hb dX6_worthOf_79 (by decide) ?_
        exact W.lret (v := x_23) hx hb hr (fun t ht hW => ⟨⟨x_23, (), rfl, (by subst ex_23; exact ⟨_, by omega, (lN_add _ 1000000000)⟩), trivial⟩, hS.F ht⟩) hS.2.2 dX6_worthOf_83
  · skip
    refine lv_lconst (v := 0) hx hb dX6_worthOf_10 rfl ?_
    exact W.lret (v := 0) hx hb hr (fun t ht hW => ⟨⟨0, (), rfl, ⟨0, by omega, rfl⟩, trivial⟩, hS.F ht⟩) hS.2.2 dX6_worthOf_11
end
section
theorem k_ap2 {x y : Int32} (hx : vp_in x 40) (hy : vp_in y 40) : vp_in (40 * x + y) 1600 := by
  obtain ⟨q, hq, rfl⟩ := vp_in_of hx (by decide)
  exact k_ap hq hy
/-- the k-th taken one stands beside i -/
def fitA (ga gb gp : Nat → Int32) (mm i k : Nat) : Prop := ¬ ga k = nI i ∧ ¬ (ga k < nI mm ∧ ¬ gp (Int32.toNatClampNeg (40 * gb i + gb (Int32.toNatClampNeg (ga k)))) = 0)
/-- i may stand behind the dp taken ones -/
def fitP (ga gb gp : Nat → Int32) (mm i dp : Nat) (wo : Int32) : Prop := ¬ nI i = wo ∧ ∀ k, k < dp → fitA ga gb gp mm i k
set_option maxHeartbeats 4000000 in
set_option maxRecDepth 100000 in
theorem m_fits (l : Launch) (dC : Nat → ClassId) (dI : Nat → Nat → Nat) (K : Nat → ClassId) (L : List Nat) (f : Nat → va_E) (rt : Nat → Nat) {fm : List Value} (hC : mC rt L f fm) {g_at : Nat → Int32} (F_at : f (rt 40) = .inl (K 0, 5, .inl g_at)) {g_mayBe : Nat → Int32} (F_mayBe : f (rt 36) = .inl (K 0, 40, .inl g_mayBe)) {g_apart : Nat → Int32} (F_apart : f (rt 21) = .inl (K 2, 1600, .inl g_apart)) {mm : Nat} (I_may : fm[35]? = some (.int (nI mm))) (i : Nat) (dp : Nat) (wo : Int32) (hmm : mm ≤ 40) (hi : i < mm) (hdp : dp ≤ 4) (hat : ∀ k, k < dp → ∃ q : Nat, q ≤ mm ∧ g_at k = nI q) (hmb : ∀ k, k < mm → vp_in (g_mayBe k) 40) : gR l yX6_fits cX6_fits 6 .boolean 0 (dC, dI) K L f [.ref (rt 51), .int (nI i), .int (nI dp), .int wo] (fun r => (r = 1 ∧ fitP g_at g_mayBe g_apart mm i dp wo) ∨ (r = 0 ∧ ¬ fitP g_at g_mayBe g_apart mm i dp wo)) := by
  refine Met.ofW (cc := cX6_fits) (maxL := 6) (ret := some .boolean) (by decide) rfl ?_
  intro p e s m args below meth c s₁ B hml hv
  obtain ⟨rfl, hP, hK⟩ := hv
  have F_m := hC.2.1
  have hx := B.exec
  have hb := B.bytes
  have hr := B.returns
  have hlocks := B.notSynchronized
  have hts0 := atoms_spec (ws := Cond.code yX6_fits cX6_fits 6 (some .boolean) :: lw_B) B.pre
  have hts : ∀ w ∈ lw_B, w.before _ s = true := fun w h => hts0 w (List.mem_cons_of_mem _ h)
  have hown : s.vm.findClass RX6 = some m.cls := findClass_of_methodNamed B.named
  have hS : va_S (fun _ => False) s.heap s.heap [] := va_S.rf
  have hl := lv_entry ([.ref (rt 51), .int (nI i), .int (nI dp), .int wo]) (n := 6) (Nat.le_of_ble_eq_true rfl)
  rw [lg_entry_eq]
  generalize (lg_sl ([.ref (rt 51), .int (nI i), .int (nI dp), .int wo]) ++ List.replicate (6 - (lg_sl ([.ref (rt 51), .int (nI i), .int (nI dp), .int wo])).length) Slot.unset).toArray = ls at hl ⊢
  have hl : lv_has ls 6 [(0, .ref (rt 51)), (1, .int (nI i)), (2, .int (nI dp)), (3, .int wo)] := hl
  refine lv_iload_n hx hb dX6_fits_0 rfl (lv_at hl 1 rfl) ?_
  refine lv_iload_n hx hb dX6_fits_1 rfl (lv_at hl 3 rfl) ?_
  refine lv_icmp_ne (tgt := 7) hx hb dX6_fits_2 (by decide) (fun c_1 => ?_) (fun c_1 => ?_)
  · skip
    have hwo := c_1
    refine lv_iconst (v := 0) hx hb dX6_fits_7 (by decide) ?_
    refine lv_istore (lv' := [(4, .int 0), (0, .ref (rt 51)), (1, .int (nI i)), (2, .int (nI dp)), (3, .int wo)]) hx hb dX6_fits_8 hl (by decide) rfl (fun ls hl => ?_)
    refine k_lx (pcx := 73) (fun n H locs ls => ∃ (j : Nat), j + n = dp ∧ (∀ k, k < j → fitA g_at g_mayBe g_apart mm i k) ∧ va_P (dC, dI) vwCl (va_pl L f) H ∧ va_S (fun _ => False) s.heap H locs ∧ lv_has ls 6 [(0, .ref (rt 51)), (1, .int (nI i)), (2, .int (nI dp)), (3, .int wo), (4, .int (nI j))]) (fun H locs ls => ∃ (j : Nat), j = dp ∧ (∀ k, k < j → fitA g_at g_mayBe g_apart mm i k) ∧ va_P (dC, dI) vwCl (va_pl L f) H ∧ va_S (fun _ => False) s.heap H locs ∧ lv_has ls 6 [(0, .ref (rt 51)), (1, .int (nI i)), (2, .int (nI dp)), (3, .int wo), (4, .int (nI j))]) (fun H locs ls hI => ?_) (fun n H locs ls hI hE ih => ?_) dp _ _ _ ⟨0, by omega, fun k hk => absurd hk (Nat.not_lt_zero k), hP, hS, lv_sub hl [1, 2, 3, 4, 0] rfl⟩
    · skip
      obtain ⟨j, hj, hacc, hP, hS, hl⟩ := hI
      refine lv_iconst (v := 1) hx hb dX6_fits_73 (by decide) ?_
      exact W.zret (v := 1) hx hb hr rfl (fun t ht hW => ⟨⟨1, (), rfl, Or.inl ⟨rfl, hwo, fun k hk => hacc k (by omega)⟩, trivial⟩, hS.F ht⟩) hS.2.2 dX6_fits_74
    · skip
      obtain ⟨j, hj, hacc, hP, hS, hl⟩ := hI
      refine lv_iload hx hb dX6_fits_10 (lv_at hl 4 rfl) ?_
      refine lv_iload_n hx hb dX6_fits_12 rfl (lv_at hl 2 rfl) ?_
      refine lv_icmp_ge (tgt := 73) hx hb dX6_fits_13 (by decide) (fun c_2 => ?_) (fun c_2 => ?_)
      · skip
        have hjn : j = dp := by have := (nI_leI (a := dp) (b := j) (by omega) (by omega)).mp c_2; omega
        exact hE _ _ _ ⟨j, by omega, hacc, hP, hS, lv_sub hl [0, 1, 2, 3, 4] rfl⟩
      · skip
        have hjn : j < dp := by rcases Nat.lt_or_ge j dp with q | q; exact q; exact absurd (nI_le q (by omega)) c_2
        refine lv_aload_n hx hb dX6_fits_16 rfl (lv_at hl 0 rfl) ?_
        refine g_get (ci := 6) (v := .ref (rt 40)) (C := RX6) (T := TX6) (N := 51) hx hb hts uB6 hown hK hP (hC.1.1 51 (by decide)) F_m rfl 40 (by decide) wm_62 (hC.2.2.2 40 (by decide)) dX6_fits_17 ?_
        refine lv_iload hx hb dX6_fits_20 (lv_at hl 4 rfl) ?_
        refine g_iald hx hb hK hP (hC.1.1 40 (by decide)) F_at (vp_in_nI (by omega) (by decide)) dX6_fits_22 ?_
        refine lv_topi (fun x_3 ex_3 => ?_)
        rw [nI_clamp (by omega)] at ex_3
        refine lv_istore (lv' := [(5, .int x_3), (0, .ref (rt 51)), (1, .int (nI i)), (2, .int (nI dp)), (3, .int wo), (4, .int (nI j))]) hx hb dX6_fits_23 hl (by decide) rfl (fun ls hl => ?_)
        refine lv_iload hx hb dX6_fits_25 (lv_at hl 0 rfl) ?_
        refine lv_iload_n hx hb dX6_fits_27 rfl (lv_at hl 2 rfl) ?_
        refine lv_icmp_eq (tgt := 65) hx hb dX6_fits_28 (by decide) (fun c_4 => ?_) (fun c_4 => ?_)
        · skip
          refine lv_iconst (v := 0) hx hb dX6_fits_65 (by decide) ?_
          exact W.zret (v := 0) hx hb hr rfl (fun t ht hW => ⟨⟨0, (), rfl, Or.inr ⟨rfl, fun q => (q.2 j hjn).1 (ex_3.symm.trans c_4)⟩, trivial⟩, hS.F ht⟩) hS.2.2 dX6_fits_66
        · skip
          have hne9 : ¬ g_at j = nI i := fun q => c_4 (ex_3.trans q)
          refine lv_iload hx hb dX6_fits_31 (lv_at hl 0 rfl) ?_
          refine lv_aload_n hx hb dX6_fits_33 rfl (lv_at hl 1 rfl) ?_
          refine g_get (ci := 6) (v := .int (nI mm)) (C := RX6) (T := TX6) (N := 51) hx hb hts uB6 hown hK hP (hC.1.1 51 (by decide)) F_m rfl 35 (by decide) wm_63 I_may dX6_fits_34 ?_
          refine lv_icmp_ge (tgt := 67) hx hb dX6_fits_37 (by decide) (fun c_5 => ?_) (fun c_5 => ?_)
          · skip
            have hfit : fitA g_at g_mayBe g_apart mm i j := ⟨hne9, fun q => by have q1 := q.1; rw [← ex_3] at q1; simp only [Int32.lt_iff_toInt_lt, Int32.le_iff_toInt_le] at q1 c_5; omega⟩
            obtain ⟨x_6, ex_6⟩ : ∃ y : Int32, y = (nI j) + 1 := ⟨_, rfl⟩
            refine lv_iinc (v := x_6) (lv' := [(4, .int x_6), (5, .int x_3), (0, .ref (rt 51)), (1, .int (nI i)), (2, .int (nI dp)), (3, .int wo)]) hx hb dX6_fits_67 hl (k := 5) rfl (by rw [ex_6]; rfl) (by decide) rfl (fun ls hl => ?_)
            refine lv_goto (tgt := 10) hx hb dX6_fits_70 (by decide) ?_
            obtain rfl : x_6 = nI (j + 1) := ex_6.trans (nI_1 j)
            exact ih (n - 1) (by omega) _ _ _ ⟨j + 1, by omega, fun k hk => (Nat.lt_or_eq_of_le (Nat.le_of_lt_succ hk)).elim (hacc k) (fun q => by rw [q]; exact hfit), hP, hS, lv_sub hl [2, 3, 4, 5, 0] rfl⟩
          · skip
            obtain ⟨q9, hq9, eq9⟩ := hat j hjn
            obtain rfl : x_3 = nI q9 := ex_3.trans eq9
            have hqm : q9 < mm := by rcases Nat.lt_or_ge q9 mm with q | q; exact q; exact absurd (nI_le q (by omega)) c_5
            refine lv_aload_n hx hb dX6_fits_40 rfl (lv_at hl 1 rfl) ?_
            refine g_get (ci := 6) (v := .ref (rt 21)) (C := RX6) (T := TX6) (N := 51) hx hb hts uB6 hown hK hP (hC.1.1 51 (by decide)) F_m rfl 21 (by decide) wm_49 (hC.2.2.2 21 (by decide)) dX6_fits_41 ?_
            refine lv_bipush (v := 40) hx hb dX6_fits_44 (by decide) ?_
            refine lv_aload_n hx hb dX6_fits_46 rfl (lv_at hl 1 rfl) ?_
            refine g_get (ci := 6) (v := .ref (rt 36)) (C := RX6) (T := TX6) (N := 51) hx hb hts uB6 hown hK hP (hC.1.1 51 (by decide)) F_m rfl 36 (by decide) wm_64 (hC.2.2.2 36 (by decide)) dX6_fits_47 ?_
            refine lv_iload_n hx hb dX6_fits_50 rfl (lv_at hl 2 rfl) ?_
            refine g_iald hx hb hK hP (hC.1.1 36 (by decide)) F_mayBe (vp_in_nI (by omega) (by decide)) dX6_fits_51 ?_
            refine lv_topi (fun x_7 ex_7 => ?_)
            rw [nI_clamp (by omega)] at ex_7
            refine lv_imul hx hb dX6_fits_52 ?_
            refine lv_topi (fun x_8 ex_8 => ?_)
            refine lv_aload_n hx hb dX6_fits_53 rfl (lv_at hl 1 rfl) ?_
            refine g_get (ci := 6) (v := .ref (rt 36)) (C := RX6) (T := TX6) (N := 51) hx hb hts uB6 hown hK hP (hC.1.1 51 (by decide)) F_m rfl 36 (by decide) wm_64 (hC.2.2.2 36 (by decide)) dX6_fits_54 ?_
            refine lv_iload hx hb dX6_fits_57 (lv_at hl 0 rfl) ?_
            refine g_iald hx hb hK hP (hC.1.1 36 (by decide)) F_mayBe (vp_in_nI (by omega) (by decide)) dX6_fits_59 ?_
            refine lv_topi (fun x_9 ex_9 => ?_)
            rw [nI_clamp (by omega)] at ex_9
            refine lv_iadd hx hb dX6_fits_60 ?_
            refine lv_topi (fun x_10 ex_10 => ?_)
            refine g_zald hx hb hK hP (hC.1.1 21 (by decide)) F_apart (by subst ex_10 ex_9 ex_8 ex_7; exact k_ap2 (hmb i hi) (hmb q9 hqm)) dX6_fits_61 ?_
            refine lv_topi (fun x_11 ex_11 => ?_)
            refine lv_if_eq (tgt := 67) hx hb dX6_fits_62 (by decide) (fun c_12 => ?_) (fun c_12 => ?_)
            · skip
              have hz9 : x_11 = g_apart (Int32.toNatClampNeg (40 * g_mayBe i + g_mayBe (Int32.toNatClampNeg (g_at j)))) := by rw [eq9, nI_clamp (by omega)]; subst ex_11 ex_10 ex_9 ex_8 ex_7; rfl
              have hfit : fitA g_at g_mayBe g_apart mm i j := ⟨hne9, fun q => q.2 (hz9.symm.trans c_12)⟩
              obtain ⟨x_13, ex_13⟩ : ∃ y : Int32, y = (nI j) + 1 := ⟨_, rfl⟩
              refine lv_iinc (v := x_13) (lv' := [(4, .int x_13), (5, .int (nI q9)), (0, .ref (rt 51)), (1, .int (nI i)), (2, .int (nI dp)), (3, .int wo)]) hx hb dX6_fits_67 hl (k := 5) rfl (by rw [ex_13]; rfl) (by decide) rfl (fun ls hl => ?_)
              refine lv_goto (tgt := 10) hx hb dX6_fits_70 (by decide) ?_
              obtain rfl : x_13 = nI (j + 1) := ex_13.trans (nI_1 j)
              exact ih (n - 1) (by omega) _ _ _ ⟨j + 1, by omega, fun k hk => (Nat.lt_or_eq_of_le (Nat.le_of_lt_succ hk)).elim (hacc k) (fun q => by rw [q]; exact hfit), hP, hS, lv_sub hl [2, 3, 4, 5, 0] rfl⟩
            · skip
              have hz9 : x_11 = g_apart (Int32.toNatClampNeg (40 * g_mayBe i + g_mayBe (Int32.toNatClampNeg (g_at j)))) := by rw [eq9, nI_clamp (by omega)]; subst ex_11 ex_10 ex_9 ex_8 ex_7; rfl
              refine lv_iconst (v := 0) hx hb dX6_fits_65 (by decide) ?_
              exact W.zret (v := 0) hx hb hr rfl (fun t ht hW => ⟨⟨0, (), rfl, Or.inr ⟨rfl, fun q => (q.2 j hjn).2 ⟨by rw [eq9]; exact nI_lt hqm (by omega), fun z => c_12 (hz9.trans z)⟩⟩, trivial⟩, hS.F ht⟩) hS.2.2 dX6_fits_66
  · skip
    refine lv_iconst (v := 0) hx hb dX6_fits_5 (by decide) ?_
    exact W.zret (v := 0) hx hb hr rfl (fun t ht hW => ⟨⟨0, (), rfl, Or.inr ⟨rfl, fun q => q.1 c_1⟩, trivial⟩, hS.F ht⟩) hS.2.2 dX6_fits_6
end
section
theorem k_ix {x : Int32} {n : Nat} (h : 0 ≤ x ∧ x ≤ nI n - 1) (hn : n ≤ 1000) : ∃ q : Nat, q < n ∧ x = nI q := by
  obtain ⟨j, hj, rfl⟩ := nI_of (x := x) (by have h1 := h.1; simp only [Int32.lt_iff_toInt_lt, Int32.le_iff_toInt_le] at h1 ⊢; omega)
  have h2 := h.2
  rcases Nat.eq_zero_or_pos n with q | q
  · subst q
    rw [show nI 0 - 1 = (-1 : Int32) from by decide] at h2
    have h1 := h.1
    simp only [Int32.le_iff_toInt_le, Int32.reduceToInt] at h1 h2
    have := (show (-1 : Int32).toInt = -1 from rfl)
    omega
  · obtain ⟨n9, rfl⟩ : ∃ n9, n = n9 + 1 := ⟨n - 1, by omega⟩
    rw [nI_pred] at h2
    exact ⟨j, by have := (nI_leI hj (by omega)).mp h2; omega, rfl⟩
set_option maxHeartbeats 4000000 in
set_option maxRecDepth 100000 in
theorem m_isPage (l : Launch) (dC : Nat → ClassId) (dI : Nat → Nat → Nat) (K : Nat → ClassId) (L : List Nat) (f : Nat → va_E) (rt : Nat → Nat) {fm : List Value} (hC : mC rt L f fm) {n9 : Int32} (I_pages : fm[5]? = some (.int n9)) (x : Int32) : gR l yX6_isPage cX6_isPage 2 .boolean 1 (dC, dI) K L f [.ref (rt 51), .int x] (fun r => r = if 0 ≤ x ∧ x ≤ n9 - 1 then 1 else 0) := by
  refine Met.ofW (cc := cX6_isPage) (maxL := 2) (ret := some .boolean) (by decide) rfl ?_
  intro p e s m args below meth c s₁ B hml hv
  obtain ⟨rfl, hP, hK⟩ := hv
  have F_m := hC.2.1
  have hx := B.exec
  have hb := B.bytes
  have hr := B.returns
  have hlocks := B.notSynchronized
  have hts0 := atoms_spec (ws := Cond.code yX6_isPage cX6_isPage 2 (some .boolean) :: lw_B) B.pre
  have hts : ∀ w ∈ lw_B, w.before _ s = true := fun w h => hts0 w (List.mem_cons_of_mem _ h)
  have hown : s.vm.findClass RX6 = some m.cls := findClass_of_methodNamed B.named
  have hS : va_S (fun _ => False) s.heap s.heap [] := va_S.rf
  have hl := lv_entry ([.ref (rt 51), .int x]) (n := 2) (Nat.le_of_ble_eq_true rfl)
  rw [lg_entry_eq]
  generalize (lg_sl ([.ref (rt 51), .int x]) ++ List.replicate (2 - (lg_sl ([.ref (rt 51), .int x])).length) Slot.unset).toArray = ls at hl ⊢
  have hl : lv_has ls 2 [(0, .ref (rt 51)), (1, .int x)] := hl
  refine lv_iload_n hx hb dX6_isPage_0 rfl (lv_at hl 1 rfl) ?_
  refine lv_iconst (v := 0) hx hb dX6_isPage_1 (by decide) ?_
  refine lv_aload_n hx hb dX6_isPage_2 rfl (lv_at hl 0 rfl) ?_
  refine g_get (ci := 6) (v := .int n9) (C := RX6) (T := TX6) (N := 51) hx hb hts uB6 hown hK hP (hC.1.1 51 (by decide)) F_m rfl 5 (by decide) wm_75 I_pages dX6_isPage_3 ?_
  refine lv_iconst (v := 1) hx hb dX6_isPage_6 (by decide) ?_
  refine lv_isub hx hb dX6_isPage_7 ?_
  refine lv_topi (fun x_1 ex_1 => ?_)
  refine k_S ⟨hx, hb, hml, hown, hts⟩ (c_in l x 0 x_1) 3 wm_69 wm_70 wm_8 wm_71 (by decide +kernel) ⟨Nat.le_of_ble_eq_true rfl, Nat.le_of_ble_eq_true rfl⟩ rfl hl.1 rfl (Nat.le_of_ble_eq_true rfl) dX6_isPage_8 ⟨Nat.le_of_ble_eq_true rfl, Nat.le_of_ble_eq_true rfl⟩ hS hP (fun r_2 H locs hpr_2 hP hS => ?_)
  exact W.zret (v := r_2) hx hb hr (by rw [hpr_2]; split <;> rfl) (fun t ht hW => ⟨⟨r_2, (), rfl, (by rw [hpr_2, ex_1]), trivial⟩, hS.F ht⟩) hS.2.2 dX6_isPage_11
set_option maxHeartbeats 4000000 in
set_option maxRecDepth 100000 in
theorem m_isCampaign (l : Launch) (dC : Nat → ClassId) (dI : Nat → Nat → Nat) (K : Nat → ClassId) (L : List Nat) (f : Nat → va_E) (rt : Nat → Nat) {fm : List Value} (hC : mC rt L f fm) {n9 : Int32} (I_campaigns : fm[9]? = some (.int n9)) (x : Int32) : gR l yX6_isCampaign cX6_isCampaign 2 .boolean 1 (dC, dI) K L f [.ref (rt 51), .int x] (fun r => r = if 0 ≤ x ∧ x ≤ n9 - 1 then 1 else 0) := by
  refine Met.ofW (cc := cX6_isCampaign) (maxL := 2) (ret := some .boolean) (by decide) rfl ?_
  intro p e s m args below meth c s₁ B hml hv
  obtain ⟨rfl, hP, hK⟩ := hv
  have F_m := hC.2.1
  have hx := B.exec
  have hb := B.bytes
  have hr := B.returns
  have hlocks := B.notSynchronized
  have hts0 := atoms_spec (ws := Cond.code yX6_isCampaign cX6_isCampaign 2 (some .boolean) :: lw_B) B.pre
  have hts : ∀ w ∈ lw_B, w.before _ s = true := fun w h => hts0 w (List.mem_cons_of_mem _ h)
  have hown : s.vm.findClass RX6 = some m.cls := findClass_of_methodNamed B.named
  have hS : va_S (fun _ => False) s.heap s.heap [] := va_S.rf
  have hl := lv_entry ([.ref (rt 51), .int x]) (n := 2) (Nat.le_of_ble_eq_true rfl)
  rw [lg_entry_eq]
  generalize (lg_sl ([.ref (rt 51), .int x]) ++ List.replicate (2 - (lg_sl ([.ref (rt 51), .int x])).length) Slot.unset).toArray = ls at hl ⊢
  have hl : lv_has ls 2 [(0, .ref (rt 51)), (1, .int x)] := hl
  refine lv_iload_n hx hb dX6_isCampaign_0 rfl (lv_at hl 1 rfl) ?_
  refine lv_iconst (v := 0) hx hb dX6_isCampaign_1 (by decide) ?_
  refine lv_aload_n hx hb dX6_isCampaign_2 rfl (lv_at hl 0 rfl) ?_
  refine g_get (ci := 6) (v := .int n9) (C := RX6) (T := TX6) (N := 51) hx hb hts uB6 hown hK hP (hC.1.1 51 (by decide)) F_m rfl 9 (by decide) wm_76 I_campaigns dX6_isCampaign_3 ?_
  refine lv_iconst (v := 1) hx hb dX6_isCampaign_6 (by decide) ?_
  refine lv_isub hx hb dX6_isCampaign_7 ?_
  refine lv_topi (fun x_1 ex_1 => ?_)
  refine k_S ⟨hx, hb, hml, hown, hts⟩ (c_in l x 0 x_1) 3 wm_69 wm_70 wm_8 wm_71 (by decide +kernel) ⟨Nat.le_of_ble_eq_true rfl, Nat.le_of_ble_eq_true rfl⟩ rfl hl.1 rfl (Nat.le_of_ble_eq_true rfl) dX6_isCampaign_8 ⟨Nat.le_of_ble_eq_true rfl, Nat.le_of_ble_eq_true rfl⟩ hS hP (fun r_2 H locs hpr_2 hP hS => ?_)
  exact W.zret (v := r_2) hx hb hr (by rw [hpr_2]; split <;> rfl) (fun t ht hW => ⟨⟨r_2, (), rfl, (by rw [hpr_2, ex_1]), trivial⟩, hS.F ht⟩) hS.2.2 dX6_isCampaign_11
set_option maxHeartbeats 4000000 in
set_option maxRecDepth 100000 in
theorem m_isSale (l : Launch) (dC : Nat → ClassId) (dI : Nat → Nat → Nat) (K : Nat → ClassId) (L : List Nat) (f : Nat → va_E) (rt : Nat → Nat) {fm : List Value} (hC : mC rt L f fm) {n9 : Int32} (I_sales : fm[25]? = some (.int n9)) (x : Int32) : gR l yX6_isSale cX6_isSale 2 .boolean 1 (dC, dI) K L f [.ref (rt 51), .int x] (fun r => r = if 0 ≤ x ∧ x ≤ n9 - 1 then 1 else 0) := by
  refine Met.ofW (cc := cX6_isSale) (maxL := 2) (ret := some .boolean) (by decide) rfl ?_
  intro p e s m args below meth c s₁ B hml hv
  obtain ⟨rfl, hP, hK⟩ := hv
  have F_m := hC.2.1
  have hx := B.exec
  have hb := B.bytes
  have hr := B.returns
  have hlocks := B.notSynchronized
  have hts0 := atoms_spec (ws := Cond.code yX6_isSale cX6_isSale 2 (some .boolean) :: lw_B) B.pre
  have hts : ∀ w ∈ lw_B, w.before _ s = true := fun w h => hts0 w (List.mem_cons_of_mem _ h)
  have hown : s.vm.findClass RX6 = some m.cls := findClass_of_methodNamed B.named
  have hS : va_S (fun _ => False) s.heap s.heap [] := va_S.rf
  have hl := lv_entry ([.ref (rt 51), .int x]) (n := 2) (Nat.le_of_ble_eq_true rfl)
  rw [lg_entry_eq]
  generalize (lg_sl ([.ref (rt 51), .int x]) ++ List.replicate (2 - (lg_sl ([.ref (rt 51), .int x])).length) Slot.unset).toArray = ls at hl ⊢
  have hl : lv_has ls 2 [(0, .ref (rt 51)), (1, .int x)] := hl
  refine lv_iload_n hx hb dX6_isSale_0 rfl (lv_at hl 1 rfl) ?_
  refine lv_iconst (v := 0) hx hb dX6_isSale_1 (by decide) ?_
  refine lv_aload_n hx hb dX6_isSale_2 rfl (lv_at hl 0 rfl) ?_
  refine g_get (ci := 6) (v := .int n9) (C := RX6) (T := TX6) (N := 51) hx hb hts uB6 hown hK hP (hC.1.1 51 (by decide)) F_m rfl 25 (by decide) wm_4 I_sales dX6_isSale_3 ?_
  refine lv_iconst (v := 1) hx hb dX6_isSale_6 (by decide) ?_
  refine lv_isub hx hb dX6_isSale_7 ?_
  refine lv_topi (fun x_1 ex_1 => ?_)
  refine k_S ⟨hx, hb, hml, hown, hts⟩ (c_in l x 0 x_1) 3 wm_69 wm_70 wm_8 wm_71 (by decide +kernel) ⟨Nat.le_of_ble_eq_true rfl, Nat.le_of_ble_eq_true rfl⟩ rfl hl.1 rfl (Nat.le_of_ble_eq_true rfl) dX6_isSale_8 ⟨Nat.le_of_ble_eq_true rfl, Nat.le_of_ble_eq_true rfl⟩ hS hP (fun r_2 H locs hpr_2 hP hS => ?_)
  exact W.zret (v := r_2) hx hb hr (by rw [hpr_2]; split <;> rfl) (fun t ht hW => ⟨⟨r_2, (), rfl, (by rw [hpr_2, ex_1]), trivial⟩, hS.F ht⟩) hS.2.2 dX6_isSale_11
set_option maxHeartbeats 4000000 in
set_option maxRecDepth 100000 in
theorem um_budget (l : Launch) (dC : Nat → ClassId) (dI : Nat → Nat → Nat) (K : Nat → ClassId) (L : List Nat) (f : Nat → va_E) (rt : Nat → Nat) {fm : List Value} (hC : mC rt L f fm) {g_dayBudget : Nat → Int32} (F_dayBudget : f (rt 15) = .inl (K 0, 40, .inl g_dayBudget)) {g_allBudget : Nat → Int32} (F_allBudget : f (rt 16) = .inl (K 0, 40, .inl g_allBudget)) {nc : Nat} (I_campaigns : fm[9]? = some (.int (nI nc))) (x : Int32) (y : Int32) (z : Int32) (hnc : nc ≤ 40) (hLn : gN L) : gMi l yX6_budget cX6_budget 4 2 (dC, dI) K L f [.ref (rt 51), .int x, .int y, .int z] (fun r f' => (¬ ((0 ≤ x ∧ x ≤ nI nc - 1) ∧ (0 ≤ y ∧ y ≤ 1000000) ∧ (0 ≤ z ∧ z ≤ 1000000)) ∧ r = (-1) ∧ f' = f) ∨ (((0 ≤ x ∧ x ≤ nI nc - 1) ∧ (0 ≤ y ∧ y ≤ 1000000) ∧ (0 ≤ z ∧ z ≤ 1000000)) ∧ r = 1 ∧ f' = va_up (va_up (f) (rt 15) (.inl (K 0, 40, .inl (upd g_dayBudget (Int32.toNatClampNeg x) y)))) (rt 16) (.inl (K 0, 40, .inl (upd g_allBudget (Int32.toNatClampNeg x) z))))) := by
  refine Met.ofW (cc := cX6_budget) (maxL := 4) (ret := (some .int)) (by decide) rfl ?_
  intro p e s m args below meth c s₁ B hml hv
  obtain ⟨rfl, hP, hK⟩ := hv
  have F_m := hC.2.1
  have hD : va_D (fun q : Nat => q ∈ L) (va_pl L f) := g_D hLn (fun a h => h) f
  generalize hAe : (fun q : Nat => q ∈ L) = A at hD ⊢
  have hx := B.exec
  have hb := B.bytes
  have hr := B.returns
  have hlocks := B.notSynchronized
  have hts0 := atoms_spec (ws := Cond.code yX6_budget cX6_budget 4 (some .int) :: lw_B) B.pre
  have hts : ∀ w ∈ lw_B, w.before _ s = true := fun w h => hts0 w (List.mem_cons_of_mem _ h)
  have hown : s.vm.findClass RX6 = some m.cls := findClass_of_methodNamed B.named
  have hS : va_S A s.heap s.heap [] := va_S.rf
  have hl := lv_entry ([.ref (rt 51), .int x, .int y, .int z]) (n := 4) (Nat.le_of_ble_eq_true rfl)
  rw [lg_entry_eq]
  generalize (lg_sl ([.ref (rt 51), .int x, .int y, .int z]) ++ List.replicate (4 - (lg_sl ([.ref (rt 51), .int x, .int y, .int z])).length) Slot.unset).toArray = ls at hl ⊢
  have hl : lv_has ls 4 [(0, .ref (rt 51)), (1, .int x), (2, .int y), (3, .int z)] := hl
  refine lv_aload_n hx hb dX6_budget_0 rfl (lv_at hl 0 rfl) ?_
  refine lv_iload_n hx hb dX6_budget_1 rfl (lv_at hl 1 rfl) ?_
  refine gc_R (ci := 6) ⟨hx, hb, hml, hown, hts⟩ (m_isCampaign l dC dI K L f rt hC I_campaigns x) 1 wm_81 wm_82 wm_83 wm_8 wm_84 (by decide +kernel) ⟨Nat.le_of_ble_eq_true rfl, Nat.le_of_ble_eq_true rfl⟩ hK rfl (hC.1.1 51 (by decide)) F_m rfl hl.1 rfl (Nat.le_of_ble_eq_true rfl) dX6_budget_2 ⟨Nat.le_of_ble_eq_true rfl, Nat.le_of_ble_eq_true rfl⟩ hS hP (fun r_1 H locs hpr_1 hP hS => ?_)
  refine lv_if_eq (tgt := 28) hx hb dX6_budget_5 (by decide) (fun c_2 => ?_) (fun c_2 => ?_)
  · skip
    have g_2 := k_ff hpr_1 c_2
    refine lv_iconst (v := (-1)) hx hb dX6_budget_28 (by decide) ?_
    exact W.iret (v := (-1)) hx hb hr (fun t ht hW => ⟨⟨(-1), f, rfl, (Or.inl ⟨by simp only [Int32.lt_iff_toInt_lt, Int32.le_iff_toInt_le, ← Int32.toInt_inj, Int32.reduceToInt] at g_2 ⊢; omega, rfl, rfl⟩), by show va_P (dC, dI) vwCl (va_pl L f) t.heap; rw [ht]; exact hP⟩, hS.F ht⟩) hS.2.2 dX6_budget_29
  · skip
    have g_2 := k_ft hpr_1 c_2
    obtain ⟨cn, hcn, rfl⟩ := k_ix g_2 (by omega)
    refine lv_iload_n hx hb dX6_budget_8 rfl (lv_at hl 2 rfl) ?_
    refine lv_iconst (v := 0) hx hb dX6_budget_9 (by decide) ?_
    refine lv_ldc (v := 1000000) hx hb hown (hts _ wm_111) dX6_budget_10 ?_
    refine k_S ⟨hx, hb, hml, hown, hts⟩ (c_in l y 0 1000000) 3 wm_69 wm_70 wm_8 wm_71 (by decide +kernel) ⟨Nat.le_of_ble_eq_true rfl, Nat.le_of_ble_eq_true rfl⟩ rfl hl.1 rfl (Nat.le_of_ble_eq_true rfl) dX6_budget_12 ⟨Nat.le_of_ble_eq_true rfl, Nat.le_of_ble_eq_true rfl⟩ hS hP (fun r_3 H locs hpr_3 hP hS => ?_)
    refine lv_if_eq (tgt := 28) hx hb dX6_budget_15 (by decide) (fun c_4 => ?_) (fun c_4 => ?_)
    · skip
      have g_4 := k_ff hpr_3 c_4
      refine lv_iconst (v := (-1)) hx hb dX6_budget_28 (by decide) ?_
      exact W.iret (v := (-1)) hx hb hr (fun t ht hW => ⟨⟨(-1), f, rfl, (Or.inl ⟨by simp only [Int32.lt_iff_toInt_lt, Int32.le_iff_toInt_le, ← Int32.toInt_inj, Int32.reduceToInt] at g_2 g_4 ⊢; omega, rfl, rfl⟩), by show va_P (dC, dI) vwCl (va_pl L f) t.heap; rw [ht]; exact hP⟩, hS.F ht⟩) hS.2.2 dX6_budget_29
    · skip
      have g_4 := k_ft hpr_3 c_4
      refine lv_iload_n hx hb dX6_budget_18 rfl (lv_at hl 3 rfl) ?_
      refine lv_iconst (v := 0) hx hb dX6_budget_19 (by decide) ?_
      refine lv_ldc (v := 1000000) hx hb hown (hts _ wm_111) dX6_budget_20 ?_
      refine k_S ⟨hx, hb, hml, hown, hts⟩ (c_in l z 0 1000000) 3 wm_69 wm_70 wm_8 wm_71 (by decide +kernel) ⟨Nat.le_of_ble_eq_true rfl, Nat.le_of_ble_eq_true rfl⟩ rfl hl.1 rfl (Nat.le_of_ble_eq_true rfl) dX6_budget_22 ⟨Nat.le_of_ble_eq_true rfl, Nat.le_of_ble_eq_true rfl⟩ hS hP (fun r_5 H locs hpr_5 hP hS => ?_)
      refine lv_if_ne (tgt := 30) hx hb dX6_budget_25 (by decide) (fun c_6 => ?_) (fun c_6 => ?_)
      · skip
        have g_6 := k_ft hpr_5 c_6
        refine lv_aload_n hx hb dX6_budget_30 rfl (lv_at hl 0 rfl) ?_
        refine g_get (ci := 6) (v := .ref (rt 15)) (C := RX6) (T := TX6) (N := 51) hx hb hts uB6 hown hK hP (hC.1.1 51 (by decide)) F_m rfl 15 (by decide) wm_12 (hC.2.2.2 15 (by decide)) dX6_budget_31 ?_
        refine lv_iload_n hx hb dX6_budget_34 rfl (lv_at hl 1 rfl) ?_
        refine lv_iload_n hx hb dX6_budget_35 rfl (lv_at hl 2 rfl) ?_
        refine g_iast hx hb hK hP hD hS (hC.1.1 15 (by decide)) F_dayBudget (vp_in_nI (by omega) (by decide)) dX6_budget_36 (fun H locs hP hD hS => ?_)
        obtain ⟨g_7, eg_7⟩ : ∃ z9, z9 = upd g_dayBudget (Int32.toNatClampNeg (nI cn)) y := ⟨_, rfl⟩
        rw [← eg_7] at hP hD
        obtain ⟨f_8, ef_8⟩ : ∃ z9, z9 = va_up f (rt 15) (.inl (K 0, 40, .inl g_7)) := ⟨_, rfl⟩
        have hP : va_P (dC, dI) vwCl (va_pl L f_8) H := by rw [ef_8]; exact hP
        have hD : va_D A (va_pl L f_8) := by rw [ef_8]; exact hD
        have F_m_ : f_8 (rt 51) = .inr (6, fm) := by rw [ef_8, va_up_ne _ _ (fun q => absurd (hC.1.2 51 (by decide) 15 (by decide) q) (by decide))]; exact F_m
        have F_allBudget_ : f_8 (rt 16) = .inl (K 0, 40, .inl g_allBudget) := by rw [ef_8, va_up_ne _ _ (fun q => absurd (hC.1.2 16 (by decide) 15 (by decide) q) (by decide))]; exact F_allBudget
        have F_m := F_m_
        have F_allBudget := F_allBudget_
        have F_dayBudget : f_8 (rt 15) = .inl (K 0, 40, .inl g_7) := by rw [ef_8, va_up_self]
        have hC : mC rt L f_8 fm := ⟨hC.1, F_m, hC.2.2.1, hC.2.2.2⟩
        refine lv_aload_n hx hb dX6_budget_37 rfl (lv_at hl 0 rfl) ?_
        refine g_get (ci := 6) (v := .ref (rt 16)) (C := RX6) (T := TX6) (N := 51) hx hb hts uB6 hown hK hP (hC.1.1 51 (by decide)) F_m rfl 16 (by decide) wm_18 (hC.2.2.2 16 (by decide)) dX6_budget_38 ?_
        refine lv_iload_n hx hb dX6_budget_41 rfl (lv_at hl 1 rfl) ?_
        refine lv_iload_n hx hb dX6_budget_42 rfl (lv_at hl 3 rfl) ?_
        refine g_iast hx hb hK hP hD hS (hC.1.1 16 (by decide)) F_allBudget (vp_in_nI (by omega) (by decide)) dX6_budget_43 (fun H locs hP hD hS => ?_)
        obtain ⟨g_9, eg_9⟩ : ∃ z9, z9 = upd g_allBudget (Int32.toNatClampNeg (nI cn)) z := ⟨_, rfl⟩
        rw [← eg_9] at hP hD
        obtain ⟨f_10, ef_10⟩ : ∃ z9, z9 = va_up f_8 (rt 16) (.inl (K 0, 40, .inl g_9)) := ⟨_, rfl⟩
        have hP : va_P (dC, dI) vwCl (va_pl L f_10) H := by rw [ef_10]; exact hP
        have hD : va_D A (va_pl L f_10) := by rw [ef_10]; exact hD
        have F_m_ : f_10 (rt 51) = .inr (6, fm) := by rw [ef_10, va_up_ne _ _ (fun q => absurd (hC.1.2 51 (by decide) 16 (by decide) q) (by decide))]; exact F_m
        have F_dayBudget_ : f_10 (rt 15) = .inl (K 0, 40, .inl g_7) := by rw [ef_10, va_up_ne _ _ (fun q => absurd (hC.1.2 15 (by decide) 16 (by decide) q) (by decide))]; exact F_dayBudget
        have F_m := F_m_
        have F_dayBudget := F_dayBudget_
        have F_allBudget : f_10 (rt 16) = .inl (K 0, 40, .inl g_9) := by rw [ef_10, va_up_self]
        have hC : mC rt L f_10 fm := ⟨hC.1, F_m, hC.2.2.1, hC.2.2.2⟩
        refine lv_iconst (v := 1) hx hb dX6_budget_44 (by decide) ?_
        exact W.iret (v := 1) hx hb hr (fun t ht hW => ⟨⟨1, f_10, rfl, (Or.inr ⟨by simp only [Int32.lt_iff_toInt_lt, Int32.le_iff_toInt_le, ← Int32.toInt_inj, Int32.reduceToInt] at g_2 g_4 g_6 ⊢; omega, rfl, by rw [ef_10, eg_9, ef_8, eg_7]⟩), by show va_P (dC, dI) vwCl (va_pl L f_10) t.heap; rw [ht]; exact hP⟩, hS.F ht⟩) hS.2.2 dX6_budget_45
      · skip
        have g_6 := k_ff hpr_5 c_6
        refine lv_iconst (v := (-1)) hx hb dX6_budget_28 (by decide) ?_
        exact W.iret (v := (-1)) hx hb hr (fun t ht hW => ⟨⟨(-1), f, rfl, (Or.inl ⟨by simp only [Int32.lt_iff_toInt_lt, Int32.le_iff_toInt_le, ← Int32.toInt_inj, Int32.reduceToInt] at g_2 g_4 g_6 ⊢; omega, rfl, rfl⟩), by show va_P (dC, dI) vwCl (va_pl L f) t.heap; rw [ht]; exact hP⟩, hS.F ht⟩) hS.2.2 dX6_budget_29
set_option maxHeartbeats 4000000 in
set_option maxRecDepth 100000 in
theorem um_cap (l : Launch) (dC : Nat → ClassId) (dI : Nat → Nat → Nat) (K : Nat → ClassId) (L : List Nat) (f : Nat → va_E) (rt : Nat → Nat) {fm : List Value} (hC : mC rt L f fm) {g_cap : Nat → Int32} (F_cap : f (rt 17) = .inl (K 0, 40, .inl g_cap)) {g_span : Nat → Int32} (F_span : f (rt 18) = .inl (K 0, 40, .inl g_span)) {nc : Nat} (I_campaigns : fm[9]? = some (.int (nI nc))) (x : Int32) (y : Int32) (z : Int32) (hnc : nc ≤ 40) (hLn : gN L) : gMi l yX6_cap cX6_cap 4 2 (dC, dI) K L f [.ref (rt 51), .int x, .int y, .int z] (fun r f' => (¬ ((0 ≤ x ∧ x ≤ nI nc - 1) ∧ (1 ≤ y ∧ y ≤ 9) ∧ (1 ≤ z ∧ z ≤ 1000)) ∧ r = (-1) ∧ f' = f) ∨ (((0 ≤ x ∧ x ≤ nI nc - 1) ∧ (1 ≤ y ∧ y ≤ 9) ∧ (1 ≤ z ∧ z ≤ 1000)) ∧ r = 1 ∧ f' = va_up (va_up (f) (rt 17) (.inl (K 0, 40, .inl (upd g_cap (Int32.toNatClampNeg x) y)))) (rt 18) (.inl (K 0, 40, .inl (upd g_span (Int32.toNatClampNeg x) z))))) := by
  refine Met.ofW (cc := cX6_cap) (maxL := 4) (ret := (some .int)) (by decide) rfl ?_
  intro p e s m args below meth c s₁ B hml hv
  obtain ⟨rfl, hP, hK⟩ := hv
  have F_m := hC.2.1
  have hD : va_D (fun q : Nat => q ∈ L) (va_pl L f) := g_D hLn (fun a h => h) f
  generalize hAe : (fun q : Nat => q ∈ L) = A at hD ⊢
  have hx := B.exec
  have hb := B.bytes
  have hr := B.returns
  have hlocks := B.notSynchronized
  have hts0 := atoms_spec (ws := Cond.code yX6_cap cX6_cap 4 (some .int) :: lw_B) B.pre
  have hts : ∀ w ∈ lw_B, w.before _ s = true := fun w h => hts0 w (List.mem_cons_of_mem _ h)
  have hown : s.vm.findClass RX6 = some m.cls := findClass_of_methodNamed B.named
  have hS : va_S A s.heap s.heap [] := va_S.rf
  have hl := lv_entry ([.ref (rt 51), .int x, .int y, .int z]) (n := 4) (Nat.le_of_ble_eq_true rfl)
  rw [lg_entry_eq]
  generalize (lg_sl ([.ref (rt 51), .int x, .int y, .int z]) ++ List.replicate (4 - (lg_sl ([.ref (rt 51), .int x, .int y, .int z])).length) Slot.unset).toArray = ls at hl ⊢
  have hl : lv_has ls 4 [(0, .ref (rt 51)), (1, .int x), (2, .int y), (3, .int z)] := hl
  refine lv_aload_n hx hb dX6_cap_0 rfl (lv_at hl 0 rfl) ?_
  refine lv_iload_n hx hb dX6_cap_1 rfl (lv_at hl 1 rfl) ?_
  refine gc_R (ci := 6) ⟨hx, hb, hml, hown, hts⟩ (m_isCampaign l dC dI K L f rt hC I_campaigns x) 1 wm_81 wm_82 wm_83 wm_8 wm_84 (by decide +kernel) ⟨Nat.le_of_ble_eq_true rfl, Nat.le_of_ble_eq_true rfl⟩ hK rfl (hC.1.1 51 (by decide)) F_m rfl hl.1 rfl (Nat.le_of_ble_eq_true rfl) dX6_cap_2 ⟨Nat.le_of_ble_eq_true rfl, Nat.le_of_ble_eq_true rfl⟩ hS hP (fun r_1 H locs hpr_1 hP hS => ?_)
  refine lv_if_eq (tgt := 29) hx hb dX6_cap_5 (by decide) (fun c_2 => ?_) (fun c_2 => ?_)
  · skip
    have g_2 := k_ff hpr_1 c_2
    refine lv_iconst (v := (-1)) hx hb dX6_cap_29 (by decide) ?_
    exact W.iret (v := (-1)) hx hb hr (fun t ht hW => ⟨⟨(-1), f, rfl, (Or.inl ⟨by simp only [Int32.lt_iff_toInt_lt, Int32.le_iff_toInt_le, ← Int32.toInt_inj, Int32.reduceToInt] at g_2 ⊢; omega, rfl, rfl⟩), by show va_P (dC, dI) vwCl (va_pl L f) t.heap; rw [ht]; exact hP⟩, hS.F ht⟩) hS.2.2 dX6_cap_30
  · skip
    have g_2 := k_ft hpr_1 c_2
    obtain ⟨cn, hcn, rfl⟩ := k_ix g_2 (by omega)
    refine lv_iload_n hx hb dX6_cap_8 rfl (lv_at hl 2 rfl) ?_
    refine lv_iconst (v := 1) hx hb dX6_cap_9 (by decide) ?_
    refine lv_bipush (v := 9) hx hb dX6_cap_10 (by decide) ?_
    refine k_S ⟨hx, hb, hml, hown, hts⟩ (c_in l y 1 9) 3 wm_69 wm_70 wm_8 wm_71 (by decide +kernel) ⟨Nat.le_of_ble_eq_true rfl, Nat.le_of_ble_eq_true rfl⟩ rfl hl.1 rfl (Nat.le_of_ble_eq_true rfl) dX6_cap_12 ⟨Nat.le_of_ble_eq_true rfl, Nat.le_of_ble_eq_true rfl⟩ hS hP (fun r_3 H locs hpr_3 hP hS => ?_)
    refine lv_if_eq (tgt := 29) hx hb dX6_cap_15 (by decide) (fun c_4 => ?_) (fun c_4 => ?_)
    · skip
      have g_4 := k_ff hpr_3 c_4
      refine lv_iconst (v := (-1)) hx hb dX6_cap_29 (by decide) ?_
      exact W.iret (v := (-1)) hx hb hr (fun t ht hW => ⟨⟨(-1), f, rfl, (Or.inl ⟨by simp only [Int32.lt_iff_toInt_lt, Int32.le_iff_toInt_le, ← Int32.toInt_inj, Int32.reduceToInt] at g_2 g_4 ⊢; omega, rfl, rfl⟩), by show va_P (dC, dI) vwCl (va_pl L f) t.heap; rw [ht]; exact hP⟩, hS.F ht⟩) hS.2.2 dX6_cap_30
    · skip
      have g_4 := k_ft hpr_3 c_4
      refine lv_iload_n hx hb dX6_cap_18 rfl (lv_at hl 3 rfl) ?_
      refine lv_iconst (v := 1) hx hb dX6_cap_19 (by decide) ?_
      refine lv_sipush (v := 1000) hx hb dX6_cap_20 (by decide) ?_
      refine k_S ⟨hx, hb, hml, hown, hts⟩ (c_in l z 1 1000) 3 wm_69 wm_70 wm_8 wm_71 (by decide +kernel) ⟨Nat.le_of_ble_eq_true rfl, Nat.le_of_ble_eq_true rfl⟩ rfl hl.1 rfl (Nat.le_of_ble_eq_true rfl) dX6_cap_23 ⟨Nat.le_of_ble_eq_true rfl, Nat.le_of_ble_eq_true rfl⟩ hS hP (fun r_5 H locs hpr_5 hP hS => ?_)
      refine lv_if_ne (tgt := 31) hx hb dX6_cap_26 (by decide) (fun c_6 => ?_) (fun c_6 => ?_)
      · skip
        have g_6 := k_ft hpr_5 c_6
        refine lv_aload_n hx hb dX6_cap_31 rfl (lv_at hl 0 rfl) ?_
        refine g_get (ci := 6) (v := .ref (rt 17)) (C := RX6) (T := TX6) (N := 51) hx hb hts uB6 hown hK hP (hC.1.1 51 (by decide)) F_m rfl 17 (by decide) wm_33 (hC.2.2.2 17 (by decide)) dX6_cap_32 ?_
        refine lv_iload_n hx hb dX6_cap_35 rfl (lv_at hl 1 rfl) ?_
        refine lv_iload_n hx hb dX6_cap_36 rfl (lv_at hl 2 rfl) ?_
        refine g_iast hx hb hK hP hD hS (hC.1.1 17 (by decide)) F_cap (vp_in_nI (by omega) (by decide)) dX6_cap_37 (fun H locs hP hD hS => ?_)
        obtain ⟨g_7, eg_7⟩ : ∃ z9, z9 = upd g_cap (Int32.toNatClampNeg (nI cn)) y := ⟨_, rfl⟩
        rw [← eg_7] at hP hD
        obtain ⟨f_8, ef_8⟩ : ∃ z9, z9 = va_up f (rt 17) (.inl (K 0, 40, .inl g_7)) := ⟨_, rfl⟩
        have hP : va_P (dC, dI) vwCl (va_pl L f_8) H := by rw [ef_8]; exact hP
        have hD : va_D A (va_pl L f_8) := by rw [ef_8]; exact hD
        have F_m_ : f_8 (rt 51) = .inr (6, fm) := by rw [ef_8, va_up_ne _ _ (fun q => absurd (hC.1.2 51 (by decide) 17 (by decide) q) (by decide))]; exact F_m
        have F_span_ : f_8 (rt 18) = .inl (K 0, 40, .inl g_span) := by rw [ef_8, va_up_ne _ _ (fun q => absurd (hC.1.2 18 (by decide) 17 (by decide) q) (by decide))]; exact F_span
        have F_m := F_m_
        have F_span := F_span_
        have F_cap : f_8 (rt 17) = .inl (K 0, 40, .inl g_7) := by rw [ef_8, va_up_self]
        have hC : mC rt L f_8 fm := ⟨hC.1, F_m, hC.2.2.1, hC.2.2.2⟩
        refine lv_aload_n hx hb dX6_cap_38 rfl (lv_at hl 0 rfl) ?_
        refine g_get (ci := 6) (v := .ref (rt 18)) (C := RX6) (T := TX6) (N := 51) hx hb hts uB6 hown hK hP (hC.1.1 51 (by decide)) F_m rfl 18 (by decide) wm_51 (hC.2.2.2 18 (by decide)) dX6_cap_39 ?_
        refine lv_iload_n hx hb dX6_cap_42 rfl (lv_at hl 1 rfl) ?_
        refine lv_iload_n hx hb dX6_cap_43 rfl (lv_at hl 3 rfl) ?_
        refine g_iast hx hb hK hP hD hS (hC.1.1 18 (by decide)) F_span (vp_in_nI (by omega) (by decide)) dX6_cap_44 (fun H locs hP hD hS => ?_)
        obtain ⟨g_9, eg_9⟩ : ∃ z9, z9 = upd g_span (Int32.toNatClampNeg (nI cn)) z := ⟨_, rfl⟩
        rw [← eg_9] at hP hD
        obtain ⟨f_10, ef_10⟩ : ∃ z9, z9 = va_up f_8 (rt 18) (.inl (K 0, 40, .inl g_9)) := ⟨_, rfl⟩
        have hP : va_P (dC, dI) vwCl (va_pl L f_10) H := by rw [ef_10]; exact hP
        have hD : va_D A (va_pl L f_10) := by rw [ef_10]; exact hD
        have F_m_ : f_10 (rt 51) = .inr (6, fm) := by rw [ef_10, va_up_ne _ _ (fun q => absurd (hC.1.2 51 (by decide) 18 (by decide) q) (by decide))]; exact F_m
        have F_cap_ : f_10 (rt 17) = .inl (K 0, 40, .inl g_7) := by rw [ef_10, va_up_ne _ _ (fun q => absurd (hC.1.2 17 (by decide) 18 (by decide) q) (by decide))]; exact F_cap
        have F_m := F_m_
        have F_cap := F_cap_
        have F_span : f_10 (rt 18) = .inl (K 0, 40, .inl g_9) := by rw [ef_10, va_up_self]
        have hC : mC rt L f_10 fm := ⟨hC.1, F_m, hC.2.2.1, hC.2.2.2⟩
        refine lv_iconst (v := 1) hx hb dX6_cap_45 (by decide) ?_
        exact W.iret (v := 1) hx hb hr (fun t ht hW => ⟨⟨1, f_10, rfl, (Or.inr ⟨by simp only [Int32.lt_iff_toInt_lt, Int32.le_iff_toInt_le, ← Int32.toInt_inj, Int32.reduceToInt] at g_2 g_4 g_6 ⊢; omega, rfl, by rw [ef_10, eg_9, ef_8, eg_7]⟩), by show va_P (dC, dI) vwCl (va_pl L f_10) t.heap; rw [ht]; exact hP⟩, hS.F ht⟩) hS.2.2 dX6_cap_46
      · skip
        have g_6 := k_ff hpr_5 c_6
        refine lv_iconst (v := (-1)) hx hb dX6_cap_29 (by decide) ?_
        exact W.iret (v := (-1)) hx hb hr (fun t ht hW => ⟨⟨(-1), f, rfl, (Or.inl ⟨by simp only [Int32.lt_iff_toInt_lt, Int32.le_iff_toInt_le, ← Int32.toInt_inj, Int32.reduceToInt] at g_2 g_4 g_6 ⊢; omega, rfl, rfl⟩), by show va_P (dC, dI) vwCl (va_pl L f) t.heap; rw [ht]; exact hP⟩, hS.F ht⟩) hS.2.2 dX6_cap_30
end
section
theorem k_nar01 {y : Int32} (h : 0 ≤ y ∧ y ≤ 1) : y = 0 ∨ y = 1 := by
  simp only [Int32.le_iff_toInt_le, ← Int32.toInt_inj, Int32.reduceToInt] at h ⊢; omega
set_option maxHeartbeats 4000000 in
set_option maxRecDepth 100000 in
theorem um_marks (l : Launch) (dC : Nat → ClassId) (dI : Nat → Nat → Nat) (K : Nat → ClassId) (L : List Nat) (f : Nat → va_E) (rt : Nat → Nat) {fm : List Value} (hC : mC rt L f fm) {g_marks : Nat → Int32} (F_marks : f (rt 8) = .inl (K 0, 100, .inl g_marks))  (x : Int32) (y : Int32) (hLn : gN L) : gMi l yX6_marks cX6_marks 4 2 (dC, dI) K L f [.ref (rt 51), .int x, .int y] (fun r f' => (¬ ((0 ≤ x ∧ x ≤ 99) ∧ (0 ≤ y ∧ y ≤ 4095)) ∧ r = (-1) ∧ f' = f) ∨ (((0 ≤ x ∧ x ≤ 99) ∧ (0 ≤ y ∧ y ≤ 4095)) ∧ r = g_marks (Int32.toNatClampNeg x) ∧ f' = va_up (f) (rt 8) (.inl (K 0, 100, .inl (upd g_marks (Int32.toNatClampNeg x) y))))) := by
  refine Met.ofW (cc := cX6_marks) (maxL := 4) (ret := (some .int)) (by decide) rfl ?_
  intro p e s m args below meth c s₁ B hml hv
  obtain ⟨rfl, hP, hK⟩ := hv
  have F_m := hC.2.1
  have hD : va_D (fun q : Nat => q ∈ L) (va_pl L f) := g_D hLn (fun a h => h) f
  generalize hAe : (fun q : Nat => q ∈ L) = A at hD ⊢
  have hx := B.exec
  have hb := B.bytes
  have hr := B.returns
  have hlocks := B.notSynchronized
  have hts0 := atoms_spec (ws := Cond.code yX6_marks cX6_marks 4 (some .int) :: lw_B) B.pre
  have hts : ∀ w ∈ lw_B, w.before _ s = true := fun w h => hts0 w (List.mem_cons_of_mem _ h)
  have hown : s.vm.findClass RX6 = some m.cls := findClass_of_methodNamed B.named
  have hS : va_S A s.heap s.heap [] := va_S.rf
  have hl := lv_entry ([.ref (rt 51), .int x, .int y]) (n := 4) (Nat.le_of_ble_eq_true rfl)
  rw [lg_entry_eq]
  generalize (lg_sl ([.ref (rt 51), .int x, .int y]) ++ List.replicate (4 - (lg_sl ([.ref (rt 51), .int x, .int y])).length) Slot.unset).toArray = ls at hl ⊢
  have hl : lv_has ls 4 [(0, .ref (rt 51)), (1, .int x), (2, .int y)] := hl
  refine lv_iload_n hx hb dX6_marks_0 rfl (lv_at hl 1 rfl) ?_
  refine k_S ⟨hx, hb, hml, hown, hts⟩ (c_mReader l x) 1 wm_92 wm_93 wm_8 wm_94 (by decide +kernel) ⟨Nat.le_of_ble_eq_true rfl, Nat.le_of_ble_eq_true rfl⟩ rfl hl.1 rfl (Nat.le_of_ble_eq_true rfl) dX6_marks_1 ⟨Nat.le_of_ble_eq_true rfl, Nat.le_of_ble_eq_true rfl⟩ hS hP (fun r_1 H locs hpr_1 hP hS => ?_)
  refine lv_if_eq (tgt := 18) hx hb dX6_marks_4 (by decide) (fun c_2 => ?_) (fun c_2 => ?_)
  · skip
    have g_2 := k_ff hpr_1 c_2
    refine lv_iconst (v := (-1)) hx hb dX6_marks_18 (by decide) ?_
    exact W.iret (v := (-1)) hx hb hr (fun t ht hW => ⟨⟨(-1), f, rfl, (Or.inl ⟨by simp only [Int32.lt_iff_toInt_lt, Int32.le_iff_toInt_le, ← Int32.toInt_inj, Int32.reduceToInt] at g_2 ⊢; omega, rfl, rfl⟩), by show va_P (dC, dI) vwCl (va_pl L f) t.heap; rw [ht]; exact hP⟩, hS.F ht⟩) hS.2.2 dX6_marks_19
  · skip
    have g_2 := k_ft hpr_1 c_2
    refine lv_iload_n hx hb dX6_marks_7 rfl (lv_at hl 2 rfl) ?_
    refine lv_iconst (v := 0) hx hb dX6_marks_8 (by decide) ?_
    refine lv_sipush (v := 4095) hx hb dX6_marks_9 (by decide) ?_
    refine k_S ⟨hx, hb, hml, hown, hts⟩ (c_in l y 0 4095) 3 wm_69 wm_70 wm_8 wm_71 (by decide +kernel) ⟨Nat.le_of_ble_eq_true rfl, Nat.le_of_ble_eq_true rfl⟩ rfl hl.1 rfl (Nat.le_of_ble_eq_true rfl) dX6_marks_12 ⟨Nat.le_of_ble_eq_true rfl, Nat.le_of_ble_eq_true rfl⟩ hS hP (fun r_3 H locs hpr_3 hP hS => ?_)
    refine lv_if_ne (tgt := 20) hx hb dX6_marks_15 (by decide) (fun c_4 => ?_) (fun c_4 => ?_)
    · skip
      have g_4 := k_ft hpr_3 c_4
      refine lv_aload_n hx hb dX6_marks_20 rfl (lv_at hl 0 rfl) ?_
      refine g_get (ci := 6) (v := .ref (rt 8)) (C := RX6) (T := TX6) (N := 51) hx hb hts uB6 hown hK hP (hC.1.1 51 (by decide)) F_m rfl 8 (by decide) wm_30 (hC.2.2.2 8 (by decide)) dX6_marks_21 ?_
      refine lv_iload_n hx hb dX6_marks_24 rfl (lv_at hl 1 rfl) ?_
      refine g_iald hx hb hK hP (hC.1.1 8 (by decide)) F_marks (vp_in_iff.mpr (by simp only [Int32.lt_iff_toInt_lt, Int32.le_iff_toInt_le, ← Int32.toInt_inj, Int32.reduceToInt] at g_2 g_4; omega)) dX6_marks_25 ?_
      refine lv_topi (fun x_5 ex_5 => ?_)
      refine lv_istore_n (lv' := [(3, .int x_5), (0, .ref (rt 51)), (1, .int x), (2, .int y)]) hx hb dX6_marks_26 rfl hl (by decide) rfl (fun ls hl => ?_)
      refine lv_aload_n hx hb dX6_marks_27 rfl (lv_at hl 1 rfl) ?_
      refine g_get (ci := 6) (v := .ref (rt 8)) (C := RX6) (T := TX6) (N := 51) hx hb hts uB6 hown hK hP (hC.1.1 51 (by decide)) F_m rfl 8 (by decide) wm_30 (hC.2.2.2 8 (by decide)) dX6_marks_28 ?_
      refine lv_iload_n hx hb dX6_marks_31 rfl (lv_at hl 2 rfl) ?_
      refine lv_iload_n hx hb dX6_marks_32 rfl (lv_at hl 3 rfl) ?_
      refine g_iast hx hb hK hP hD hS (hC.1.1 8 (by decide)) F_marks (vp_in_iff.mpr (by simp only [Int32.lt_iff_toInt_lt, Int32.le_iff_toInt_le, ← Int32.toInt_inj, Int32.reduceToInt] at g_2 g_4; omega)) dX6_marks_33 (fun H locs hP hD hS => ?_)
      obtain ⟨g_6, eg_6⟩ : ∃ z9, z9 = upd g_marks (Int32.toNatClampNeg x) y := ⟨_, rfl⟩
      rw [← eg_6] at hP hD
      obtain ⟨f_7, ef_7⟩ : ∃ z9, z9 = va_up f (rt 8) (.inl (K 0, 100, .inl g_6)) := ⟨_, rfl⟩
      have hP : va_P (dC, dI) vwCl (va_pl L f_7) H := by rw [ef_7]; exact hP
      have hD : va_D A (va_pl L f_7) := by rw [ef_7]; exact hD
      have F_m_ : f_7 (rt 51) = .inr (6, fm) := by rw [ef_7, va_up_ne _ _ (fun q => absurd (hC.1.2 51 (by decide) 8 (by decide) q) (by decide))]; exact F_m
      have F_m := F_m_
      have F_marks : f_7 (rt 8) = .inl (K 0, 100, .inl g_6) := by rw [ef_7, va_up_self]
      have hC : mC rt L f_7 fm := ⟨hC.1, F_m, hC.2.2.1, hC.2.2.2⟩
      refine lv_iload_n hx hb dX6_marks_34 rfl (lv_at hl 0 rfl) ?_
      exact W.iret (v := x_5) hx hb hr (fun t ht hW => ⟨⟨x_5, f_7, rfl, (Or.inr ⟨by simp only [Int32.lt_iff_toInt_lt, Int32.le_iff_toInt_le, ← Int32.toInt_inj, Int32.reduceToInt] at g_2 g_4 ⊢; omega, ex_5, by rw [ef_7, eg_6]⟩), by show va_P (dC, dI) vwCl (va_pl L f_7) t.heap; rw [ht]; exact hP⟩, hS.F ht⟩) hS.2.2 dX6_marks_35
    · skip
      have g_4 := k_ff hpr_3 c_4
      refine lv_iconst (v := (-1)) hx hb dX6_marks_18 (by decide) ?_
      exact W.iret (v := (-1)) hx hb hr (fun t ht hW => ⟨⟨(-1), f, rfl, (Or.inl ⟨by simp only [Int32.lt_iff_toInt_lt, Int32.le_iff_toInt_le, ← Int32.toInt_inj, Int32.reduceToInt] at g_2 g_4 ⊢; omega, rfl, rfl⟩), by show va_P (dC, dI) vwCl (va_pl L f) t.heap; rw [ht]; exact hP⟩, hS.F ht⟩) hS.2.2 dX6_marks_19
set_option maxHeartbeats 4000000 in
set_option maxRecDepth 100000 in
theorem um_rule (l : Launch) (dC : Nat → ClassId) (dI : Nat → Nat → Nat) (K : Nat → ClassId) (L : List Nat) (f : Nat → va_E) (rt : Nat → Nat) {fm : List Value} (hC : mC rt L f fm) {v9 : Int32} (I_rule : fm[2]? = some (.int v9)) (x : Int32) (hLn : gN L) : gMi l yX6_rule cX6_rule 3 1 (dC, dI) K L f [.ref (rt 51), .int x] (fun r f' => (¬ (0 ≤ x ∧ x ≤ 1) ∧ r = (-1) ∧ f' = f) ∨ ((0 ≤ x ∧ x ≤ 1) ∧ r = v9 ∧ f' = va_up f (rt 51) (.inr (6, List.set fm 2 (.int x))))) := by
  refine Met.ofW (cc := cX6_rule) (maxL := 3) (ret := (some .int)) (by decide) rfl ?_
  intro p e s m args below meth c s₁ B hml hv
  obtain ⟨rfl, hP, hK⟩ := hv
  have F_m := hC.2.1
  have hD : va_D (fun q : Nat => q ∈ L) (va_pl L f) := g_D hLn (fun a h => h) f
  generalize hAe : (fun q : Nat => q ∈ L) = A at hD ⊢
  have hx := B.exec
  have hb := B.bytes
  have hr := B.returns
  have hlocks := B.notSynchronized
  have hts0 := atoms_spec (ws := Cond.code yX6_rule cX6_rule 3 (some .int) :: lw_B) B.pre
  have hts : ∀ w ∈ lw_B, w.before _ s = true := fun w h => hts0 w (List.mem_cons_of_mem _ h)
  have hown : s.vm.findClass RX6 = some m.cls := findClass_of_methodNamed B.named
  have hS : va_S A s.heap s.heap [] := va_S.rf
  have hl := lv_entry ([.ref (rt 51), .int x]) (n := 3) (Nat.le_of_ble_eq_true rfl)
  rw [lg_entry_eq]
  generalize (lg_sl ([.ref (rt 51), .int x]) ++ List.replicate (3 - (lg_sl ([.ref (rt 51), .int x])).length) Slot.unset).toArray = ls at hl ⊢
  have hl : lv_has ls 3 [(0, .ref (rt 51)), (1, .int x)] := hl
  refine lv_iload_n hx hb dX6_rule_0 rfl (lv_at hl 1 rfl) ?_
  refine lv_iconst (v := 0) hx hb dX6_rule_1 (by decide) ?_
  refine lv_iconst (v := 1) hx hb dX6_rule_2 (by decide) ?_
  refine k_S ⟨hx, hb, hml, hown, hts⟩ (c_in l x 0 1) 3 wm_69 wm_70 wm_8 wm_71 (by decide +kernel) ⟨Nat.le_of_ble_eq_true rfl, Nat.le_of_ble_eq_true rfl⟩ rfl hl.1 rfl (Nat.le_of_ble_eq_true rfl) dX6_rule_3 ⟨Nat.le_of_ble_eq_true rfl, Nat.le_of_ble_eq_true rfl⟩ hS hP (fun r_1 H locs hpr_1 hP hS => ?_)
  refine lv_if_ne (tgt := 11) hx hb dX6_rule_6 (by decide) (fun c_2 => ?_) (fun c_2 => ?_)
  · skip
    have g_2 := k_ft hpr_1 c_2
    refine lv_aload_n hx hb dX6_rule_11 rfl (lv_at hl 0 rfl) ?_
    refine g_get (ci := 6) (v := .int v9) (C := RX6) (T := TX6) (N := 51) hx hb hts uB6 hown hK hP (hC.1.1 51 (by decide)) F_m rfl 2 (by decide) wm_112 I_rule dX6_rule_12 ?_
    refine lv_istore_n (lv' := [(2, .int v9), (0, .ref (rt 51)), (1, .int x)]) hx hb dX6_rule_15 rfl hl (by decide) rfl (fun ls hl => ?_)
    refine lv_aload_n hx hb dX6_rule_16 rfl (lv_at hl 1 rfl) ?_
    refine lv_iload_n hx hb dX6_rule_17 rfl (lv_at hl 2 rfl) ?_
    refine g_put (ci := 6) (v := .int x) (ty := .int) (C := RX6) (T := TX6) (N := 51) hx hb hts uB6 tyX6 tyX6_ok nmX6 hown hK hP hD hS (hC.1.1 51 (by decide)) F_m rfl 2 (by decide) wm_112 rfl (by decide +kernel) rfl rfl (by rw [hC.2.2.1]; decide) dX6_rule_18 (fun H locs hP hD hS => ?_)
    obtain ⟨fs_3, efs_3⟩ : ∃ z9, z9 = List.set fm 2 (.int x) := ⟨_, rfl⟩
    rw [← efs_3] at hP hD
    have hlen_ : fs_3.length = 51 := by rw [efs_3, List.length_set]; exact hC.2.2.1
    have I_rule : fs_3[2]? = some (.int x) := by rw [efs_3]; exact List.getElem?_set_self (by rw [hC.2.2.1]; decide)
    have hmr_ : ∀ k ∈ mArr, fs_3[k]? = some (.ref (rt k)) := fun k h => by rw [efs_3, List.getElem?_set_ne (fun q => by rw [← q] at h; exact absurd h (by decide))]; exact hC.2.2.2 k h
    obtain ⟨f_4, ef_4⟩ : ∃ z9, z9 = va_up f (rt 51) (.inr (6, fs_3)) := ⟨_, rfl⟩
    have hP : va_P (dC, dI) vwCl (va_pl L f_4) H := by rw [ef_4]; exact hP
    have hD : va_D A (va_pl L f_4) := by rw [ef_4]; exact hD
    have F_m : f_4 (rt 51) = .inr (6, fs_3) := by rw [ef_4, va_up_self]
    have hC : mC rt L f_4 fs_3 := ⟨hC.1, F_m, hlen_, hmr_⟩
    refine lv_iload_n hx hb dX6_rule_21 rfl (lv_at hl 0 rfl) ?_
    exact W.iret (v := v9) hx hb hr (fun t ht hW => ⟨⟨v9, f_4, rfl, (Or.inr ⟨by simp only [Int32.lt_iff_toInt_lt, Int32.le_iff_toInt_le, ← Int32.toInt_inj, Int32.reduceToInt] at g_2 ⊢; omega, rfl, by rw [ef_4, efs_3]⟩), by show va_P (dC, dI) vwCl (va_pl L f_4) t.heap; rw [ht]; exact hP⟩, hS.F ht⟩) hS.2.2 dX6_rule_22
  · skip
    have g_2 := k_ff hpr_1 c_2
    refine lv_iconst (v := (-1)) hx hb dX6_rule_9 (by decide) ?_
    exact W.iret (v := (-1)) hx hb hr (fun t ht hW => ⟨⟨(-1), f, rfl, (Or.inl ⟨by simp only [Int32.lt_iff_toInt_lt, Int32.le_iff_toInt_le, ← Int32.toInt_inj, Int32.reduceToInt] at g_2 ⊢; omega, rfl, rfl⟩), by show va_P (dC, dI) vwCl (va_pl L f) t.heap; rw [ht]; exact hP⟩, hS.F ht⟩) hS.2.2 dX6_rule_10
set_option maxHeartbeats 4000000 in
set_option maxRecDepth 100000 in
theorem um_pace (l : Launch) (dC : Nat → ClassId) (dI : Nat → Nat → Nat) (K : Nat → ClassId) (L : List Nat) (f : Nat → va_E) (rt : Nat → Nat) {fm : List Value} (hC : mC rt L f fm)  (x : Int32) (y : Int32) (hLn : gN L) : gMi l yX6_pace cX6_pace 3 1 (dC, dI) K L f [.ref (rt 51), .int x, .int y] (fun r f' => (¬ ((x = 0 ∨ (10 ≤ x ∧ x ≤ 100)) ∧ (1 ≤ y ∧ y ≤ 200)) ∧ r = (-1) ∧ f' = f) ∨ (((x = 0 ∨ (10 ≤ x ∧ x ≤ 100)) ∧ (1 ≤ y ∧ y ≤ 200)) ∧ r = 1 ∧ f' = va_up (va_up f (rt 51) (.inr (6, List.set fm 3 (.int x)))) (rt 51) (.inr (6, List.set (List.set fm 3 (.int x)) 4 (.int y))))) := by
  refine Met.ofW (cc := cX6_pace) (maxL := 3) (ret := (some .int)) (by decide) rfl ?_
  intro p e s m args below meth c s₁ B hml hv
  obtain ⟨rfl, hP, hK⟩ := hv
  have F_m := hC.2.1
  have hD : va_D (fun q : Nat => q ∈ L) (va_pl L f) := g_D hLn (fun a h => h) f
  generalize hAe : (fun q : Nat => q ∈ L) = A at hD ⊢
  have hx := B.exec
  have hb := B.bytes
  have hr := B.returns
  have hlocks := B.notSynchronized
  have hts0 := atoms_spec (ws := Cond.code yX6_pace cX6_pace 3 (some .int) :: lw_B) B.pre
  have hts : ∀ w ∈ lw_B, w.before _ s = true := fun w h => hts0 w (List.mem_cons_of_mem _ h)
  have hown : s.vm.findClass RX6 = some m.cls := findClass_of_methodNamed B.named
  have hS : va_S A s.heap s.heap [] := va_S.rf
  have hl := lv_entry ([.ref (rt 51), .int x, .int y]) (n := 3) (Nat.le_of_ble_eq_true rfl)
  rw [lg_entry_eq]
  generalize (lg_sl ([.ref (rt 51), .int x, .int y]) ++ List.replicate (3 - (lg_sl ([.ref (rt 51), .int x, .int y])).length) Slot.unset).toArray = ls at hl ⊢
  have hl : lv_has ls 3 [(0, .ref (rt 51)), (1, .int x), (2, .int y)] := hl
  refine lv_iload_n hx hb dX6_pace_0 rfl (lv_at hl 1 rfl) ?_
  refine lv_if_eq (tgt := 15) hx hb dX6_pace_1 (by decide) (fun c_1 => ?_) (fun c_1 => ?_)
  · skip
    refine lv_iload_n hx hb dX6_pace_15 rfl (lv_at hl 2 rfl) ?_
    refine lv_iconst (v := 1) hx hb dX6_pace_16 (by decide) ?_
    refine lv_sipush (v := 200) hx hb dX6_pace_17 (by decide) ?_
    refine k_S ⟨hx, hb, hml, hown, hts⟩ (c_in l y 1 200) 3 wm_69 wm_70 wm_8 wm_71 (by decide +kernel) ⟨Nat.le_of_ble_eq_true rfl, Nat.le_of_ble_eq_true rfl⟩ rfl hl.1 rfl (Nat.le_of_ble_eq_true rfl) dX6_pace_20 ⟨Nat.le_of_ble_eq_true rfl, Nat.le_of_ble_eq_true rfl⟩ hS hP (fun r_2 H locs hpr_2 hP hS => ?_)
    refine lv_if_ne (tgt := 28) hx hb dX6_pace_23 (by decide) (fun c_3 => ?_) (fun c_3 => ?_)
    · skip
      have g_3 := k_ft hpr_2 c_3
      refine lv_aload_n hx hb dX6_pace_28 rfl (lv_at hl 0 rfl) ?_
      refine lv_iload_n hx hb dX6_pace_29 rfl (lv_at hl 1 rfl) ?_
      refine g_put (ci := 6) (v := .int x) (ty := .int) (C := RX6) (T := TX6) (N := 51) hx hb hts uB6 tyX6 tyX6_ok nmX6 hown hK hP hD hS (hC.1.1 51 (by decide)) F_m rfl 3 (by decide) wm_113 rfl (by decide +kernel) rfl rfl (by rw [hC.2.2.1]; decide) dX6_pace_30 (fun H locs hP hD hS => ?_)
      obtain ⟨fs_4, efs_4⟩ : ∃ z9, z9 = List.set fm 3 (.int x) := ⟨_, rfl⟩
      rw [← efs_4] at hP hD
      have hlen_ : fs_4.length = 51 := by rw [efs_4, List.length_set]; exact hC.2.2.1
      have I_rt51_3 : fs_4[3]? = some (.int x) := by rw [efs_4]; exact List.getElem?_set_self (by rw [hC.2.2.1]; decide)
      have hmr_ : ∀ k ∈ mArr, fs_4[k]? = some (.ref (rt k)) := fun k h => by rw [efs_4, List.getElem?_set_ne (fun q => by rw [← q] at h; exact absurd h (by decide))]; exact hC.2.2.2 k h
      obtain ⟨f_5, ef_5⟩ : ∃ z9, z9 = va_up f (rt 51) (.inr (6, fs_4)) := ⟨_, rfl⟩
      have hP : va_P (dC, dI) vwCl (va_pl L f_5) H := by rw [ef_5]; exact hP
      have hD : va_D A (va_pl L f_5) := by rw [ef_5]; exact hD
      have F_m : f_5 (rt 51) = .inr (6, fs_4) := by rw [ef_5, va_up_self]
      have hC : mC rt L f_5 fs_4 := ⟨hC.1, F_m, hlen_, hmr_⟩
      refine lv_aload_n hx hb dX6_pace_33 rfl (lv_at hl 0 rfl) ?_
      refine lv_iload_n hx hb dX6_pace_34 rfl (lv_at hl 2 rfl) ?_
      refine g_put (ci := 6) (v := .int y) (ty := .int) (C := RX6) (T := TX6) (N := 51) hx hb hts uB6 tyX6 tyX6_ok nmX6 hown hK hP hD hS (hC.1.1 51 (by decide)) F_m rfl 4 (by decide) wm_114 rfl (by decide +kernel) rfl rfl (by rw [hC.2.2.1]; decide) dX6_pace_35 (fun H locs hP hD hS => ?_)
      obtain ⟨fs_6, efs_6⟩ : ∃ z9, z9 = List.set fs_4 4 (.int y) := ⟨_, rfl⟩
      rw [← efs_6] at hP hD
      have hlen_ : fs_6.length = 51 := by rw [efs_6, List.length_set]; exact hC.2.2.1
      have I_rt51_3 : fs_6[3]? = some (.int x) := by rw [efs_6, List.getElem?_set_ne (by decide)]; exact I_rt51_3
      have I_rt51_4 : fs_6[4]? = some (.int y) := by rw [efs_6]; exact List.getElem?_set_self (by rw [hC.2.2.1]; decide)
      have hmr_ : ∀ k ∈ mArr, fs_6[k]? = some (.ref (rt k)) := fun k h => by rw [efs_6, List.getElem?_set_ne (fun q => by rw [← q] at h; exact absurd h (by decide))]; exact hC.2.2.2 k h
      obtain ⟨f_7, ef_7⟩ : ∃ z9, z9 = va_up f_5 (rt 51) (.inr (6, fs_6)) := ⟨_, rfl⟩
      have hP : va_P (dC, dI) vwCl (va_pl L f_7) H := by rw [ef_7]; exact hP
      have hD : va_D A (va_pl L f_7) := by rw [ef_7]; exact hD
      have F_m : f_7 (rt 51) = .inr (6, fs_6) := by rw [ef_7, va_up_self]
      have hC : mC rt L f_7 fs_6 := ⟨hC.1, F_m, hlen_, hmr_⟩
      refine lv_iconst (v := 1) hx hb dX6_pace_38 (by decide) ?_
      exact W.iret (v := 1) hx hb hr (fun t ht hW => ⟨⟨1, f_7, rfl, (Or.inr ⟨by simp only [Int32.lt_iff_toInt_lt, Int32.le_iff_toInt_le, ← Int32.toInt_inj, Int32.reduceToInt] at c_1 g_3 ⊢; omega, rfl, by rw [ef_7, efs_6, ef_5, efs_4]⟩), by show va_P (dC, dI) vwCl (va_pl L f_7) t.heap; rw [ht]; exact hP⟩, hS.F ht⟩) hS.2.2 dX6_pace_39
    · skip
      have g_3 := k_ff hpr_2 c_3
      refine lv_iconst (v := (-1)) hx hb dX6_pace_26 (by decide) ?_
      exact W.iret (v := (-1)) hx hb hr (fun t ht hW => ⟨⟨(-1), f, rfl, (Or.inl ⟨by simp only [Int32.lt_iff_toInt_lt, Int32.le_iff_toInt_le, ← Int32.toInt_inj, Int32.reduceToInt] at c_1 g_3 ⊢; omega, rfl, rfl⟩), by show va_P (dC, dI) vwCl (va_pl L f) t.heap; rw [ht]; exact hP⟩, hS.F ht⟩) hS.2.2 dX6_pace_27
  · skip
    refine lv_iload_n hx hb dX6_pace_4 rfl (lv_at hl 1 rfl) ?_
    refine lv_bipush (v := 10) hx hb dX6_pace_5 (by decide) ?_
    refine lv_bipush (v := 100) hx hb dX6_pace_7 (by decide) ?_
    refine k_S ⟨hx, hb, hml, hown, hts⟩ (c_in l x 10 100) 3 wm_69 wm_70 wm_8 wm_71 (by decide +kernel) ⟨Nat.le_of_ble_eq_true rfl, Nat.le_of_ble_eq_true rfl⟩ rfl hl.1 rfl (Nat.le_of_ble_eq_true rfl) dX6_pace_9 ⟨Nat.le_of_ble_eq_true rfl, Nat.le_of_ble_eq_true rfl⟩ hS hP (fun r_8 H locs hpr_8 hP hS => ?_)
    refine lv_if_eq (tgt := 26) hx hb dX6_pace_12 (by decide) (fun c_9 => ?_) (fun c_9 => ?_)
    · skip
      have g_9 := k_ff hpr_8 c_9
      refine lv_iconst (v := (-1)) hx hb dX6_pace_26 (by decide) ?_
      exact W.iret (v := (-1)) hx hb hr (fun t ht hW => ⟨⟨(-1), f, rfl, (Or.inl ⟨by simp only [Int32.lt_iff_toInt_lt, Int32.le_iff_toInt_le, ← Int32.toInt_inj, Int32.reduceToInt] at c_1 g_9 ⊢; omega, rfl, rfl⟩), by show va_P (dC, dI) vwCl (va_pl L f) t.heap; rw [ht]; exact hP⟩, hS.F ht⟩) hS.2.2 dX6_pace_27
    · skip
      have g_9 := k_ft hpr_8 c_9
      refine lv_iload_n hx hb dX6_pace_15 rfl (lv_at hl 2 rfl) ?_
      refine lv_iconst (v := 1) hx hb dX6_pace_16 (by decide) ?_
      refine lv_sipush (v := 200) hx hb dX6_pace_17 (by decide) ?_
      refine k_S ⟨hx, hb, hml, hown, hts⟩ (c_in l y 1 200) 3 wm_69 wm_70 wm_8 wm_71 (by decide +kernel) ⟨Nat.le_of_ble_eq_true rfl, Nat.le_of_ble_eq_true rfl⟩ rfl hl.1 rfl (Nat.le_of_ble_eq_true rfl) dX6_pace_20 ⟨Nat.le_of_ble_eq_true rfl, Nat.le_of_ble_eq_true rfl⟩ hS hP (fun r_10 H locs hpr_10 hP hS => ?_)
      refine lv_if_ne (tgt := 28) hx hb dX6_pace_23 (by decide) (fun c_11 => ?_) (fun c_11 => ?_)
      · skip
        have g_11 := k_ft hpr_10 c_11
        refine lv_aload_n hx hb dX6_pace_28 rfl (lv_at hl 0 rfl) ?_
        refine lv_iload_n hx hb dX6_pace_29 rfl (lv_at hl 1 rfl) ?_
        refine g_put (ci := 6) (v := .int x) (ty := .int) (C := RX6) (T := TX6) (N := 51) hx hb hts uB6 tyX6 tyX6_ok nmX6 hown hK hP hD hS (hC.1.1 51 (by decide)) F_m rfl 3 (by decide) wm_113 rfl (by decide +kernel) rfl rfl (by rw [hC.2.2.1]; decide) dX6_pace_30 (fun H locs hP hD hS => ?_)
        obtain ⟨fs_12, efs_12⟩ : ∃ z9, z9 = List.set fm 3 (.int x) := ⟨_, rfl⟩
        rw [← efs_12] at hP hD
        have hlen_ : fs_12.length = 51 := by rw [efs_12, List.length_set]; exact hC.2.2.1
        have I_rt51_3 : fs_12[3]? = some (.int x) := by rw [efs_12]; exact List.getElem?_set_self (by rw [hC.2.2.1]; decide)
        have hmr_ : ∀ k ∈ mArr, fs_12[k]? = some (.ref (rt k)) := fun k h => by rw [efs_12, List.getElem?_set_ne (fun q => by rw [← q] at h; exact absurd h (by decide))]; exact hC.2.2.2 k h
        obtain ⟨f_13, ef_13⟩ : ∃ z9, z9 = va_up f (rt 51) (.inr (6, fs_12)) := ⟨_, rfl⟩
        have hP : va_P (dC, dI) vwCl (va_pl L f_13) H := by rw [ef_13]; exact hP
        have hD : va_D A (va_pl L f_13) := by rw [ef_13]; exact hD
        have F_m : f_13 (rt 51) = .inr (6, fs_12) := by rw [ef_13, va_up_self]
        have hC : mC rt L f_13 fs_12 := ⟨hC.1, F_m, hlen_, hmr_⟩
        refine lv_aload_n hx hb dX6_pace_33 rfl (lv_at hl 0 rfl) ?_
        refine lv_iload_n hx hb dX6_pace_34 rfl (lv_at hl 2 rfl) ?_
        refine g_put (ci := 6) (v := .int y) (ty := .int) (C := RX6) (T := TX6) (N := 51) hx hb hts uB6 tyX6 tyX6_ok nmX6 hown hK hP hD hS (hC.1.1 51 (by decide)) F_m rfl 4 (by decide) wm_114 rfl (by decide +kernel) rfl rfl (by rw [hC.2.2.1]; decide) dX6_pace_35 (fun H locs hP hD hS => ?_)
        obtain ⟨fs_14, efs_14⟩ : ∃ z9, z9 = List.set fs_12 4 (.int y) := ⟨_, rfl⟩
        rw [← efs_14] at hP hD
        have hlen_ : fs_14.length = 51 := by rw [efs_14, List.length_set]; exact hC.2.2.1
        have I_rt51_3 : fs_14[3]? = some (.int x) := by rw [efs_14, List.getElem?_set_ne (by decide)]; exact I_rt51_3
        have I_rt51_4 : fs_14[4]? = some (.int y) := by rw [efs_14]; exact List.getElem?_set_self (by rw [hC.2.2.1]; decide)
        have hmr_ : ∀ k ∈ mArr, fs_14[k]? = some (.ref (rt k)) := fun k h => by rw [efs_14, List.getElem?_set_ne (fun q => by rw [← q] at h; exact absurd h (by decide))]; exact hC.2.2.2 k h
        obtain ⟨f_15, ef_15⟩ : ∃ z9, z9 = va_up f_13 (rt 51) (.inr (6, fs_14)) := ⟨_, rfl⟩
        have hP : va_P (dC, dI) vwCl (va_pl L f_15) H := by rw [ef_15]; exact hP
        have hD : va_D A (va_pl L f_15) := by rw [ef_15]; exact hD
        have F_m : f_15 (rt 51) = .inr (6, fs_14) := by rw [ef_15, va_up_self]
        have hC : mC rt L f_15 fs_14 := ⟨hC.1, F_m, hlen_, hmr_⟩
        refine lv_iconst (v := 1) hx hb dX6_pace_38 (by decide) ?_
        exact W.iret (v := 1) hx hb hr (fun t ht hW => ⟨⟨1, f_15, rfl, (Or.inr ⟨by simp only [Int32.lt_iff_toInt_lt, Int32.le_iff_toInt_le, ← Int32.toInt_inj, Int32.reduceToInt] at c_1 g_9 g_11 ⊢; omega, rfl, by rw [ef_15, efs_14, ef_13, efs_12]⟩), by show va_P (dC, dI) vwCl (va_pl L f_15) t.heap; rw [ht]; exact hP⟩, hS.F ht⟩) hS.2.2 dX6_pace_39
      · skip
        have g_11 := k_ff hpr_10 c_11
        refine lv_iconst (v := (-1)) hx hb dX6_pace_26 (by decide) ?_
        exact W.iret (v := (-1)) hx hb hr (fun t ht hW => ⟨⟨(-1), f, rfl, (Or.inl ⟨by simp only [Int32.lt_iff_toInt_lt, Int32.le_iff_toInt_le, ← Int32.toInt_inj, Int32.reduceToInt] at c_1 g_9 g_11 ⊢; omega, rfl, rfl⟩), by show va_P (dC, dI) vwCl (va_pl L f) t.heap; rw [ht]; exact hP⟩, hS.F ht⟩) hS.2.2 dX6_pace_27
set_option maxHeartbeats 4000000 in
set_option maxRecDepth 100000 in
theorem um_stop (l : Launch) (dC : Nat → ClassId) (dI : Nat → Nat → Nat) (K : Nat → ClassId) (L : List Nat) (f : Nat → va_E) (rt : Nat → Nat) {fm : List Value} (hC : mC rt L f fm) {g_stopped : Nat → Int32} (F_stopped : f (rt 20) = .inl (K 2, 40, .inl g_stopped)) {nc : Nat} (I_campaigns : fm[9]? = some (.int (nI nc))) (x : Int32) (y : Int32) (hnc : nc ≤ 40) (hLn : gN L) : gMi l yX6_stop cX6_stop 4 2 (dC, dI) K L f [.ref (rt 51), .int x, .int y] (fun r f' => (¬ ((0 ≤ x ∧ x ≤ nI nc - 1) ∧ (0 ≤ y ∧ y ≤ 1)) ∧ r = (-1) ∧ f' = f) ∨ (((0 ≤ x ∧ x ≤ nI nc - 1) ∧ (0 ≤ y ∧ y ≤ 1)) ∧ r = (if g_stopped (Int32.toNatClampNeg x) = 0 then 0 else 1) ∧ f' = va_up f (rt 20) (.inl (K 2, 40, .inl (upd g_stopped (Int32.toNatClampNeg x) (vp_nar .boolean y)))))) := by
  refine Met.ofW (cc := cX6_stop) (maxL := 4) (ret := (some .int)) (by decide) rfl ?_
  intro p e s m args below meth c s₁ B hml hv
  obtain ⟨rfl, hP, hK⟩ := hv
  have F_m := hC.2.1
  have hD : va_D (fun q : Nat => q ∈ L) (va_pl L f) := g_D hLn (fun a h => h) f
  generalize hAe : (fun q : Nat => q ∈ L) = A at hD ⊢
  have hx := B.exec
  have hb := B.bytes
  have hr := B.returns
  have hlocks := B.notSynchronized
  have hts0 := atoms_spec (ws := Cond.code yX6_stop cX6_stop 4 (some .int) :: lw_B) B.pre
  have hts : ∀ w ∈ lw_B, w.before _ s = true := fun w h => hts0 w (List.mem_cons_of_mem _ h)
  have hown : s.vm.findClass RX6 = some m.cls := findClass_of_methodNamed B.named
  have hS : va_S A s.heap s.heap [] := va_S.rf
  have hl := lv_entry ([.ref (rt 51), .int x, .int y]) (n := 4) (Nat.le_of_ble_eq_true rfl)
  rw [lg_entry_eq]
  generalize (lg_sl ([.ref (rt 51), .int x, .int y]) ++ List.replicate (4 - (lg_sl ([.ref (rt 51), .int x, .int y])).length) Slot.unset).toArray = ls at hl ⊢
  have hl : lv_has ls 4 [(0, .ref (rt 51)), (1, .int x), (2, .int y)] := hl
  refine lv_aload_n hx hb dX6_stop_0 rfl (lv_at hl 0 rfl) ?_
  refine lv_iload_n hx hb dX6_stop_1 rfl (lv_at hl 1 rfl) ?_
  refine gc_R (ci := 6) ⟨hx, hb, hml, hown, hts⟩ (m_isCampaign l dC dI K L f rt hC I_campaigns x) 1 wm_81 wm_82 wm_83 wm_8 wm_84 (by decide +kernel) ⟨Nat.le_of_ble_eq_true rfl, Nat.le_of_ble_eq_true rfl⟩ hK rfl (hC.1.1 51 (by decide)) F_m rfl hl.1 rfl (Nat.le_of_ble_eq_true rfl) dX6_stop_2 ⟨Nat.le_of_ble_eq_true rfl, Nat.le_of_ble_eq_true rfl⟩ hS hP (fun r_1 H locs hpr_1 hP hS => ?_)
  refine lv_if_eq (tgt := 17) hx hb dX6_stop_5 (by decide) (fun c_2 => ?_) (fun c_2 => ?_)
  · skip
    have g_2 := k_ff hpr_1 c_2
    refine lv_iconst (v := (-1)) hx hb dX6_stop_17 (by decide) ?_
    exact W.iret (v := (-1)) hx hb hr (fun t ht hW => ⟨⟨(-1), f, rfl, (Or.inl ⟨by simp only [Int32.lt_iff_toInt_lt, Int32.le_iff_toInt_le, ← Int32.toInt_inj, Int32.reduceToInt] at g_2 ⊢; omega, rfl, rfl⟩), by show va_P (dC, dI) vwCl (va_pl L f) t.heap; rw [ht]; exact hP⟩, hS.F ht⟩) hS.2.2 dX6_stop_18
  · skip
    have g_2 := k_ft hpr_1 c_2
    obtain ⟨cn, hcn, rfl⟩ := k_ix g_2 (by omega)
    refine lv_iload_n hx hb dX6_stop_8 rfl (lv_at hl 2 rfl) ?_
    refine lv_iconst (v := 0) hx hb dX6_stop_9 (by decide) ?_
    refine lv_iconst (v := 1) hx hb dX6_stop_10 (by decide) ?_
    refine k_S ⟨hx, hb, hml, hown, hts⟩ (c_in l y 0 1) 3 wm_69 wm_70 wm_8 wm_71 (by decide +kernel) ⟨Nat.le_of_ble_eq_true rfl, Nat.le_of_ble_eq_true rfl⟩ rfl hl.1 rfl (Nat.le_of_ble_eq_true rfl) dX6_stop_11 ⟨Nat.le_of_ble_eq_true rfl, Nat.le_of_ble_eq_true rfl⟩ hS hP (fun r_3 H locs hpr_3 hP hS => ?_)
    refine lv_if_ne (tgt := 19) hx hb dX6_stop_14 (by decide) (fun c_4 => ?_) (fun c_4 => ?_)
    · skip
      have g_4 := k_ft hpr_3 c_4
      refine lv_aload_n hx hb dX6_stop_19 rfl (lv_at hl 0 rfl) ?_
      refine g_get (ci := 6) (v := .ref (rt 20)) (C := RX6) (T := TX6) (N := 51) hx hb hts uB6 hown hK hP (hC.1.1 51 (by decide)) F_m rfl 20 (by decide) wm_29 (hC.2.2.2 20 (by decide)) dX6_stop_20 ?_
      refine lv_iload_n hx hb dX6_stop_23 rfl (lv_at hl 1 rfl) ?_
      refine g_zald hx hb hK hP (hC.1.1 20 (by decide)) F_stopped (vp_in_nI (by omega) (by decide)) dX6_stop_24 ?_
      refine lv_topi (fun x_5 ex_5 => ?_)
      rw [nI_clamp (by omega)] at ex_5
      refine lv_if_eq (tgt := 32) hx hb dX6_stop_25 (by decide) (fun c_6 => ?_) (fun c_6 => ?_)
      · skip
        refine lv_iconst (v := 0) hx hb dX6_stop_32 (by decide) ?_
        refine lv_istore_n (lv' := [(3, .int 0), (0, .ref (rt 51)), (1, .int (nI cn)), (2, .int y)]) hx hb dX6_stop_33 rfl hl (by decide) rfl (fun ls hl => ?_)
        refine lv_aload_n hx hb dX6_stop_34 rfl (lv_at hl 1 rfl) ?_
        refine g_get (ci := 6) (v := .ref (rt 20)) (C := RX6) (T := TX6) (N := 51) hx hb hts uB6 hown hK hP (hC.1.1 51 (by decide)) F_m rfl 20 (by decide) wm_29 (hC.2.2.2 20 (by decide)) dX6_stop_35 ?_
        refine lv_iload_n hx hb dX6_stop_38 rfl (lv_at hl 2 rfl) ?_
        refine lv_iload_n hx hb dX6_stop_39 rfl (lv_at hl 3 rfl) ?_
        refine lv_iconst (v := 1) hx hb dX6_stop_40 (by decide) ?_
        refine lv_icmp_ne (tgt := 48) hx hb dX6_stop_41 (by decide) (fun c_7 => ?_) (fun c_7 => ?_)
        · skip
          refine lv_iconst (v := 0) hx hb dX6_stop_48 (by decide) ?_
          refine g_zast hx hb hK hP hD hS (hC.1.1 20 (by decide)) F_stopped (vp_in_nI (by omega) (by decide)) dX6_stop_49 (fun H locs hP hD hS => ?_)
          obtain ⟨g_8, eg_8⟩ : ∃ z9, z9 = upd g_stopped (Int32.toNatClampNeg (nI cn)) (vp_nar .boolean 0) := ⟨_, rfl⟩
          rw [← eg_8] at hP hD
          obtain ⟨f_9, ef_9⟩ : ∃ z9, z9 = va_up f (rt 20) (.inl (K 2, 40, .inl g_8)) := ⟨_, rfl⟩
          have hP : va_P (dC, dI) vwCl (va_pl L f_9) H := by rw [ef_9]; exact hP
          have hD : va_D A (va_pl L f_9) := by rw [ef_9]; exact hD
          have F_m_ : f_9 (rt 51) = .inr (6, fm) := by rw [ef_9, va_up_ne _ _ (fun q => absurd (hC.1.2 51 (by decide) 20 (by decide) q) (by decide))]; exact F_m
          have F_m := F_m_
          have F_stopped : f_9 (rt 20) = .inl (K 2, 40, .inl g_8) := by rw [ef_9, va_up_self]
          have hC : mC rt L f_9 fm := ⟨hC.1, F_m, hC.2.2.1, hC.2.2.2⟩
          refine lv_iload_n hx hb dX6_stop_50 rfl (lv_at hl 0 rfl) ?_
          exact W.iret (v := 0) hx hb hr (fun t ht hW => ⟨⟨0, f_9, rfl, (Or.inr ⟨⟨g_2, g_4⟩, (by rw [nI_clamp (by omega), ← ex_5, if_pos c_6]), by rw [ef_9, eg_8, ((k_nar01 g_4).resolve_right c_7)]⟩), by show va_P (dC, dI) vwCl (va_pl L f_9) t.heap; rw [ht]; exact hP⟩, hS.F ht⟩) hS.2.2 dX6_stop_51
        · skip
          refine lv_iconst (v := 1) hx hb dX6_stop_44 (by decide) ?_
          refine lv_goto (tgt := 49) hx hb dX6_stop_45 (by decide) ?_
          refine g_zast hx hb hK hP hD hS (hC.1.1 20 (by decide)) F_stopped (vp_in_nI (by omega) (by decide)) dX6_stop_49 (fun H locs hP hD hS => ?_)
          obtain ⟨g_10, eg_10⟩ : ∃ z9, z9 = upd g_stopped (Int32.toNatClampNeg (nI cn)) (vp_nar .boolean 1) := ⟨_, rfl⟩
          rw [← eg_10] at hP hD
          obtain ⟨f_11, ef_11⟩ : ∃ z9, z9 = va_up f (rt 20) (.inl (K 2, 40, .inl g_10)) := ⟨_, rfl⟩
          have hP : va_P (dC, dI) vwCl (va_pl L f_11) H := by rw [ef_11]; exact hP
          have hD : va_D A (va_pl L f_11) := by rw [ef_11]; exact hD
          have F_m_ : f_11 (rt 51) = .inr (6, fm) := by rw [ef_11, va_up_ne _ _ (fun q => absurd (hC.1.2 51 (by decide) 20 (by decide) q) (by decide))]; exact F_m
          have F_m := F_m_
          have F_stopped : f_11 (rt 20) = .inl (K 2, 40, .inl g_10) := by rw [ef_11, va_up_self]
          have hC : mC rt L f_11 fm := ⟨hC.1, F_m, hC.2.2.1, hC.2.2.2⟩
          refine lv_iload_n hx hb dX6_stop_50 rfl (lv_at hl 0 rfl) ?_
          exact W.iret (v := 0) hx hb hr (fun t ht hW => ⟨⟨0, f_11, rfl, (Or.inr ⟨⟨g_2, g_4⟩, (by rw [nI_clamp (by omega), ← ex_5, if_pos c_6]), by rw [ef_11, eg_10, (show y = 1 from c_7)]⟩), by show va_P (dC, dI) vwCl (va_pl L f_11) t.heap; rw [ht]; exact hP⟩, hS.F ht⟩) hS.2.2 dX6_stop_51
      · skip
        refine lv_iconst (v := 1) hx hb dX6_stop_28 (by decide) ?_
        refine lv_goto (tgt := 33) hx hb dX6_stop_29 (by decide) ?_
        refine lv_istore_n (lv' := [(3, .int 1), (0, .ref (rt 51)), (1, .int (nI cn)), (2, .int y)]) hx hb dX6_stop_33 rfl hl (by decide) rfl (fun ls hl => ?_)
        refine lv_aload_n hx hb dX6_stop_34 rfl (lv_at hl 1 rfl) ?_
        refine g_get (ci := 6) (v := .ref (rt 20)) (C := RX6) (T := TX6) (N := 51) hx hb hts uB6 hown hK hP (hC.1.1 51 (by decide)) F_m rfl 20 (by decide) wm_29 (hC.2.2.2 20 (by decide)) dX6_stop_35 ?_
        refine lv_iload_n hx hb dX6_stop_38 rfl (lv_at hl 2 rfl) ?_
        refine lv_iload_n hx hb dX6_stop_39 rfl (lv_at hl 3 rfl) ?_
        refine lv_iconst (v := 1) hx hb dX6_stop_40 (by decide) ?_
        refine lv_icmp_ne (tgt := 48) hx hb dX6_stop_41 (by decide) (fun c_12 => ?_) (fun c_12 => ?_)
        · skip
          refine lv_iconst (v := 0) hx hb dX6_stop_48 (by decide) ?_
          refine g_zast hx hb hK hP hD hS (hC.1.1 20 (by decide)) F_stopped (vp_in_nI (by omega) (by decide)) dX6_stop_49 (fun H locs hP hD hS => ?_)
          obtain ⟨g_13, eg_13⟩ : ∃ z9, z9 = upd g_stopped (Int32.toNatClampNeg (nI cn)) (vp_nar .boolean 0) := ⟨_, rfl⟩
          rw [← eg_13] at hP hD
          obtain ⟨f_14, ef_14⟩ : ∃ z9, z9 = va_up f (rt 20) (.inl (K 2, 40, .inl g_13)) := ⟨_, rfl⟩
          have hP : va_P (dC, dI) vwCl (va_pl L f_14) H := by rw [ef_14]; exact hP
          have hD : va_D A (va_pl L f_14) := by rw [ef_14]; exact hD
          have F_m_ : f_14 (rt 51) = .inr (6, fm) := by rw [ef_14, va_up_ne _ _ (fun q => absurd (hC.1.2 51 (by decide) 20 (by decide) q) (by decide))]; exact F_m
          have F_m := F_m_
          have F_stopped : f_14 (rt 20) = .inl (K 2, 40, .inl g_13) := by rw [ef_14, va_up_self]
          have hC : mC rt L f_14 fm := ⟨hC.1, F_m, hC.2.2.1, hC.2.2.2⟩
          refine lv_iload_n hx hb dX6_stop_50 rfl (lv_at hl 0 rfl) ?_
          exact W.iret (v := 1) hx hb hr (fun t ht hW => ⟨⟨1, f_14, rfl, (Or.inr ⟨⟨g_2, g_4⟩, (by rw [nI_clamp (by omega), ← ex_5, if_neg c_6]), by rw [ef_14, eg_13, ((k_nar01 g_4).resolve_right c_12)]⟩), by show va_P (dC, dI) vwCl (va_pl L f_14) t.heap; rw [ht]; exact hP⟩, hS.F ht⟩) hS.2.2 dX6_stop_51
        · skip
          refine lv_iconst (v := 1) hx hb dX6_stop_44 (by decide) ?_
          refine lv_goto (tgt := 49) hx hb dX6_stop_45 (by decide) ?_
          refine g_zast hx hb hK hP hD hS (hC.1.1 20 (by decide)) F_stopped (vp_in_nI (by omega) (by decide)) dX6_stop_49 (fun H locs hP hD hS => ?_)
          obtain ⟨g_15, eg_15⟩ : ∃ z9, z9 = upd g_stopped (Int32.toNatClampNeg (nI cn)) (vp_nar .boolean 1) := ⟨_, rfl⟩
          rw [← eg_15] at hP hD
          obtain ⟨f_16, ef_16⟩ : ∃ z9, z9 = va_up f (rt 20) (.inl (K 2, 40, .inl g_15)) := ⟨_, rfl⟩
          have hP : va_P (dC, dI) vwCl (va_pl L f_16) H := by rw [ef_16]; exact hP
          have hD : va_D A (va_pl L f_16) := by rw [ef_16]; exact hD
          have F_m_ : f_16 (rt 51) = .inr (6, fm) := by rw [ef_16, va_up_ne _ _ (fun q => absurd (hC.1.2 51 (by decide) 20 (by decide) q) (by decide))]; exact F_m
          have F_m := F_m_
          have F_stopped : f_16 (rt 20) = .inl (K 2, 40, .inl g_15) := by rw [ef_16, va_up_self]
          have hC : mC rt L f_16 fm := ⟨hC.1, F_m, hC.2.2.1, hC.2.2.2⟩
          refine lv_iload_n hx hb dX6_stop_50 rfl (lv_at hl 0 rfl) ?_
          exact W.iret (v := 1) hx hb hr (fun t ht hW => ⟨⟨1, f_16, rfl, (Or.inr ⟨⟨g_2, g_4⟩, (by rw [nI_clamp (by omega), ← ex_5, if_neg c_6]), by rw [ef_16, eg_15, (show y = 1 from c_12)]⟩), by show va_P (dC, dI) vwCl (va_pl L f_16) t.heap; rw [ht]; exact hP⟩, hS.F ht⟩) hS.2.2 dX6_stop_51
    · skip
      have g_4 := k_ff hpr_3 c_4
      refine lv_iconst (v := (-1)) hx hb dX6_stop_17 (by decide) ?_
      exact W.iret (v := (-1)) hx hb hr (fun t ht hW => ⟨⟨(-1), f, rfl, (Or.inl ⟨by simp only [Int32.lt_iff_toInt_lt, Int32.le_iff_toInt_le, ← Int32.toInt_inj, Int32.reduceToInt] at g_2 g_4 ⊢; omega, rfl, rfl⟩), by show va_P (dC, dI) vwCl (va_pl L f) t.heap; rw [ht]; exact hP⟩, hS.F ht⟩) hS.2.2 dX6_stop_18
set_option maxHeartbeats 4000000 in
set_option maxRecDepth 100000 in
theorem um_promise (l : Launch) (dC : Nat → ClassId) (dI : Nat → Nat → Nat) (K : Nat → ClassId) (L : List Nat) (f : Nat → va_E) (rt : Nat → Nat) {fm : List Value} (hC : mC rt L f fm) {g_sort : Nat → Int32} (F_sort : f (rt 10) = .inl (K 0, 40, .inl g_sort)) {g_promised : Nat → Int32} (F_promised : f (rt 22) = .inl (K 0, 40, .inl g_promised)) {g_promiseDay : Nat → Int32} (F_promiseDay : f (rt 23) = .inl (K 0, 40, .inl g_promiseDay)) {g_promiseFrom : Nat → Int32} (F_promiseFrom : f (rt 24) = .inl (K 0, 40, .inl g_promiseFrom)) {nc t : Nat} (I_campaigns : fm[9]? = some (.int (nI nc))) (I_tick : fm[1]? = some (.int (nI t))) (x : Int32) (y : Int32) (z : Int32) (hnc : nc ≤ 40) (hLn : gN L) : gMi l yX6_promise cX6_promise 4 2 (dC, dI) K L f [.ref (rt 51), .int x, .int y, .int z] (fun r f' => (¬ ((0 ≤ x ∧ x ≤ nI nc - 1) ∧ (1 ≤ y ∧ y ≤ 1000) ∧ (0 ≤ z ∧ z ≤ 100) ∧ ¬ z < nI t / 100) ∧ r = (-1) ∧ f' = f) ∨ (((0 ≤ x ∧ x ≤ nI nc - 1) ∧ (1 ≤ y ∧ y ≤ 1000) ∧ (0 ≤ z ∧ z ≤ 100) ∧ ¬ z < nI t / 100) ∧ ¬ g_sort (Int32.toNatClampNeg x) = 1 ∧ r = (-2) ∧ f' = f) ∨ (((0 ≤ x ∧ x ≤ nI nc - 1) ∧ (1 ≤ y ∧ y ≤ 1000) ∧ (0 ≤ z ∧ z ≤ 100) ∧ ¬ z < nI t / 100) ∧ g_sort (Int32.toNatClampNeg x) = 1 ∧ r = 1 ∧ f' = va_up (va_up (va_up (f) (rt 22) (.inl (K 0, 40, .inl (upd g_promised (Int32.toNatClampNeg x) y)))) (rt 23) (.inl (K 0, 40, .inl (upd g_promiseDay (Int32.toNatClampNeg x) z)))) (rt 24) (.inl (K 0, 40, .inl (upd g_promiseFrom (Int32.toNatClampNeg x) (nI t)))))) := by
  refine Met.ofW (cc := cX6_promise) (maxL := 4) (ret := (some .int)) (by decide) rfl ?_
  intro p e s m args below meth c s₁ B hml hv
  obtain ⟨rfl, hP, hK⟩ := hv
  have F_m := hC.2.1
  have hD : va_D (fun q : Nat => q ∈ L) (va_pl L f) := g_D hLn (fun a h => h) f
  generalize hAe : (fun q : Nat => q ∈ L) = A at hD ⊢
  have hx := B.exec
  have hb := B.bytes
  have hr := B.returns
  have hlocks := B.notSynchronized
  have hts0 := atoms_spec (ws := Cond.code yX6_promise cX6_promise 4 (some .int) :: lw_B) B.pre
  have hts : ∀ w ∈ lw_B, w.before _ s = true := fun w h => hts0 w (List.mem_cons_of_mem _ h)
  have hown : s.vm.findClass RX6 = some m.cls := findClass_of_methodNamed B.named
  have hS : va_S A s.heap s.heap [] := va_S.rf
  have hl := lv_entry ([.ref (rt 51), .int x, .int y, .int z]) (n := 4) (Nat.le_of_ble_eq_true rfl)
  rw [lg_entry_eq]
  generalize (lg_sl ([.ref (rt 51), .int x, .int y, .int z]) ++ List.replicate (4 - (lg_sl ([.ref (rt 51), .int x, .int y, .int z])).length) Slot.unset).toArray = ls at hl ⊢
  have hl : lv_has ls 4 [(0, .ref (rt 51)), (1, .int x), (2, .int y), (3, .int z)] := hl
  refine lv_aload_n hx hb dX6_promise_0 rfl (lv_at hl 0 rfl) ?_
  refine lv_iload_n hx hb dX6_promise_1 rfl (lv_at hl 1 rfl) ?_
  refine gc_R (ci := 6) ⟨hx, hb, hml, hown, hts⟩ (m_isCampaign l dC dI K L f rt hC I_campaigns x) 1 wm_81 wm_82 wm_83 wm_8 wm_84 (by decide +kernel) ⟨Nat.le_of_ble_eq_true rfl, Nat.le_of_ble_eq_true rfl⟩ hK rfl (hC.1.1 51 (by decide)) F_m rfl hl.1 rfl (Nat.le_of_ble_eq_true rfl) dX6_promise_2 ⟨Nat.le_of_ble_eq_true rfl, Nat.le_of_ble_eq_true rfl⟩ hS hP (fun r_1 H locs hpr_1 hP hS => ?_)
  refine lv_if_eq (tgt := 40) hx hb dX6_promise_5 (by decide) (fun c_2 => ?_) (fun c_2 => ?_)
  · skip
    have g_2 := k_ff hpr_1 c_2
    refine lv_iconst (v := (-1)) hx hb dX6_promise_40 (by decide) ?_
    exact W.iret (v := (-1)) hx hb hr (fun t ht hW => ⟨⟨(-1), f, rfl, (Or.inl ⟨(by simp only [Int32.lt_iff_toInt_lt, Int32.le_iff_toInt_le, ← Int32.toInt_inj, Int32.reduceToInt] at g_2 ⊢; omega), rfl, rfl⟩), by show va_P (dC, dI) vwCl (va_pl L f) t.heap; rw [ht]; exact hP⟩, hS.F ht⟩) hS.2.2 dX6_promise_41
  · skip
    have g_2 := k_ft hpr_1 c_2
    obtain ⟨cn, hcn, rfl⟩ := k_ix g_2 (by omega)
    refine lv_iload_n hx hb dX6_promise_8 rfl (lv_at hl 2 rfl) ?_
    refine lv_iconst (v := 1) hx hb dX6_promise_9 (by decide) ?_
    refine lv_sipush (v := 1000) hx hb dX6_promise_10 (by decide) ?_
    refine k_S ⟨hx, hb, hml, hown, hts⟩ (c_in l y 1 1000) 3 wm_69 wm_70 wm_8 wm_71 (by decide +kernel) ⟨Nat.le_of_ble_eq_true rfl, Nat.le_of_ble_eq_true rfl⟩ rfl hl.1 rfl (Nat.le_of_ble_eq_true rfl) dX6_promise_13 ⟨Nat.le_of_ble_eq_true rfl, Nat.le_of_ble_eq_true rfl⟩ hS hP (fun r_3 H locs hpr_3 hP hS => ?_)
    refine lv_if_eq (tgt := 40) hx hb dX6_promise_16 (by decide) (fun c_4 => ?_) (fun c_4 => ?_)
    · skip
      have g_4 := k_ff hpr_3 c_4
      refine lv_iconst (v := (-1)) hx hb dX6_promise_40 (by decide) ?_
      exact W.iret (v := (-1)) hx hb hr (fun t ht hW => ⟨⟨(-1), f, rfl, (Or.inl ⟨(by simp only [Int32.lt_iff_toInt_lt, Int32.le_iff_toInt_le, ← Int32.toInt_inj, Int32.reduceToInt] at g_2 g_4 ⊢; omega), rfl, rfl⟩), by show va_P (dC, dI) vwCl (va_pl L f) t.heap; rw [ht]; exact hP⟩, hS.F ht⟩) hS.2.2 dX6_promise_41
    · skip
      have g_4 := k_ft hpr_3 c_4
      refine lv_iload_n hx hb dX6_promise_19 rfl (lv_at hl 3 rfl) ?_
      refine lv_iconst (v := 0) hx hb dX6_promise_20 (by decide) ?_
      refine lv_bipush (v := 100) hx hb dX6_promise_21 (by decide) ?_
      refine k_S ⟨hx, hb, hml, hown, hts⟩ (c_in l z 0 100) 3 wm_69 wm_70 wm_8 wm_71 (by decide +kernel) ⟨Nat.le_of_ble_eq_true rfl, Nat.le_of_ble_eq_true rfl⟩ rfl hl.1 rfl (Nat.le_of_ble_eq_true rfl) dX6_promise_23 ⟨Nat.le_of_ble_eq_true rfl, Nat.le_of_ble_eq_true rfl⟩ hS hP (fun r_5 H locs hpr_5 hP hS => ?_)
      refine lv_if_eq (tgt := 40) hx hb dX6_promise_26 (by decide) (fun c_6 => ?_) (fun c_6 => ?_)
      · skip
        have g_6 := k_ff hpr_5 c_6
        refine lv_iconst (v := (-1)) hx hb dX6_promise_40 (by decide) ?_
        exact W.iret (v := (-1)) hx hb hr (fun t ht hW => ⟨⟨(-1), f, rfl, (Or.inl ⟨(by simp only [Int32.lt_iff_toInt_lt, Int32.le_iff_toInt_le, ← Int32.toInt_inj, Int32.reduceToInt] at g_2 g_4 g_6 ⊢; omega), rfl, rfl⟩), by show va_P (dC, dI) vwCl (va_pl L f) t.heap; rw [ht]; exact hP⟩, hS.F ht⟩) hS.2.2 dX6_promise_41
      · skip
        have g_6 := k_ft hpr_5 c_6
        refine lv_iload_n hx hb dX6_promise_29 rfl (lv_at hl 3 rfl) ?_
        refine lv_aload_n hx hb dX6_promise_30 rfl (lv_at hl 0 rfl) ?_
        refine g_get (ci := 6) (v := .int (nI t)) (C := RX6) (T := TX6) (N := 51) hx hb hts uB6 hown hK hP (hC.1.1 51 (by decide)) F_m rfl 1 (by decide) wm_13 I_tick dX6_promise_31 ?_
        refine lv_bipush (v := 100) hx hb dX6_promise_34 (by decide) ?_
        refine lv_idiv hx hb dX6_promise_36 (by decide) ?_
        refine lv_topi (fun x_7 ex_7 => ?_)
        refine lv_icmp_ge (tgt := 42) hx hb dX6_promise_37 (by decide) (fun c_8 => ?_) (fun c_8 => ?_)
        · skip
          rw [ex_7] at c_8
          refine lv_aload_n hx hb dX6_promise_42 rfl (lv_at hl 0 rfl) ?_
          refine g_get (ci := 6) (v := .ref (rt 10)) (C := RX6) (T := TX6) (N := 51) hx hb hts uB6 hown hK hP (hC.1.1 51 (by decide)) F_m rfl 10 (by decide) wm_21 (hC.2.2.2 10 (by decide)) dX6_promise_43 ?_
          refine lv_iload_n hx hb dX6_promise_46 rfl (lv_at hl 1 rfl) ?_
          refine g_iald hx hb hK hP (hC.1.1 10 (by decide)) F_sort (vp_in_nI (by omega) (by decide)) dX6_promise_47 ?_
          refine lv_topi (fun x_9 ex_9 => ?_)
          rw [nI_clamp (by omega)] at ex_9
          refine lv_iconst (v := 1) hx hb dX6_promise_48 (by decide) ?_
          refine lv_icmp_eq (tgt := 55) hx hb dX6_promise_49 (by decide) (fun c_10 => ?_) (fun c_10 => ?_)
          · skip
            refine lv_aload_n hx hb dX6_promise_55 rfl (lv_at hl 0 rfl) ?_
            refine g_get (ci := 6) (v := .ref (rt 22)) (C := RX6) (T := TX6) (N := 51) hx hb hts uB6 hown hK hP (hC.1.1 51 (by decide)) F_m rfl 22 (by decide) wm_22 (hC.2.2.2 22 (by decide)) dX6_promise_56 ?_
            refine lv_iload_n hx hb dX6_promise_59 rfl (lv_at hl 1 rfl) ?_
            refine lv_iload_n hx hb dX6_promise_60 rfl (lv_at hl 2 rfl) ?_
            refine g_iast hx hb hK hP hD hS (hC.1.1 22 (by decide)) F_promised (vp_in_nI (by omega) (by decide)) dX6_promise_61 (fun H locs hP hD hS => ?_)
            obtain ⟨g_11, eg_11⟩ : ∃ z9, z9 = upd g_promised (Int32.toNatClampNeg (nI cn)) y := ⟨_, rfl⟩
            rw [← eg_11] at hP hD
            obtain ⟨f_12, ef_12⟩ : ∃ z9, z9 = va_up f (rt 22) (.inl (K 0, 40, .inl g_11)) := ⟨_, rfl⟩
            have hP : va_P (dC, dI) vwCl (va_pl L f_12) H := by rw [ef_12]; exact hP
            have hD : va_D A (va_pl L f_12) := by rw [ef_12]; exact hD
            have F_m_ : f_12 (rt 51) = .inr (6, fm) := by rw [ef_12, va_up_ne _ _ (fun q => absurd (hC.1.2 51 (by decide) 22 (by decide) q) (by decide))]; exact F_m
            have F_sort_ : f_12 (rt 10) = .inl (K 0, 40, .inl g_sort) := by rw [ef_12, va_up_ne _ _ (fun q => absurd (hC.1.2 10 (by decide) 22 (by decide) q) (by decide))]; exact F_sort
            have F_promiseDay_ : f_12 (rt 23) = .inl (K 0, 40, .inl g_promiseDay) := by rw [ef_12, va_up_ne _ _ (fun q => absurd (hC.1.2 23 (by decide) 22 (by decide) q) (by decide))]; exact F_promiseDay
            have F_promiseFrom_ : f_12 (rt 24) = .inl (K 0, 40, .inl g_promiseFrom) := by rw [ef_12, va_up_ne _ _ (fun q => absurd (hC.1.2 24 (by decide) 22 (by decide) q) (by decide))]; exact F_promiseFrom
            have F_m := F_m_
            have F_sort := F_sort_
            have F_promiseDay := F_promiseDay_
            have F_promiseFrom := F_promiseFrom_
            have F_promised : f_12 (rt 22) = .inl (K 0, 40, .inl g_11) := by rw [ef_12, va_up_self]
            have hC : mC rt L f_12 fm := ⟨hC.1, F_m, hC.2.2.1, hC.2.2.2⟩
            refine lv_aload_n hx hb dX6_promise_62 rfl (lv_at hl 0 rfl) ?_
            refine g_get (ci := 6) (v := .ref (rt 23)) (C := RX6) (T := TX6) (N := 51) hx hb hts uB6 hown hK hP (hC.1.1 51 (by decide)) F_m rfl 23 (by decide) wm_27 (hC.2.2.2 23 (by decide)) dX6_promise_63 ?_
            refine lv_iload_n hx hb dX6_promise_66 rfl (lv_at hl 1 rfl) ?_
            refine lv_iload_n hx hb dX6_promise_67 rfl (lv_at hl 3 rfl) ?_
            refine g_iast hx hb hK hP hD hS (hC.1.1 23 (by decide)) F_promiseDay (vp_in_nI (by omega) (by decide)) dX6_promise_68 (fun H locs hP hD hS => ?_)
            obtain ⟨g_13, eg_13⟩ : ∃ z9, z9 = upd g_promiseDay (Int32.toNatClampNeg (nI cn)) z := ⟨_, rfl⟩
            rw [← eg_13] at hP hD
            obtain ⟨f_14, ef_14⟩ : ∃ z9, z9 = va_up f_12 (rt 23) (.inl (K 0, 40, .inl g_13)) := ⟨_, rfl⟩
            have hP : va_P (dC, dI) vwCl (va_pl L f_14) H := by rw [ef_14]; exact hP
            have hD : va_D A (va_pl L f_14) := by rw [ef_14]; exact hD
            have F_m_ : f_14 (rt 51) = .inr (6, fm) := by rw [ef_14, va_up_ne _ _ (fun q => absurd (hC.1.2 51 (by decide) 23 (by decide) q) (by decide))]; exact F_m
            have F_sort_ : f_14 (rt 10) = .inl (K 0, 40, .inl g_sort) := by rw [ef_14, va_up_ne _ _ (fun q => absurd (hC.1.2 10 (by decide) 23 (by decide) q) (by decide))]; exact F_sort
            have F_promised_ : f_14 (rt 22) = .inl (K 0, 40, .inl g_11) := by rw [ef_14, va_up_ne _ _ (fun q => absurd (hC.1.2 22 (by decide) 23 (by decide) q) (by decide))]; exact F_promised
            have F_promiseFrom_ : f_14 (rt 24) = .inl (K 0, 40, .inl g_promiseFrom) := by rw [ef_14, va_up_ne _ _ (fun q => absurd (hC.1.2 24 (by decide) 23 (by decide) q) (by decide))]; exact F_promiseFrom
            have F_m := F_m_
            have F_sort := F_sort_
            have F_promised := F_promised_
            have F_promiseFrom := F_promiseFrom_
            have F_promiseDay : f_14 (rt 23) = .inl (K 0, 40, .inl g_13) := by rw [ef_14, va_up_self]
            have hC : mC rt L f_14 fm := ⟨hC.1, F_m, hC.2.2.1, hC.2.2.2⟩
            refine lv_aload_n hx hb dX6_promise_69 rfl (lv_at hl 0 rfl) ?_
            refine g_get (ci := 6) (v := .ref (rt 24)) (C := RX6) (T := TX6) (N := 51) hx hb hts uB6 hown hK hP (hC.1.1 51 (by decide)) F_m rfl 24 (by decide) wm_28 (hC.2.2.2 24 (by decide)) dX6_promise_70 ?_
            refine lv_iload_n hx hb dX6_promise_73 rfl (lv_at hl 1 rfl) ?_
            refine lv_aload_n hx hb dX6_promise_74 rfl (lv_at hl 0 rfl) ?_
            refine g_get (ci := 6) (v := .int (nI t)) (C := RX6) (T := TX6) (N := 51) hx hb hts uB6 hown hK hP (hC.1.1 51 (by decide)) F_m rfl 1 (by decide) wm_13 I_tick dX6_promise_75 ?_
            refine g_iast hx hb hK hP hD hS (hC.1.1 24 (by decide)) F_promiseFrom (vp_in_nI (by omega) (by decide)) dX6_promise_78 (fun H locs hP hD hS => ?_)
            obtain ⟨g_15, eg_15⟩ : ∃ z9, z9 = upd g_promiseFrom (Int32.toNatClampNeg (nI cn)) (nI t) := ⟨_, rfl⟩
            rw [← eg_15] at hP hD
            obtain ⟨f_16, ef_16⟩ : ∃ z9, z9 = va_up f_14 (rt 24) (.inl (K 0, 40, .inl g_15)) := ⟨_, rfl⟩
            have hP : va_P (dC, dI) vwCl (va_pl L f_16) H := by rw [ef_16]; exact hP
            have hD : va_D A (va_pl L f_16) := by rw [ef_16]; exact hD
            have F_m_ : f_16 (rt 51) = .inr (6, fm) := by rw [ef_16, va_up_ne _ _ (fun q => absurd (hC.1.2 51 (by decide) 24 (by decide) q) (by decide))]; exact F_m
            have F_sort_ : f_16 (rt 10) = .inl (K 0, 40, .inl g_sort) := by rw [ef_16, va_up_ne _ _ (fun q => absurd (hC.1.2 10 (by decide) 24 (by decide) q) (by decide))]; exact F_sort
            have F_promised_ : f_16 (rt 22) = .inl (K 0, 40, .inl g_11) := by rw [ef_16, va_up_ne _ _ (fun q => absurd (hC.1.2 22 (by decide) 24 (by decide) q) (by decide))]; exact F_promised
            have F_promiseDay_ : f_16 (rt 23) = .inl (K 0, 40, .inl g_13) := by rw [ef_16, va_up_ne _ _ (fun q => absurd (hC.1.2 23 (by decide) 24 (by decide) q) (by decide))]; exact F_promiseDay
            have F_m := F_m_
            have F_sort := F_sort_
            have F_promised := F_promised_
            have F_promiseDay := F_promiseDay_
            have F_promiseFrom : f_16 (rt 24) = .inl (K 0, 40, .inl g_15) := by rw [ef_16, va_up_self]
            have hC : mC rt L f_16 fm := ⟨hC.1, F_m, hC.2.2.1, hC.2.2.2⟩
            refine lv_iconst (v := 1) hx hb dX6_promise_79 (by decide) ?_
            exact W.iret (v := 1) hx hb hr (fun t ht hW => ⟨⟨1, f_16, rfl, (Or.inr (Or.inr ⟨(by simp only [Int32.lt_iff_toInt_lt, Int32.le_iff_toInt_le, ← Int32.toInt_inj, Int32.reduceToInt] at g_2 g_4 g_6 c_8 ⊢; omega), (by rw [nI_clamp (by omega), ← ex_9]; exact c_10), rfl, by rw [ef_16, eg_15, ef_14, eg_13, ef_12, eg_11]⟩)), by show va_P (dC, dI) vwCl (va_pl L f_16) t.heap; rw [ht]; exact hP⟩, hS.F ht⟩) hS.2.2 dX6_promise_80
          · skip
            refine lv_bipush (v := (-2)) hx hb dX6_promise_52 (by decide) ?_
            exact W.iret (v := (-2)) hx hb hr (fun t ht hW => ⟨⟨(-2), f, rfl, (Or.inr (Or.inl ⟨(by simp only [Int32.lt_iff_toInt_lt, Int32.le_iff_toInt_le, ← Int32.toInt_inj, Int32.reduceToInt] at g_2 g_4 g_6 c_8 ⊢; omega), (by rw [nI_clamp (by omega), ← ex_9]; exact c_10), rfl, rfl⟩)), by show va_P (dC, dI) vwCl (va_pl L f) t.heap; rw [ht]; exact hP⟩, hS.F ht⟩) hS.2.2 dX6_promise_54
        · skip
          rw [ex_7] at c_8
          refine lv_iconst (v := (-1)) hx hb dX6_promise_40 (by decide) ?_
          exact W.iret (v := (-1)) hx hb hr (fun t ht hW => ⟨⟨(-1), f, rfl, (Or.inl ⟨(by simp only [Int32.lt_iff_toInt_lt, Int32.le_iff_toInt_le, ← Int32.toInt_inj, Int32.reduceToInt] at g_2 g_4 g_6 c_8 ⊢; omega), rfl, rfl⟩), by show va_P (dC, dI) vwCl (va_pl L f) t.heap; rw [ht]; exact hP⟩, hS.F ht⟩) hS.2.2 dX6_promise_41
end
section
set_option maxHeartbeats 4000000 in
set_option maxRecDepth 100000 in
theorem um_apart (l : Launch) (dC : Nat → ClassId) (dI : Nat → Nat → Nat) (K : Nat → ClassId) (L : List Nat) (f : Nat → va_E) (rt : Nat → Nat) {fm : List Value} (hC : mC rt L f fm) {g_apart : Nat → Int32} (F_apart : f (rt 21) = .inl (K 2, 1600, .inl g_apart)) {nc : Nat} (I_campaigns : fm[9]? = some (.int (nI nc))) (x : Int32) (y : Int32) (z : Int32) (hnc : nc ≤ 40) (hLn : gN L) : gMi l yX6_apart cX6_apart 5 2 (dC, dI) K L f [.ref (rt 51), .int x, .int y, .int z] (fun r f' => (¬ ((0 ≤ x ∧ x ≤ nI nc - 1) ∧ (0 ≤ y ∧ y ≤ nI nc - 1) ∧ ¬ x = y ∧ (0 ≤ z ∧ z ≤ 1)) ∧ r = (-1) ∧ f' = f) ∨ (((0 ≤ x ∧ x ≤ nI nc - 1) ∧ (0 ≤ y ∧ y ≤ nI nc - 1) ∧ ¬ x = y ∧ (0 ≤ z ∧ z ≤ 1)) ∧ r = (if g_apart (Int32.toNatClampNeg (40 * x + y)) = 0 then 0 else 1) ∧ f' = va_up (va_up f (rt 21) (.inl (K 2, 1600, .inl (upd g_apart (Int32.toNatClampNeg (40 * x + y)) (vp_nar .boolean z))))) (rt 21) (.inl (K 2, 1600, .inl (upd (upd g_apart (Int32.toNatClampNeg (40 * x + y)) (vp_nar .boolean z)) (Int32.toNatClampNeg (40 * y + x)) (vp_nar .boolean z)))))) := by
  refine Met.ofW (cc := cX6_apart) (maxL := 5) (ret := (some .int)) (by decide) rfl ?_
  intro p e s m args below meth c s₁ B hml hv
  obtain ⟨rfl, hP, hK⟩ := hv
  have F_m := hC.2.1
  have hD : va_D (fun q : Nat => q ∈ L) (va_pl L f) := g_D hLn (fun a h => h) f
  generalize hAe : (fun q : Nat => q ∈ L) = A at hD ⊢
  have hx := B.exec
  have hb := B.bytes
  have hr := B.returns
  have hlocks := B.notSynchronized
  have hts0 := atoms_spec (ws := Cond.code yX6_apart cX6_apart 5 (some .int) :: lw_B) B.pre
  have hts : ∀ w ∈ lw_B, w.before _ s = true := fun w h => hts0 w (List.mem_cons_of_mem _ h)
  have hown : s.vm.findClass RX6 = some m.cls := findClass_of_methodNamed B.named
  have hS : va_S A s.heap s.heap [] := va_S.rf
  have hl := lv_entry ([.ref (rt 51), .int x, .int y, .int z]) (n := 5) (Nat.le_of_ble_eq_true rfl)
  rw [lg_entry_eq]
  generalize (lg_sl ([.ref (rt 51), .int x, .int y, .int z]) ++ List.replicate (5 - (lg_sl ([.ref (rt 51), .int x, .int y, .int z])).length) Slot.unset).toArray = ls at hl ⊢
  have hl : lv_has ls 5 [(0, .ref (rt 51)), (1, .int x), (2, .int y), (3, .int z)] := hl
  refine lv_aload_n hx hb dX6_apart_0 rfl (lv_at hl 0 rfl) ?_
  refine lv_iload_n hx hb dX6_apart_1 rfl (lv_at hl 1 rfl) ?_
  refine gc_R (ci := 6) ⟨hx, hb, hml, hown, hts⟩ (m_isCampaign l dC dI K L f rt hC I_campaigns x) 1 wm_81 wm_82 wm_83 wm_8 wm_84 (by decide +kernel) ⟨Nat.le_of_ble_eq_true rfl, Nat.le_of_ble_eq_true rfl⟩ hK rfl (hC.1.1 51 (by decide)) F_m rfl hl.1 rfl (Nat.le_of_ble_eq_true rfl) dX6_apart_2 ⟨Nat.le_of_ble_eq_true rfl, Nat.le_of_ble_eq_true rfl⟩ hS hP (fun r_1 H locs hpr_1 hP hS => ?_)
  refine lv_if_eq (tgt := 30) hx hb dX6_apart_5 (by decide) (fun c_2 => ?_) (fun c_2 => ?_)
  · skip
    have g_2 := k_ff hpr_1 c_2
    refine lv_iconst (v := (-1)) hx hb dX6_apart_30 (by decide) ?_
    exact W.iret (v := (-1)) hx hb hr (fun t ht hW => ⟨⟨(-1), f, rfl, (Or.inl ⟨(by simp only [Int32.lt_iff_toInt_lt, Int32.le_iff_toInt_le, ← Int32.toInt_inj, Int32.reduceToInt] at g_2 ⊢; omega), rfl, rfl⟩), by show va_P (dC, dI) vwCl (va_pl L f) t.heap; rw [ht]; exact hP⟩, hS.F ht⟩) hS.2.2 dX6_apart_31
  · skip
    have g_2 := k_ft hpr_1 c_2
    obtain ⟨c1, hc1, rfl⟩ := k_ix g_2 (by omega)
    refine lv_aload_n hx hb dX6_apart_8 rfl (lv_at hl 0 rfl) ?_
    refine lv_iload_n hx hb dX6_apart_9 rfl (lv_at hl 2 rfl) ?_
    refine gc_R (ci := 6) ⟨hx, hb, hml, hown, hts⟩ (m_isCampaign l dC dI K L f rt hC I_campaigns y) 1 wm_81 wm_82 wm_83 wm_8 wm_84 (by decide +kernel) ⟨Nat.le_of_ble_eq_true rfl, Nat.le_of_ble_eq_true rfl⟩ hK rfl (hC.1.1 51 (by decide)) F_m rfl hl.1 rfl (Nat.le_of_ble_eq_true rfl) dX6_apart_10 ⟨Nat.le_of_ble_eq_true rfl, Nat.le_of_ble_eq_true rfl⟩ hS hP (fun r_3 H locs hpr_3 hP hS => ?_)
    refine lv_if_eq (tgt := 30) hx hb dX6_apart_13 (by decide) (fun c_4 => ?_) (fun c_4 => ?_)
    · skip
      have g_4 := k_ff hpr_3 c_4
      refine lv_iconst (v := (-1)) hx hb dX6_apart_30 (by decide) ?_
      exact W.iret (v := (-1)) hx hb hr (fun t ht hW => ⟨⟨(-1), f, rfl, (Or.inl ⟨(by simp only [Int32.lt_iff_toInt_lt, Int32.le_iff_toInt_le, ← Int32.toInt_inj, Int32.reduceToInt] at g_2 g_4 ⊢; omega), rfl, rfl⟩), by show va_P (dC, dI) vwCl (va_pl L f) t.heap; rw [ht]; exact hP⟩, hS.F ht⟩) hS.2.2 dX6_apart_31
    · skip
      have g_4 := k_ft hpr_3 c_4
      obtain ⟨c2, hc2, rfl⟩ := k_ix g_4 (by omega)
      refine lv_iload_n hx hb dX6_apart_16 rfl (lv_at hl 1 rfl) ?_
      refine lv_iload_n hx hb dX6_apart_17 rfl (lv_at hl 2 rfl) ?_
      refine lv_icmp_eq (tgt := 30) hx hb dX6_apart_18 (by decide) (fun c_5 => ?_) (fun c_5 => ?_)
      · skip
        refine lv_iconst (v := (-1)) hx hb dX6_apart_30 (by decide) ?_
        exact W.iret (v := (-1)) hx hb hr (fun t ht hW => ⟨⟨(-1), f, rfl, (Or.inl ⟨(by simp only [Int32.lt_iff_toInt_lt, Int32.le_iff_toInt_le, ← Int32.toInt_inj, Int32.reduceToInt] at g_2 g_4 c_5 ⊢; omega), rfl, rfl⟩), by show va_P (dC, dI) vwCl (va_pl L f) t.heap; rw [ht]; exact hP⟩, hS.F ht⟩) hS.2.2 dX6_apart_31
      · skip
        refine lv_iload_n hx hb dX6_apart_21 rfl (lv_at hl 3 rfl) ?_
        refine lv_iconst (v := 0) hx hb dX6_apart_22 (by decide) ?_
        refine lv_iconst (v := 1) hx hb dX6_apart_23 (by decide) ?_
        refine k_S ⟨hx, hb, hml, hown, hts⟩ (c_in l z 0 1) 3 wm_69 wm_70 wm_8 wm_71 (by decide +kernel) ⟨Nat.le_of_ble_eq_true rfl, Nat.le_of_ble_eq_true rfl⟩ rfl hl.1 rfl (Nat.le_of_ble_eq_true rfl) dX6_apart_24 ⟨Nat.le_of_ble_eq_true rfl, Nat.le_of_ble_eq_true rfl⟩ hS hP (fun r_6 H locs hpr_6 hP hS => ?_)
        refine lv_if_ne (tgt := 32) hx hb dX6_apart_27 (by decide) (fun c_7 => ?_) (fun c_7 => ?_)
        · skip
          have g_7 := k_ft hpr_6 c_7
          refine lv_aload_n hx hb dX6_apart_32 rfl (lv_at hl 0 rfl) ?_
          refine g_get (ci := 6) (v := .ref (rt 21)) (C := RX6) (T := TX6) (N := 51) hx hb hts uB6 hown hK hP (hC.1.1 51 (by decide)) F_m rfl 21 (by decide) wm_49 (hC.2.2.2 21 (by decide)) dX6_apart_33 ?_
          refine lv_bipush (v := 40) hx hb dX6_apart_36 (by decide) ?_
          refine lv_iload_n hx hb dX6_apart_38 rfl (lv_at hl 1 rfl) ?_
          refine lv_imul hx hb dX6_apart_39 ?_
          refine lv_topi (fun x_8 ex_8 => ?_)
          refine lv_iload_n hx hb dX6_apart_40 rfl (lv_at hl 2 rfl) ?_
          refine lv_iadd hx hb dX6_apart_41 ?_
          refine lv_topi (fun x_9 ex_9 => ?_)
          refine g_zald hx hb hK hP (hC.1.1 21 (by decide)) F_apart (by subst ex_9 ex_8; first | exact k_ap (by omega) (vp_in_nI (by omega) (by decide))) dX6_apart_42 ?_
          refine lv_topi (fun x_10 ex_10 => ?_)
          refine lv_if_eq (tgt := 50) hx hb dX6_apart_43 (by decide) (fun c_11 => ?_) (fun c_11 => ?_)
          · skip
            refine lv_iconst (v := 0) hx hb dX6_apart_50 (by decide) ?_
            refine lv_istore (lv' := [(4, .int 0), (0, .ref (rt 51)), (1, .int (nI c1)), (2, .int (nI c2)), (3, .int z)]) hx hb dX6_apart_51 hl (by decide) rfl (fun ls hl => ?_)
            refine lv_aload_n hx hb dX6_apart_53 rfl (lv_at hl 1 rfl) ?_
            refine g_get (ci := 6) (v := .ref (rt 21)) (C := RX6) (T := TX6) (N := 51) hx hb hts uB6 hown hK hP (hC.1.1 51 (by decide)) F_m rfl 21 (by decide) wm_49 (hC.2.2.2 21 (by decide)) dX6_apart_54 ?_
            refine lv_bipush (v := 40) hx hb dX6_apart_57 (by decide) ?_
            refine lv_iload_n hx hb dX6_apart_59 rfl (lv_at hl 2 rfl) ?_
            refine lv_imul hx hb dX6_apart_60 ?_
            refine lv_topi (fun x_12 ex_12 => ?_)
            refine lv_iload_n hx hb dX6_apart_61 rfl (lv_at hl 3 rfl) ?_
            refine lv_iadd hx hb dX6_apart_62 ?_
            refine lv_topi (fun x_13 ex_13 => ?_)
            refine lv_iload_n hx hb dX6_apart_63 rfl (lv_at hl 4 rfl) ?_
            refine lv_iconst (v := 1) hx hb dX6_apart_64 (by decide) ?_
            refine lv_icmp_ne (tgt := 72) hx hb dX6_apart_65 (by decide) (fun c_14 => ?_) (fun c_14 => ?_)
            · skip
              refine lv_iconst (v := 0) hx hb dX6_apart_72 (by decide) ?_
              refine g_zast hx hb hK hP hD hS (hC.1.1 21 (by decide)) F_apart (by subst ex_13 ex_12; first | exact k_ap (by omega) (vp_in_nI (by omega) (by decide))) dX6_apart_73 (fun H locs hP hD hS => ?_)
              obtain ⟨g_15, eg_15⟩ : ∃ z9, z9 = upd g_apart (Int32.toNatClampNeg x_13) (vp_nar .boolean 0) := ⟨_, rfl⟩
              rw [← eg_15] at hP hD
              obtain ⟨f_16, ef_16⟩ : ∃ z9, z9 = va_up f (rt 21) (.inl (K 2, 1600, .inl g_15)) := ⟨_, rfl⟩
              have hP : va_P (dC, dI) vwCl (va_pl L f_16) H := by rw [ef_16]; exact hP
              have hD : va_D A (va_pl L f_16) := by rw [ef_16]; exact hD
              have F_m_ : f_16 (rt 51) = .inr (6, fm) := by rw [ef_16, va_up_ne _ _ (fun q => absurd (hC.1.2 51 (by decide) 21 (by decide) q) (by decide))]; exact F_m
              have F_m := F_m_
              have F_apart : f_16 (rt 21) = .inl (K 2, 1600, .inl g_15) := by rw [ef_16, va_up_self]
              have hC : mC rt L f_16 fm := ⟨hC.1, F_m, hC.2.2.1, hC.2.2.2⟩
              refine lv_aload_n hx hb dX6_apart_74 rfl (lv_at hl 1 rfl) ?_
              refine g_get (ci := 6) (v := .ref (rt 21)) (C := RX6) (T := TX6) (N := 51) hx hb hts uB6 hown hK hP (hC.1.1 51 (by decide)) F_m rfl 21 (by decide) wm_49 (hC.2.2.2 21 (by decide)) dX6_apart_75 ?_
              refine lv_bipush (v := 40) hx hb dX6_apart_78 (by decide) ?_
              refine lv_iload_n hx hb dX6_apart_80 rfl (lv_at hl 3 rfl) ?_
              refine lv_imul hx hb dX6_apart_81 ?_
              refine lv_topi (fun x_17 ex_17 => ?_)
              refine lv_iload_n hx hb dX6_apart_82 rfl (lv_at hl 2 rfl) ?_
              refine lv_iadd hx hb dX6_apart_83 ?_
              refine lv_topi (fun x_18 ex_18 => ?_)
              refine lv_iload_n hx hb dX6_apart_84 rfl (lv_at hl 4 rfl) ?_
              refine lv_iconst (v := 1) hx hb dX6_apart_85 (by decide) ?_
              refine lv_icmp_ne (tgt := 93) hx hb dX6_apart_86 (by decide) (fun c_19 => ?_) (fun c_19 => ?_)
              · skip
                refine lv_iconst (v := 0) hx hb dX6_apart_93 (by decide) ?_
                refine g_zast hx hb hK hP hD hS (hC.1.1 21 (by decide)) F_apart (by subst ex_18 ex_17; first | exact k_ap (by omega) (vp_in_nI (by omega) (by decide))) dX6_apart_94 (fun H locs hP hD hS => ?_)
                obtain ⟨g_20, eg_20⟩ : ∃ z9, z9 = upd g_15 (Int32.toNatClampNeg x_18) (vp_nar .boolean 0) := ⟨_, rfl⟩
                rw [← eg_20] at hP hD
                obtain ⟨f_21, ef_21⟩ : ∃ z9, z9 = va_up f_16 (rt 21) (.inl (K 2, 1600, .inl g_20)) := ⟨_, rfl⟩
                have hP : va_P (dC, dI) vwCl (va_pl L f_21) H := by rw [ef_21]; exact hP
                have hD : va_D A (va_pl L f_21) := by rw [ef_21]; exact hD
                have F_m_ : f_21 (rt 51) = .inr (6, fm) := by rw [ef_21, va_up_ne _ _ (fun q => absurd (hC.1.2 51 (by decide) 21 (by decide) q) (by decide))]; exact F_m
                have F_m := F_m_
                have F_apart : f_21 (rt 21) = .inl (K 2, 1600, .inl g_20) := by rw [ef_21, va_up_self]
                have hC : mC rt L f_21 fm := ⟨hC.1, F_m, hC.2.2.1, hC.2.2.2⟩
                refine lv_iload hx hb dX6_apart_95 (lv_at hl 0 rfl) ?_
                exact W.iret (v := 0) hx hb hr (fun t ht hW => ⟨⟨0, f_21, rfl, (Or.inr ⟨(by simp only [Int32.lt_iff_toInt_lt, Int32.le_iff_toInt_le, ← Int32.toInt_inj, Int32.reduceToInt] at g_2 g_4 c_5 g_7 ⊢; omega), (by rw [show g_apart (Int32.toNatClampNeg (40 * nI c1 + nI c2)) = x_10 by subst ex_10 ex_9 ex_8; rfl, if_pos c_11]), by rw [ef_21, eg_20, ef_16, eg_15, ((k_nar01 g_7).resolve_right c_14)]; subst ex_18 ex_17 ex_13 ex_12 ex_10 ex_9 ex_8; rfl⟩), by show va_P (dC, dI) vwCl (va_pl L f_21) t.heap; rw [ht]; exact hP⟩, hS.F ht⟩) hS.2.2 dX6_apart_97
              · skip
                exact absurd c_19 c_14
            · skip
              refine lv_iconst (v := 1) hx hb dX6_apart_68 (by decide) ?_
              refine lv_goto (tgt := 73) hx hb dX6_apart_69 (by decide) ?_
              refine g_zast hx hb hK hP hD hS (hC.1.1 21 (by decide)) F_apart (by subst ex_13 ex_12; first | exact k_ap (by omega) (vp_in_nI (by omega) (by decide))) dX6_apart_73 (fun H locs hP hD hS => ?_)
              obtain ⟨g_22, eg_22⟩ : ∃ z9, z9 = upd g_apart (Int32.toNatClampNeg x_13) (vp_nar .boolean 1) := ⟨_, rfl⟩
              rw [← eg_22] at hP hD
              obtain ⟨f_23, ef_23⟩ : ∃ z9, z9 = va_up f (rt 21) (.inl (K 2, 1600, .inl g_22)) := ⟨_, rfl⟩
              have hP : va_P (dC, dI) vwCl (va_pl L f_23) H := by rw [ef_23]; exact hP
              have hD : va_D A (va_pl L f_23) := by rw [ef_23]; exact hD
              have F_m_ : f_23 (rt 51) = .inr (6, fm) := by rw [ef_23, va_up_ne _ _ (fun q => absurd (hC.1.2 51 (by decide) 21 (by decide) q) (by decide))]; exact F_m
              have F_m := F_m_
              have F_apart : f_23 (rt 21) = .inl (K 2, 1600, .inl g_22) := by rw [ef_23, va_up_self]
              have hC : mC rt L f_23 fm := ⟨hC.1, F_m, hC.2.2.1, hC.2.2.2⟩
              refine lv_aload_n hx hb dX6_apart_74 rfl (lv_at hl 1 rfl) ?_
              refine g_get (ci := 6) (v := .ref (rt 21)) (C := RX6) (T := TX6) (N := 51) hx hb hts uB6 hown hK hP (hC.1.1 51 (by decide)) F_m rfl 21 (by decide) wm_49 (hC.2.2.2 21 (by decide)) dX6_apart_75 ?_
              refine lv_bipush (v := 40) hx hb dX6_apart_78 (by decide) ?_
              refine lv_iload_n hx hb dX6_apart_80 rfl (lv_at hl 3 rfl) ?_
              refine lv_imul hx hb dX6_apart_81 ?_
              refine lv_topi (fun x_24 ex_24 => ?_)
              refine lv_iload_n hx hb dX6_apart_82 rfl (lv_at hl 2 rfl) ?_
              refine lv_iadd hx hb dX6_apart_83 ?_
              refine lv_topi (fun x_25 ex_25 => ?_)
              refine lv_iload_n hx hb dX6_apart_84 rfl (lv_at hl 4 rfl) ?_
              refine lv_iconst (v := 1) hx hb dX6_apart_85 (by decide) ?_
              refine lv_icmp_ne (tgt := 93) hx hb dX6_apart_86 (by decide) (fun c_26 => ?_) (fun c_26 => ?_)
              · skip
                exact absurd c_14 c_26
              · skip
                refine lv_iconst (v := 1) hx hb dX6_apart_89 (by decide) ?_
                refine lv_goto (tgt := 94) hx hb dX6_apart_90 (by decide) ?_
                refine g_zast hx hb hK hP hD hS (hC.1.1 21 (by decide)) F_apart (by subst ex_25 ex_24; first | exact k_ap (by omega) (vp_in_nI (by omega) (by decide))) dX6_apart_94 (fun H locs hP hD hS => ?_)
                obtain ⟨g_27, eg_27⟩ : ∃ z9, z9 = upd g_22 (Int32.toNatClampNeg x_25) (vp_nar .boolean 1) := ⟨_, rfl⟩
                rw [← eg_27] at hP hD
                obtain ⟨f_28, ef_28⟩ : ∃ z9, z9 = va_up f_23 (rt 21) (.inl (K 2, 1600, .inl g_27)) := ⟨_, rfl⟩
                have hP : va_P (dC, dI) vwCl (va_pl L f_28) H := by rw [ef_28]; exact hP
                have hD : va_D A (va_pl L f_28) := by rw [ef_28]; exact hD
                have F_m_ : f_28 (rt 51) = .inr (6, fm) := by rw [ef_28, va_up_ne _ _ (fun q => absurd (hC.1.2 51 (by decide) 21 (by decide) q) (by decide))]; exact F_m
                have F_m := F_m_
                have F_apart : f_28 (rt 21) = .inl (K 2, 1600, .inl g_27) := by rw [ef_28, va_up_self]
                have hC : mC rt L f_28 fm := ⟨hC.1, F_m, hC.2.2.1, hC.2.2.2⟩
                refine lv_iload hx hb dX6_apart_95 (lv_at hl 0 rfl) ?_
                exact W.iret (v := 0) hx hb hr (fun t ht hW => ⟨⟨0, f_28, rfl, (Or.inr ⟨(by simp only [Int32.lt_iff_toInt_lt, Int32.le_iff_toInt_le, ← Int32.toInt_inj, Int32.reduceToInt] at g_2 g_4 c_5 g_7 ⊢; omega), (by rw [show g_apart (Int32.toNatClampNeg (40 * nI c1 + nI c2)) = x_10 by subst ex_10 ex_9 ex_8; rfl, if_pos c_11]), by rw [ef_28, eg_27, ef_23, eg_22, (show z = 1 from c_14)]; subst ex_25 ex_24 ex_13 ex_12 ex_10 ex_9 ex_8; rfl⟩), by show va_P (dC, dI) vwCl (va_pl L f_28) t.heap; rw [ht]; exact hP⟩, hS.F ht⟩) hS.2.2 dX6_apart_97
          · skip
            refine lv_iconst (v := 1) hx hb dX6_apart_46 (by decide) ?_
            refine lv_goto (tgt := 51) hx hb dX6_apart_47 (by decide) ?_
            refine lv_istore (lv' := [(4, .int 1), (0, .ref (rt 51)), (1, .int (nI c1)), (2, .int (nI c2)), (3, .int z)]) hx hb dX6_apart_51 hl (by decide) rfl (fun ls hl => ?_)
            refine lv_aload_n hx hb dX6_apart_53 rfl (lv_at hl 1 rfl) ?_
            refine g_get (ci := 6) (v := .ref (rt 21)) (C := RX6) (T := TX6) (N := 51) hx hb hts uB6 hown hK hP (hC.1.1 51 (by decide)) F_m rfl 21 (by decide) wm_49 (hC.2.2.2 21 (by decide)) dX6_apart_54 ?_
            refine lv_bipush (v := 40) hx hb dX6_apart_57 (by decide) ?_
            refine lv_iload_n hx hb dX6_apart_59 rfl (lv_at hl 2 rfl) ?_
            refine lv_imul hx hb dX6_apart_60 ?_
            refine lv_topi (fun x_29 ex_29 => ?_)
            refine lv_iload_n hx hb dX6_apart_61 rfl (lv_at hl 3 rfl) ?_
            refine lv_iadd hx hb dX6_apart_62 ?_
            refine lv_topi (fun x_30 ex_30 => ?_)
            refine lv_iload_n hx hb dX6_apart_63 rfl (lv_at hl 4 rfl) ?_
            refine lv_iconst (v := 1) hx hb dX6_apart_64 (by decide) ?_
            refine lv_icmp_ne (tgt := 72) hx hb dX6_apart_65 (by decide) (fun c_31 => ?_) (fun c_31 => ?_)
            · skip
              refine lv_iconst (v := 0) hx hb dX6_apart_72 (by decide) ?_
              refine g_zast hx hb hK hP hD hS (hC.1.1 21 (by decide)) F_apart (by subst ex_30 ex_29; first | exact k_ap (by omega) (vp_in_nI (by omega) (by decide))) dX6_apart_73 (fun H locs hP hD hS => ?_)
              obtain ⟨g_32, eg_32⟩ : ∃ z9, z9 = upd g_apart (Int32.toNatClampNeg x_30) (vp_nar .boolean 0) := ⟨_, rfl⟩
              rw [← eg_32] at hP hD
              obtain ⟨f_33, ef_33⟩ : ∃ z9, z9 = va_up f (rt 21) (.inl (K 2, 1600, .inl g_32)) := ⟨_, rfl⟩
              have hP : va_P (dC, dI) vwCl (va_pl L f_33) H := by rw [ef_33]; exact hP
              have hD : va_D A (va_pl L f_33) := by rw [ef_33]; exact hD
              have F_m_ : f_33 (rt 51) = .inr (6, fm) := by rw [ef_33, va_up_ne _ _ (fun q => absurd (hC.1.2 51 (by decide) 21 (by decide) q) (by decide))]; exact F_m
              have F_m := F_m_
              have F_apart : f_33 (rt 21) = .inl (K 2, 1600, .inl g_32) := by rw [ef_33, va_up_self]
              have hC : mC rt L f_33 fm := ⟨hC.1, F_m, hC.2.2.1, hC.2.2.2⟩
              refine lv_aload_n hx hb dX6_apart_74 rfl (lv_at hl 1 rfl) ?_
              refine g_get (ci := 6) (v := .ref (rt 21)) (C := RX6) (T := TX6) (N := 51) hx hb hts uB6 hown hK hP (hC.1.1 51 (by decide)) F_m rfl 21 (by decide) wm_49 (hC.2.2.2 21 (by decide)) dX6_apart_75 ?_
              refine lv_bipush (v := 40) hx hb dX6_apart_78 (by decide) ?_
              refine lv_iload_n hx hb dX6_apart_80 rfl (lv_at hl 3 rfl) ?_
              refine lv_imul hx hb dX6_apart_81 ?_
              refine lv_topi (fun x_34 ex_34 => ?_)
              refine lv_iload_n hx hb dX6_apart_82 rfl (lv_at hl 2 rfl) ?_
              refine lv_iadd hx hb dX6_apart_83 ?_
              refine lv_topi (fun x_35 ex_35 => ?_)
              refine lv_iload_n hx hb dX6_apart_84 rfl (lv_at hl 4 rfl) ?_
              refine lv_iconst (v := 1) hx hb dX6_apart_85 (by decide) ?_
              refine lv_icmp_ne (tgt := 93) hx hb dX6_apart_86 (by decide) (fun c_36 => ?_) (fun c_36 => ?_)
              · skip
                refine lv_iconst (v := 0) hx hb dX6_apart_93 (by decide) ?_
                refine g_zast hx hb hK hP hD hS (hC.1.1 21 (by decide)) F_apart (by subst ex_35 ex_34; first | exact k_ap (by omega) (vp_in_nI (by omega) (by decide))) dX6_apart_94 (fun H locs hP hD hS => ?_)
                obtain ⟨g_37, eg_37⟩ : ∃ z9, z9 = upd g_32 (Int32.toNatClampNeg x_35) (vp_nar .boolean 0) := ⟨_, rfl⟩
                rw [← eg_37] at hP hD
                obtain ⟨f_38, ef_38⟩ : ∃ z9, z9 = va_up f_33 (rt 21) (.inl (K 2, 1600, .inl g_37)) := ⟨_, rfl⟩
                have hP : va_P (dC, dI) vwCl (va_pl L f_38) H := by rw [ef_38]; exact hP
                have hD : va_D A (va_pl L f_38) := by rw [ef_38]; exact hD
                have F_m_ : f_38 (rt 51) = .inr (6, fm) := by rw [ef_38, va_up_ne _ _ (fun q => absurd (hC.1.2 51 (by decide) 21 (by decide) q) (by decide))]; exact F_m
                have F_m := F_m_
                have F_apart : f_38 (rt 21) = .inl (K 2, 1600, .inl g_37) := by rw [ef_38, va_up_self]
                have hC : mC rt L f_38 fm := ⟨hC.1, F_m, hC.2.2.1, hC.2.2.2⟩
                refine lv_iload hx hb dX6_apart_95 (lv_at hl 0 rfl) ?_
                exact W.iret (v := 1) hx hb hr (fun t ht hW => ⟨⟨1, f_38, rfl, (Or.inr ⟨(by simp only [Int32.lt_iff_toInt_lt, Int32.le_iff_toInt_le, ← Int32.toInt_inj, Int32.reduceToInt] at g_2 g_4 c_5 g_7 ⊢; omega), (by rw [show g_apart (Int32.toNatClampNeg (40 * nI c1 + nI c2)) = x_10 by subst ex_10 ex_9 ex_8; rfl, if_neg c_11]), by rw [ef_38, eg_37, ef_33, eg_32, ((k_nar01 g_7).resolve_right c_31)]; subst ex_35 ex_34 ex_30 ex_29 ex_10 ex_9 ex_8; rfl⟩), by show va_P (dC, dI) vwCl (va_pl L f_38) t.heap; rw [ht]; exact hP⟩, hS.F ht⟩) hS.2.2 dX6_apart_97
              · skip
                exact absurd c_36 c_31
            · skip
              refine lv_iconst (v := 1) hx hb dX6_apart_68 (by decide) ?_
              refine lv_goto (tgt := 73) hx hb dX6_apart_69 (by decide) ?_
              refine g_zast hx hb hK hP hD hS (hC.1.1 21 (by decide)) F_apart (by subst ex_30 ex_29; first | exact k_ap (by omega) (vp_in_nI (by omega) (by decide))) dX6_apart_73 (fun H locs hP hD hS => ?_)
              obtain ⟨g_39, eg_39⟩ : ∃ z9, z9 = upd g_apart (Int32.toNatClampNeg x_30) (vp_nar .boolean 1) := ⟨_, rfl⟩
              rw [← eg_39] at hP hD
              obtain ⟨f_40, ef_40⟩ : ∃ z9, z9 = va_up f (rt 21) (.inl (K 2, 1600, .inl g_39)) := ⟨_, rfl⟩
              have hP : va_P (dC, dI) vwCl (va_pl L f_40) H := by rw [ef_40]; exact hP
              have hD : va_D A (va_pl L f_40) := by rw [ef_40]; exact hD
              have F_m_ : f_40 (rt 51) = .inr (6, fm) := by rw [ef_40, va_up_ne _ _ (fun q => absurd (hC.1.2 51 (by decide) 21 (by decide) q) (by decide))]; exact F_m
              have F_m := F_m_
              have F_apart : f_40 (rt 21) = .inl (K 2, 1600, .inl g_39) := by rw [ef_40, va_up_self]
              have hC : mC rt L f_40 fm := ⟨hC.1, F_m, hC.2.2.1, hC.2.2.2⟩
              refine lv_aload_n hx hb dX6_apart_74 rfl (lv_at hl 1 rfl) ?_
              refine g_get (ci := 6) (v := .ref (rt 21)) (C := RX6) (T := TX6) (N := 51) hx hb hts uB6 hown hK hP (hC.1.1 51 (by decide)) F_m rfl 21 (by decide) wm_49 (hC.2.2.2 21 (by decide)) dX6_apart_75 ?_
              refine lv_bipush (v := 40) hx hb dX6_apart_78 (by decide) ?_
              refine lv_iload_n hx hb dX6_apart_80 rfl (lv_at hl 3 rfl) ?_
              refine lv_imul hx hb dX6_apart_81 ?_
              refine lv_topi (fun x_41 ex_41 => ?_)
              refine lv_iload_n hx hb dX6_apart_82 rfl (lv_at hl 2 rfl) ?_
              refine lv_iadd hx hb dX6_apart_83 ?_
              refine lv_topi (fun x_42 ex_42 => ?_)
              refine lv_iload_n hx hb dX6_apart_84 rfl (lv_at hl 4 rfl) ?_
              refine lv_iconst (v := 1) hx hb dX6_apart_85 (by decide) ?_
              refine lv_icmp_ne (tgt := 93) hx hb dX6_apart_86 (by decide) (fun c_43 => ?_) (fun c_43 => ?_)
              · skip
                exact absurd c_31 c_43
              · skip
                refine lv_iconst (v := 1) hx hb dX6_apart_89 (by decide) ?_
                refine lv_goto (tgt := 94) hx hb dX6_apart_90 (by decide) ?_
                refine g_zast hx hb hK hP hD hS (hC.1.1 21 (by decide)) F_apart (by subst ex_42 ex_41; first | exact k_ap (by omega) (vp_in_nI (by omega) (by decide))) dX6_apart_94 (fun H locs hP hD hS => ?_)
                obtain ⟨g_44, eg_44⟩ : ∃ z9, z9 = upd g_39 (Int32.toNatClampNeg x_42) (vp_nar .boolean 1) := ⟨_, rfl⟩
                rw [← eg_44] at hP hD
                obtain ⟨f_45, ef_45⟩ : ∃ z9, z9 = va_up f_40 (rt 21) (.inl (K 2, 1600, .inl g_44)) := ⟨_, rfl⟩
                have hP : va_P (dC, dI) vwCl (va_pl L f_45) H := by rw [ef_45]; exact hP
                have hD : va_D A (va_pl L f_45) := by rw [ef_45]; exact hD
                have F_m_ : f_45 (rt 51) = .inr (6, fm) := by rw [ef_45, va_up_ne _ _ (fun q => absurd (hC.1.2 51 (by decide) 21 (by decide) q) (by decide))]; exact F_m
                have F_m := F_m_
                have F_apart : f_45 (rt 21) = .inl (K 2, 1600, .inl g_44) := by rw [ef_45, va_up_self]
                have hC : mC rt L f_45 fm := ⟨hC.1, F_m, hC.2.2.1, hC.2.2.2⟩
                refine lv_iload hx hb dX6_apart_95 (lv_at hl 0 rfl) ?_
                exact W.iret (v := 1) hx hb hr (fun t ht hW => ⟨⟨1, f_45, rfl, (Or.inr ⟨(by simp only [Int32.lt_iff_toInt_lt, Int32.le_iff_toInt_le, ← Int32.toInt_inj, Int32.reduceToInt] at g_2 g_4 c_5 g_7 ⊢; omega), (by rw [show g_apart (Int32.toNatClampNeg (40 * nI c1 + nI c2)) = x_10 by subst ex_10 ex_9 ex_8; rfl, if_neg c_11]), by rw [ef_45, eg_44, ef_40, eg_39, (show z = 1 from c_31)]; subst ex_42 ex_41 ex_30 ex_29 ex_10 ex_9 ex_8; rfl⟩), by show va_P (dC, dI) vwCl (va_pl L f_45) t.heap; rw [ht]; exact hP⟩, hS.F ht⟩) hS.2.2 dX6_apart_97
        · skip
          have g_7 := k_ff hpr_6 c_7
          refine lv_iconst (v := (-1)) hx hb dX6_apart_30 (by decide) ?_
          exact W.iret (v := (-1)) hx hb hr (fun t ht hW => ⟨⟨(-1), f, rfl, (Or.inl ⟨(by simp only [Int32.lt_iff_toInt_lt, Int32.le_iff_toInt_le, ← Int32.toInt_inj, Int32.reduceToInt] at g_2 g_4 c_5 g_7 ⊢; omega), rfl, rfl⟩), by show va_P (dC, dI) vwCl (va_pl L f) t.heap; rw [ht]; exact hP⟩, hS.F ht⟩) hS.2.2 dX6_apart_31
end
section
set_option maxHeartbeats 4000000 in
set_option maxRecDepth 100000 in
theorem um_campaign (l : Launch) (dC : Nat → ClassId) (dI : Nat → Nat → Nat) (K : Nat → ClassId) (L : List Nat) (f : Nat → va_E) (rt : Nat → Nat) {fm : List Value} (hC : mC rt L f fm) {g_sort : Nat → Int32} (F_sort : f (rt 10) = .inl (K 0, 40, .inl g_sort)) {g_pays : Nat → Int32} (F_pays : f (rt 11) = .inl (K 0, 40, .inl g_pays)) {g_must : Nat → Int32} (F_must : f (rt 12) = .inl (K 0, 40, .inl g_must)) {g_never : Nat → Int32} (F_never : f (rt 13) = .inl (K 0, 40, .inl g_never)) {g_bid : Nat → Int32} (F_bid : f (rt 14) = .inl (K 0, 40, .inl g_bid)) {g_cap : Nat → Int32} (F_cap : f (rt 17) = .inl (K 0, 40, .inl g_cap)) {g_span : Nat → Int32} (F_span : f (rt 18) = .inl (K 0, 40, .inl g_span)) {g_throttle : Nat → Int32} (F_throttle : f (rt 19) = .inl (K 0, 40, .inl g_throttle)) {g_promised : Nat → Int32} (F_promised : f (rt 22) = .inl (K 0, 40, .inl g_promised)) {nc : Nat} (I_campaigns : fm[9]? = some (.int (nI nc))) (x : Int32) (y : Int32) (z : Int32) (hnc : nc ≤ 40) (hLn : gN L) : gMi l yX6_campaign cX6_campaign 7 1 (dC, dI) K L f [.ref (rt 51), .int x, .int y, .int z] (fun r f' => (¬ cpOk x y z ∧ r = (-1) ∧ f' = f) ∨ (cpOk x y z ∧ nc = 40 ∧ r = (-3) ∧ f' = f) ∨ (cpOk x y z ∧ nc < 40 ∧ r = nI nc ∧ f' = va_up (va_up (va_up (va_up (va_up (va_up (va_up (va_up (va_up (va_up (f) (rt 10) (.inl (K 0, 40, .inl (upd g_sort (Int32.toNatClampNeg (nI nc)) (x / 10))))) (rt 11) (.inl (K 0, 40, .inl (upd g_pays (Int32.toNatClampNeg (nI nc)) (x - x / 10 * 10))))) (rt 12) (.inl (K 0, 40, .inl (upd g_must (Int32.toNatClampNeg (nI nc)) (y / 4096))))) (rt 13) (.inl (K 0, 40, .inl (upd g_never (Int32.toNatClampNeg (nI nc)) (y - y / 4096 * 4096))))) (rt 14) (.inl (K 0, 40, .inl (upd g_bid (Int32.toNatClampNeg (nI nc)) z)))) (rt 17) (.inl (K 0, 40, .inl (upd g_cap (Int32.toNatClampNeg (nI nc)) 9)))) (rt 18) (.inl (K 0, 40, .inl (upd g_span (Int32.toNatClampNeg (nI nc)) 1)))) (rt 19) (.inl (K 0, 40, .inl (upd g_throttle (Int32.toNatClampNeg (nI nc)) 1000)))) (rt 22) (.inl (K 0, 40, .inl (upd g_promised (Int32.toNatClampNeg (nI nc)) 0)))) (rt 51) (.inr (6, List.set fm 9 (.int (nI (nc + 1))))))) := by
  refine Met.ofW (cc := cX6_campaign) (maxL := 7) (ret := (some .int)) (by decide) rfl ?_
  intro p e s m args below meth c s₁ B hml hv
  obtain ⟨rfl, hP, hK⟩ := hv
  have F_m := hC.2.1
  have hD : va_D (fun q : Nat => q ∈ L) (va_pl L f) := g_D hLn (fun a h => h) f
  generalize hAe : (fun q : Nat => q ∈ L) = A at hD ⊢
  have hx := B.exec
  have hb := B.bytes
  have hr := B.returns
  have hlocks := B.notSynchronized
  have hts0 := atoms_spec (ws := Cond.code yX6_campaign cX6_campaign 7 (some .int) :: lw_B) B.pre
  have hts : ∀ w ∈ lw_B, w.before _ s = true := fun w h => hts0 w (List.mem_cons_of_mem _ h)
  have hown : s.vm.findClass RX6 = some m.cls := findClass_of_methodNamed B.named
  have hS : va_S A s.heap s.heap [] := va_S.rf
  have hl := lv_entry ([.ref (rt 51), .int x, .int y, .int z]) (n := 7) (Nat.le_of_ble_eq_true rfl)
  rw [lg_entry_eq]
  generalize (lg_sl ([.ref (rt 51), .int x, .int y, .int z]) ++ List.replicate (7 - (lg_sl ([.ref (rt 51), .int x, .int y, .int z])).length) Slot.unset).toArray = ls at hl ⊢
  have hl : lv_has ls 7 [(0, .ref (rt 51)), (1, .int x), (2, .int y), (3, .int z)] := hl
  refine lv_iload_n hx hb dX6_campaign_0 rfl (lv_at hl 1 rfl) ?_
  refine lv_bipush (v := 10) hx hb dX6_campaign_1 (by decide) ?_
  refine lv_idiv hx hb dX6_campaign_3 (by decide) ?_
  refine lv_topi (fun x_1 ex_1 => ?_)
  refine lv_istore (lv' := [(4, .int x_1), (0, .ref (rt 51)), (1, .int x), (2, .int y), (3, .int z)]) hx hb dX6_campaign_4 hl (by decide) rfl (fun ls hl => ?_)
  refine lv_iload_n hx hb dX6_campaign_6 rfl (lv_at hl 2 rfl) ?_
  refine lv_if_lt (tgt := 79) hx hb dX6_campaign_7 (by decide) (fun c_2 => ?_) (fun c_2 => ?_)
  · skip
    refine lv_iconst (v := 0) hx hb dX6_campaign_79 (by decide) ?_
    refine lv_istore (lv' := [(5, .int 0), (4, .int x_1), (0, .ref (rt 51)), (1, .int x), (2, .int y), (3, .int z)]) hx hb dX6_campaign_80 hl (by decide) rfl (fun ls hl => ?_)
    refine lv_iload hx hb dX6_campaign_82 (lv_at hl 0 rfl) ?_
    refine lv_if_eq (tgt := 101) hx hb dX6_campaign_84 (by decide) (fun _ => ?_) (fun h9 => absurd (by decide) h9)
    refine lv_iconst (v := (-1)) hx hb dX6_campaign_101 (by decide) ?_
    exact W.iret (v := (-1)) hx hb hr (fun t ht hW => ⟨⟨(-1), f, rfl, (Or.inl ⟨(by subst ex_1; have h1 := k_cp1 x; have h2 := k_cp2 y; simp only [Int32.lt_iff_toInt_lt, Int32.le_iff_toInt_le, ← Int32.toInt_inj, Int32.reduceToInt] at h1 h2 c_2; unfold cpOk; simp only [Int32.lt_iff_toInt_lt, Int32.le_iff_toInt_le, ← Int32.toInt_inj, Int32.reduceToInt]; omega), rfl, rfl⟩), by show va_P (dC, dI) vwCl (va_pl L f) t.heap; rw [ht]; exact hP⟩, hS.F ht⟩) hS.2.2 dX6_campaign_102
  · skip
    refine lv_iload hx hb dX6_campaign_10 (lv_at hl 0 rfl) ?_
    refine lv_iconst (v := 0) hx hb dX6_campaign_12 (by decide) ?_
    refine lv_iconst (v := 2) hx hb dX6_campaign_13 (by decide) ?_
    refine k_S ⟨hx, hb, hml, hown, hts⟩ (c_in l x_1 0 2) 3 wm_69 wm_70 wm_8 wm_71 (by decide +kernel) ⟨Nat.le_of_ble_eq_true rfl, Nat.le_of_ble_eq_true rfl⟩ rfl hl.1 rfl (Nat.le_of_ble_eq_true rfl) dX6_campaign_14 ⟨Nat.le_of_ble_eq_true rfl, Nat.le_of_ble_eq_true rfl⟩ hS hP (fun r_3 H locs hpr_3 hP hS => ?_)
    refine lv_if_eq (tgt := 79) hx hb dX6_campaign_17 (by decide) (fun c_4 => ?_) (fun c_4 => ?_)
    · skip
      have g_4 := k_ff hpr_3 c_4
      refine lv_iconst (v := 0) hx hb dX6_campaign_79 (by decide) ?_
      refine lv_istore (lv' := [(5, .int 0), (4, .int x_1), (0, .ref (rt 51)), (1, .int x), (2, .int y), (3, .int z)]) hx hb dX6_campaign_80 hl (by decide) rfl (fun ls hl => ?_)
      refine lv_iload hx hb dX6_campaign_82 (lv_at hl 0 rfl) ?_
      refine lv_if_eq (tgt := 101) hx hb dX6_campaign_84 (by decide) (fun _ => ?_) (fun h9 => absurd (by decide) h9)
      refine lv_iconst (v := (-1)) hx hb dX6_campaign_101 (by decide) ?_
      exact W.iret (v := (-1)) hx hb hr (fun t ht hW => ⟨⟨(-1), f, rfl, (Or.inl ⟨(by subst ex_1; have h1 := k_cp1 x; have h2 := k_cp2 y; simp only [Int32.lt_iff_toInt_lt, Int32.le_iff_toInt_le, ← Int32.toInt_inj, Int32.reduceToInt] at h1 h2 c_2 g_4; unfold cpOk; simp only [Int32.lt_iff_toInt_lt, Int32.le_iff_toInt_le, ← Int32.toInt_inj, Int32.reduceToInt]; omega), rfl, rfl⟩), by show va_P (dC, dI) vwCl (va_pl L f) t.heap; rw [ht]; exact hP⟩, hS.F ht⟩) hS.2.2 dX6_campaign_102
    · skip
      have g_4 := k_ft hpr_3 c_4
      refine lv_iload_n hx hb dX6_campaign_20 rfl (lv_at hl 2 rfl) ?_
      refine lv_bipush (v := 10) hx hb dX6_campaign_21 (by decide) ?_
      refine lv_irem hx hb dX6_campaign_23 (by decide) ?_
      refine lv_topi (fun x_5 ex_5 => ?_)
      refine lv_iconst (v := 0) hx hb dX6_campaign_24 (by decide) ?_
      refine lv_iload hx hb dX6_campaign_25 (lv_at hl 0 rfl) ?_
      refine lv_if_ne (tgt := 34) hx hb dX6_campaign_27 (by decide) (fun c_6 => ?_) (fun c_6 => ?_)
      · skip
        refine lv_iconst (v := 0) hx hb dX6_campaign_34 (by decide) ?_
        refine k_S ⟨hx, hb, hml, hown, hts⟩ (c_in l x_5 0 0) 3 wm_69 wm_70 wm_8 wm_71 (by decide +kernel) ⟨Nat.le_of_ble_eq_true rfl, Nat.le_of_ble_eq_true rfl⟩ rfl hl.1 rfl (Nat.le_of_ble_eq_true rfl) dX6_campaign_35 ⟨Nat.le_of_ble_eq_true rfl, Nat.le_of_ble_eq_true rfl⟩ hS hP (fun r_7 H locs hpr_7 hP hS => ?_)
        refine lv_if_eq (tgt := 79) hx hb dX6_campaign_38 (by decide) (fun c_8 => ?_) (fun c_8 => ?_)
        · skip
          have g_8 := k_ff hpr_7 c_8
          refine lv_iconst (v := 0) hx hb dX6_campaign_79 (by decide) ?_
          refine lv_istore (lv' := [(5, .int 0), (4, .int x_1), (0, .ref (rt 51)), (1, .int x), (2, .int y), (3, .int z)]) hx hb dX6_campaign_80 hl (by decide) rfl (fun ls hl => ?_)
          refine lv_iload hx hb dX6_campaign_82 (lv_at hl 0 rfl) ?_
          refine lv_if_eq (tgt := 101) hx hb dX6_campaign_84 (by decide) (fun _ => ?_) (fun h9 => absurd (by decide) h9)
          refine lv_iconst (v := (-1)) hx hb dX6_campaign_101 (by decide) ?_
          exact W.iret (v := (-1)) hx hb hr (fun t ht hW => ⟨⟨(-1), f, rfl, (Or.inl ⟨(by subst ex_1 ex_5; have h1 := k_cp1 x; have h2 := k_cp2 y; simp only [Int32.lt_iff_toInt_lt, Int32.le_iff_toInt_le, ← Int32.toInt_inj, Int32.reduceToInt] at h1 h2 c_2 g_4 c_6 g_8; unfold cpOk; simp only [Int32.lt_iff_toInt_lt, Int32.le_iff_toInt_le, ← Int32.toInt_inj, Int32.reduceToInt]; omega), rfl, rfl⟩), by show va_P (dC, dI) vwCl (va_pl L f) t.heap; rw [ht]; exact hP⟩, hS.F ht⟩) hS.2.2 dX6_campaign_102
        · skip
          have g_8 := k_ft hpr_7 c_8
          refine lv_iload_n hx hb dX6_campaign_41 rfl (lv_at hl 3 rfl) ?_
          refine lv_iconst (v := 0) hx hb dX6_campaign_42 (by decide) ?_
          refine lv_ldc (v := 16777215) hx hb hown (hts _ wm_115) dX6_campaign_43 ?_
          refine k_S ⟨hx, hb, hml, hown, hts⟩ (c_in l y 0 16777215) 3 wm_69 wm_70 wm_8 wm_71 (by decide +kernel) ⟨Nat.le_of_ble_eq_true rfl, Nat.le_of_ble_eq_true rfl⟩ rfl hl.1 rfl (Nat.le_of_ble_eq_true rfl) dX6_campaign_45 ⟨Nat.le_of_ble_eq_true rfl, Nat.le_of_ble_eq_true rfl⟩ hS hP (fun r_9 H locs hpr_9 hP hS => ?_)
          refine lv_if_eq (tgt := 79) hx hb dX6_campaign_48 (by decide) (fun c_10 => ?_) (fun c_10 => ?_)
          · skip
            have g_10 := k_ff hpr_9 c_10
            refine lv_iconst (v := 0) hx hb dX6_campaign_79 (by decide) ?_
            refine lv_istore (lv' := [(5, .int 0), (4, .int x_1), (0, .ref (rt 51)), (1, .int x), (2, .int y), (3, .int z)]) hx hb dX6_campaign_80 hl (by decide) rfl (fun ls hl => ?_)
            refine lv_iload hx hb dX6_campaign_82 (lv_at hl 0 rfl) ?_
            refine lv_if_eq (tgt := 101) hx hb dX6_campaign_84 (by decide) (fun _ => ?_) (fun h9 => absurd (by decide) h9)
            refine lv_iconst (v := (-1)) hx hb dX6_campaign_101 (by decide) ?_
            exact W.iret (v := (-1)) hx hb hr (fun t ht hW => ⟨⟨(-1), f, rfl, (Or.inl ⟨(by subst ex_1 ex_5; have h1 := k_cp1 x; have h2 := k_cp2 y; simp only [Int32.lt_iff_toInt_lt, Int32.le_iff_toInt_le, ← Int32.toInt_inj, Int32.reduceToInt] at h1 h2 c_2 g_4 c_6 g_8 g_10; unfold cpOk; simp only [Int32.lt_iff_toInt_lt, Int32.le_iff_toInt_le, ← Int32.toInt_inj, Int32.reduceToInt]; omega), rfl, rfl⟩), by show va_P (dC, dI) vwCl (va_pl L f) t.heap; rw [ht]; exact hP⟩, hS.F ht⟩) hS.2.2 dX6_campaign_102
          · skip
            have g_10 := k_ft hpr_9 c_10
            refine lv_iload hx hb dX6_campaign_51 (lv_at hl 0 rfl) ?_
            refine lv_iconst (v := 2) hx hb dX6_campaign_53 (by decide) ?_
            refine lv_icmp_ne (tgt := 64) hx hb dX6_campaign_54 (by decide) (fun c_11 => ?_) (fun c_11 => ?_)
            · skip
              refine lv_iload_n hx hb dX6_campaign_64 rfl (lv_at hl 4 rfl) ?_
              refine lv_iconst (v := 1) hx hb dX6_campaign_65 (by decide) ?_
              refine lv_sipush (v := 1000) hx hb dX6_campaign_66 (by decide) ?_
              refine k_S ⟨hx, hb, hml, hown, hts⟩ (c_in l z 1 1000) 3 wm_69 wm_70 wm_8 wm_71 (by decide +kernel) ⟨Nat.le_of_ble_eq_true rfl, Nat.le_of_ble_eq_true rfl⟩ rfl hl.1 rfl (Nat.le_of_ble_eq_true rfl) dX6_campaign_69 ⟨Nat.le_of_ble_eq_true rfl, Nat.le_of_ble_eq_true rfl⟩ hS hP (fun r_12 H locs hpr_12 hP hS => ?_)
              refine lv_if_eq (tgt := 79) hx hb dX6_campaign_72 (by decide) (fun c_13 => ?_) (fun c_13 => ?_)
              · skip
                have g_13 := k_ff hpr_12 c_13
                refine lv_iconst (v := 0) hx hb dX6_campaign_79 (by decide) ?_
                refine lv_istore (lv' := [(5, .int 0), (4, .int x_1), (0, .ref (rt 51)), (1, .int x), (2, .int y), (3, .int z)]) hx hb dX6_campaign_80 hl (by decide) rfl (fun ls hl => ?_)
                refine lv_iload hx hb dX6_campaign_82 (lv_at hl 0 rfl) ?_
                refine lv_if_eq (tgt := 101) hx hb dX6_campaign_84 (by decide) (fun _ => ?_) (fun h9 => absurd (by decide) h9)
                refine lv_iconst (v := (-1)) hx hb dX6_campaign_101 (by decide) ?_
                exact W.iret (v := (-1)) hx hb hr (fun t ht hW => ⟨⟨(-1), f, rfl, (Or.inl ⟨(by subst ex_1 ex_5; have h1 := k_cp1 x; have h2 := k_cp2 y; simp only [Int32.lt_iff_toInt_lt, Int32.le_iff_toInt_le, ← Int32.toInt_inj, Int32.reduceToInt] at h1 h2 c_2 g_4 c_6 g_8 g_10 c_11 g_13; unfold cpOk; simp only [Int32.lt_iff_toInt_lt, Int32.le_iff_toInt_le, ← Int32.toInt_inj, Int32.reduceToInt]; omega), rfl, rfl⟩), by show va_P (dC, dI) vwCl (va_pl L f) t.heap; rw [ht]; exact hP⟩, hS.F ht⟩) hS.2.2 dX6_campaign_102
              · skip
                have g_13 := k_ft hpr_12 c_13
                refine lv_iconst (v := 1) hx hb dX6_campaign_75 (by decide) ?_
                refine lv_goto (tgt := 80) hx hb dX6_campaign_76 (by decide) ?_
                refine lv_istore (lv' := [(5, .int 1), (4, .int x_1), (0, .ref (rt 51)), (1, .int x), (2, .int y), (3, .int z)]) hx hb dX6_campaign_80 hl (by decide) rfl (fun ls hl => ?_)
                refine lv_iload hx hb dX6_campaign_82 (lv_at hl 0 rfl) ?_
                refine lv_if_eq (tgt := 101) hx hb dX6_campaign_84 (by decide) (fun h9 => absurd h9 (by decide)) (fun _ => ?_)
                refine lv_iload_n hx hb dX6_campaign_87 rfl (lv_at hl 4 rfl) ?_
                refine lv_sipush (v := 4096) hx hb dX6_campaign_88 (by decide) ?_
                refine lv_idiv hx hb dX6_campaign_91 (by decide) ?_
                refine lv_topi (fun x_14 ex_14 => ?_)
                refine lv_iload_n hx hb dX6_campaign_92 rfl (lv_at hl 4 rfl) ?_
                refine lv_sipush (v := 4096) hx hb dX6_campaign_93 (by decide) ?_
                refine lv_irem hx hb dX6_campaign_96 (by decide) ?_
                refine lv_topi (fun x_15 ex_15 => ?_)
                refine lv_iand hx hb dX6_campaign_97 ?_
                refine lv_topi (fun x_16 ex_16 => ?_)
                refine lv_if_eq (tgt := 103) hx hb dX6_campaign_98 (by decide) (fun c_17 => ?_) (fun c_17 => ?_)
                · skip
                  refine lv_aload_n hx hb dX6_campaign_103 rfl (lv_at hl 2 rfl) ?_
                  refine g_get (ci := 6) (v := .int (nI nc)) (C := RX6) (T := TX6) (N := 51) hx hb hts uB6 hown hK hP (hC.1.1 51 (by decide)) F_m rfl 9 (by decide) wm_76 I_campaigns dX6_campaign_104 ?_
                  refine lv_bipush (v := 40) hx hb dX6_campaign_107 (by decide) ?_
                  refine lv_icmp_ne (tgt := 115) hx hb dX6_campaign_109 (by decide) (fun c_18 => ?_) (fun c_18 => ?_)
                  · skip
                    have hfl : nc < 40 := Nat.lt_of_le_of_ne hnc (fun q => c_18 (by rw [q]; rfl))
                    refine lv_aload_n hx hb dX6_campaign_115 rfl (lv_at hl 2 rfl) ?_
                    refine g_get (ci := 6) (v := .int (nI nc)) (C := RX6) (T := TX6) (N := 51) hx hb hts uB6 hown hK hP (hC.1.1 51 (by decide)) F_m rfl 9 (by decide) wm_76 I_campaigns dX6_campaign_116 ?_
                    refine lv_istore (lv' := [(6, .int (nI nc)), (5, .int 1), (4, .int x_1), (0, .ref (rt 51)), (1, .int x), (2, .int y), (3, .int z)]) hx hb dX6_campaign_119 hl (by decide) rfl (fun ls hl => ?_)
                    refine lv_aload_n hx hb dX6_campaign_121 rfl (lv_at hl 3 rfl) ?_
                    refine g_get (ci := 6) (v := .ref (rt 10)) (C := RX6) (T := TX6) (N := 51) hx hb hts uB6 hown hK hP (hC.1.1 51 (by decide)) F_m rfl 10 (by decide) wm_21 (hC.2.2.2 10 (by decide)) dX6_campaign_122 ?_
                    refine lv_iload hx hb dX6_campaign_125 (lv_at hl 0 rfl) ?_
                    refine lv_iload hx hb dX6_campaign_127 (lv_at hl 2 rfl) ?_
                    refine g_iast hx hb hK hP hD hS (hC.1.1 10 (by decide)) F_sort (vp_in_nI (by omega) (by decide)) dX6_campaign_129 (fun H locs hP hD hS => ?_)
                    obtain ⟨g_19, eg_19⟩ : ∃ z9, z9 = upd g_sort (Int32.toNatClampNeg (nI nc)) x_1 := ⟨_, rfl⟩
                    rw [← eg_19] at hP hD
                    obtain ⟨f_20, ef_20⟩ : ∃ z9, z9 = va_up f (rt 10) (.inl (K 0, 40, .inl g_19)) := ⟨_, rfl⟩
                    have hP : va_P (dC, dI) vwCl (va_pl L f_20) H := by rw [ef_20]; exact hP
                    have hD : va_D A (va_pl L f_20) := by rw [ef_20]; exact hD
                    have F_m_ : f_20 (rt 51) = .inr (6, fm) := by rw [ef_20, va_up_ne _ _ (fun q => absurd (hC.1.2 51 (by decide) 10 (by decide) q) (by decide))]; exact F_m
                    have F_pays_ : f_20 (rt 11) = .inl (K 0, 40, .inl g_pays) := by rw [ef_20, va_up_ne _ _ (fun q => absurd (hC.1.2 11 (by decide) 10 (by decide) q) (by decide))]; exact F_pays
                    have F_must_ : f_20 (rt 12) = .inl (K 0, 40, .inl g_must) := by rw [ef_20, va_up_ne _ _ (fun q => absurd (hC.1.2 12 (by decide) 10 (by decide) q) (by decide))]; exact F_must
                    have F_never_ : f_20 (rt 13) = .inl (K 0, 40, .inl g_never) := by rw [ef_20, va_up_ne _ _ (fun q => absurd (hC.1.2 13 (by decide) 10 (by decide) q) (by decide))]; exact F_never
                    have F_bid_ : f_20 (rt 14) = .inl (K 0, 40, .inl g_bid) := by rw [ef_20, va_up_ne _ _ (fun q => absurd (hC.1.2 14 (by decide) 10 (by decide) q) (by decide))]; exact F_bid
                    have F_cap_ : f_20 (rt 17) = .inl (K 0, 40, .inl g_cap) := by rw [ef_20, va_up_ne _ _ (fun q => absurd (hC.1.2 17 (by decide) 10 (by decide) q) (by decide))]; exact F_cap
                    have F_span_ : f_20 (rt 18) = .inl (K 0, 40, .inl g_span) := by rw [ef_20, va_up_ne _ _ (fun q => absurd (hC.1.2 18 (by decide) 10 (by decide) q) (by decide))]; exact F_span
                    have F_throttle_ : f_20 (rt 19) = .inl (K 0, 40, .inl g_throttle) := by rw [ef_20, va_up_ne _ _ (fun q => absurd (hC.1.2 19 (by decide) 10 (by decide) q) (by decide))]; exact F_throttle
                    have F_promised_ : f_20 (rt 22) = .inl (K 0, 40, .inl g_promised) := by rw [ef_20, va_up_ne _ _ (fun q => absurd (hC.1.2 22 (by decide) 10 (by decide) q) (by decide))]; exact F_promised
                    have F_m := F_m_
                    have F_pays := F_pays_
                    have F_must := F_must_
                    have F_never := F_never_
                    have F_bid := F_bid_
                    have F_cap := F_cap_
                    have F_span := F_span_
                    have F_throttle := F_throttle_
                    have F_promised := F_promised_
                    have F_sort : f_20 (rt 10) = .inl (K 0, 40, .inl g_19) := by rw [ef_20, va_up_self]
                    have hC : mC rt L f_20 fm := ⟨hC.1, F_m, hC.2.2.1, hC.2.2.2⟩
                    refine lv_aload_n hx hb dX6_campaign_130 rfl (lv_at hl 3 rfl) ?_
                    refine g_get (ci := 6) (v := .ref (rt 11)) (C := RX6) (T := TX6) (N := 51) hx hb hts uB6 hown hK hP (hC.1.1 51 (by decide)) F_m rfl 11 (by decide) wm_1 (hC.2.2.2 11 (by decide)) dX6_campaign_131 ?_
                    refine lv_iload hx hb dX6_campaign_134 (lv_at hl 0 rfl) ?_
                    refine lv_iload_n hx hb dX6_campaign_136 rfl (lv_at hl 4 rfl) ?_
                    refine lv_bipush (v := 10) hx hb dX6_campaign_137 (by decide) ?_
                    refine lv_irem hx hb dX6_campaign_139 (by decide) ?_
                    refine lv_topi (fun x_21 ex_21 => ?_)
                    refine g_iast hx hb hK hP hD hS (hC.1.1 11 (by decide)) F_pays (vp_in_nI (by omega) (by decide)) dX6_campaign_140 (fun H locs hP hD hS => ?_)
                    obtain ⟨g_22, eg_22⟩ : ∃ z9, z9 = upd g_pays (Int32.toNatClampNeg (nI nc)) x_21 := ⟨_, rfl⟩
                    rw [← eg_22] at hP hD
                    obtain ⟨f_23, ef_23⟩ : ∃ z9, z9 = va_up f_20 (rt 11) (.inl (K 0, 40, .inl g_22)) := ⟨_, rfl⟩
                    have hP : va_P (dC, dI) vwCl (va_pl L f_23) H := by rw [ef_23]; exact hP
                    have hD : va_D A (va_pl L f_23) := by rw [ef_23]; exact hD
                    have F_m_ : f_23 (rt 51) = .inr (6, fm) := by rw [ef_23, va_up_ne _ _ (fun q => absurd (hC.1.2 51 (by decide) 11 (by decide) q) (by decide))]; exact F_m
                    have F_sort_ : f_23 (rt 10) = .inl (K 0, 40, .inl g_19) := by rw [ef_23, va_up_ne _ _ (fun q => absurd (hC.1.2 10 (by decide) 11 (by decide) q) (by decide))]; exact F_sort
                    have F_must_ : f_23 (rt 12) = .inl (K 0, 40, .inl g_must) := by rw [ef_23, va_up_ne _ _ (fun q => absurd (hC.1.2 12 (by decide) 11 (by decide) q) (by decide))]; exact F_must
                    have F_never_ : f_23 (rt 13) = .inl (K 0, 40, .inl g_never) := by rw [ef_23, va_up_ne _ _ (fun q => absurd (hC.1.2 13 (by decide) 11 (by decide) q) (by decide))]; exact F_never
                    have F_bid_ : f_23 (rt 14) = .inl (K 0, 40, .inl g_bid) := by rw [ef_23, va_up_ne _ _ (fun q => absurd (hC.1.2 14 (by decide) 11 (by decide) q) (by decide))]; exact F_bid
                    have F_cap_ : f_23 (rt 17) = .inl (K 0, 40, .inl g_cap) := by rw [ef_23, va_up_ne _ _ (fun q => absurd (hC.1.2 17 (by decide) 11 (by decide) q) (by decide))]; exact F_cap
                    have F_span_ : f_23 (rt 18) = .inl (K 0, 40, .inl g_span) := by rw [ef_23, va_up_ne _ _ (fun q => absurd (hC.1.2 18 (by decide) 11 (by decide) q) (by decide))]; exact F_span
                    have F_throttle_ : f_23 (rt 19) = .inl (K 0, 40, .inl g_throttle) := by rw [ef_23, va_up_ne _ _ (fun q => absurd (hC.1.2 19 (by decide) 11 (by decide) q) (by decide))]; exact F_throttle
                    have F_promised_ : f_23 (rt 22) = .inl (K 0, 40, .inl g_promised) := by rw [ef_23, va_up_ne _ _ (fun q => absurd (hC.1.2 22 (by decide) 11 (by decide) q) (by decide))]; exact F_promised
                    have F_m := F_m_
                    have F_sort := F_sort_
                    have F_must := F_must_
                    have F_never := F_never_
                    have F_bid := F_bid_
                    have F_cap := F_cap_
                    have F_span := F_span_
                    have F_throttle := F_throttle_
                    have F_promised := F_promised_
                    have F_pays : f_23 (rt 11) = .inl (K 0, 40, .inl g_22) := by rw [ef_23, va_up_self]
                    have hC : mC rt L f_23 fm := ⟨hC.1, F_m, hC.2.2.1, hC.2.2.2⟩
                    refine lv_aload_n hx hb dX6_campaign_141 rfl (lv_at hl 3 rfl) ?_
                    refine g_get (ci := 6) (v := .ref (rt 12)) (C := RX6) (T := TX6) (N := 51) hx hb hts uB6 hown hK hP (hC.1.1 51 (by decide)) F_m rfl 12 (by decide) wm_31 (hC.2.2.2 12 (by decide)) dX6_campaign_142 ?_
                    refine lv_iload hx hb dX6_campaign_145 (lv_at hl 0 rfl) ?_
                    refine lv_iload_n hx hb dX6_campaign_147 rfl (lv_at hl 5 rfl) ?_
                    refine lv_sipush (v := 4096) hx hb dX6_campaign_148 (by decide) ?_
                    refine lv_idiv hx hb dX6_campaign_151 (by decide) ?_
                    refine lv_topi (fun x_24 ex_24 => ?_)
                    refine g_iast hx hb hK hP hD hS (hC.1.1 12 (by decide)) F_must (vp_in_nI (by omega) (by decide)) dX6_campaign_152 (fun H locs hP hD hS => ?_)
                    obtain ⟨g_25, eg_25⟩ : ∃ z9, z9 = upd g_must (Int32.toNatClampNeg (nI nc)) x_24 := ⟨_, rfl⟩
                    rw [← eg_25] at hP hD
                    obtain ⟨f_26, ef_26⟩ : ∃ z9, z9 = va_up f_23 (rt 12) (.inl (K 0, 40, .inl g_25)) := ⟨_, rfl⟩
                    have hP : va_P (dC, dI) vwCl (va_pl L f_26) H := by rw [ef_26]; exact hP
                    have hD : va_D A (va_pl L f_26) := by rw [ef_26]; exact hD
                    have F_m_ : f_26 (rt 51) = .inr (6, fm) := by rw [ef_26, va_up_ne _ _ (fun q => absurd (hC.1.2 51 (by decide) 12 (by decide) q) (by decide))]; exact F_m
                    have F_sort_ : f_26 (rt 10) = .inl (K 0, 40, .inl g_19) := by rw [ef_26, va_up_ne _ _ (fun q => absurd (hC.1.2 10 (by decide) 12 (by decide) q) (by decide))]; exact F_sort
                    have F_pays_ : f_26 (rt 11) = .inl (K 0, 40, .inl g_22) := by rw [ef_26, va_up_ne _ _ (fun q => absurd (hC.1.2 11 (by decide) 12 (by decide) q) (by decide))]; exact F_pays
                    have F_never_ : f_26 (rt 13) = .inl (K 0, 40, .inl g_never) := by rw [ef_26, va_up_ne _ _ (fun q => absurd (hC.1.2 13 (by decide) 12 (by decide) q) (by decide))]; exact F_never
                    have F_bid_ : f_26 (rt 14) = .inl (K 0, 40, .inl g_bid) := by rw [ef_26, va_up_ne _ _ (fun q => absurd (hC.1.2 14 (by decide) 12 (by decide) q) (by decide))]; exact F_bid
                    have F_cap_ : f_26 (rt 17) = .inl (K 0, 40, .inl g_cap) := by rw [ef_26, va_up_ne _ _ (fun q => absurd (hC.1.2 17 (by decide) 12 (by decide) q) (by decide))]; exact F_cap
                    have F_span_ : f_26 (rt 18) = .inl (K 0, 40, .inl g_span) := by rw [ef_26, va_up_ne _ _ (fun q => absurd (hC.1.2 18 (by decide) 12 (by decide) q) (by decide))]; exact F_span
                    have F_throttle_ : f_26 (rt 19) = .inl (K 0, 40, .inl g_throttle) := by rw [ef_26, va_up_ne _ _ (fun q => absurd (hC.1.2 19 (by decide) 12 (by decide) q) (by decide))]; exact F_throttle
                    have F_promised_ : f_26 (rt 22) = .inl (K 0, 40, .inl g_promised) := by rw [ef_26, va_up_ne _ _ (fun q => absurd (hC.1.2 22 (by decide) 12 (by decide) q) (by decide))]; exact F_promised
                    have F_m := F_m_
                    have F_sort := F_sort_
                    have F_pays := F_pays_
                    have F_never := F_never_
                    have F_bid := F_bid_
                    have F_cap := F_cap_
                    have F_span := F_span_
                    have F_throttle := F_throttle_
                    have F_promised := F_promised_
                    have F_must : f_26 (rt 12) = .inl (K 0, 40, .inl g_25) := by rw [ef_26, va_up_self]
                    have hC : mC rt L f_26 fm := ⟨hC.1, F_m, hC.2.2.1, hC.2.2.2⟩
                    refine lv_aload_n hx hb dX6_campaign_153 rfl (lv_at hl 3 rfl) ?_
                    refine g_get (ci := 6) (v := .ref (rt 13)) (C := RX6) (T := TX6) (N := 51) hx hb hts uB6 hown hK hP (hC.1.1 51 (by decide)) F_m rfl 13 (by decide) wm_32 (hC.2.2.2 13 (by decide)) dX6_campaign_154 ?_
                    refine lv_iload hx hb dX6_campaign_157 (lv_at hl 0 rfl) ?_
                    refine lv_iload_n hx hb dX6_campaign_159 rfl (lv_at hl 5 rfl) ?_
                    refine lv_sipush (v := 4096) hx hb dX6_campaign_160 (by decide) ?_
                    refine lv_irem hx hb dX6_campaign_163 (by decide) ?_
                    refine lv_topi (fun x_27 ex_27 => ?_)
                    refine g_iast hx hb hK hP hD hS (hC.1.1 13 (by decide)) F_never (vp_in_nI (by omega) (by decide)) dX6_campaign_164 (fun H locs hP hD hS => ?_)
                    obtain ⟨g_28, eg_28⟩ : ∃ z9, z9 = upd g_never (Int32.toNatClampNeg (nI nc)) x_27 := ⟨_, rfl⟩
                    rw [← eg_28] at hP hD
                    obtain ⟨f_29, ef_29⟩ : ∃ z9, z9 = va_up f_26 (rt 13) (.inl (K 0, 40, .inl g_28)) := ⟨_, rfl⟩
                    have hP : va_P (dC, dI) vwCl (va_pl L f_29) H := by rw [ef_29]; exact hP
                    have hD : va_D A (va_pl L f_29) := by rw [ef_29]; exact hD
                    have F_m_ : f_29 (rt 51) = .inr (6, fm) := by rw [ef_29, va_up_ne _ _ (fun q => absurd (hC.1.2 51 (by decide) 13 (by decide) q) (by decide))]; exact F_m
                    have F_sort_ : f_29 (rt 10) = .inl (K 0, 40, .inl g_19) := by rw [ef_29, va_up_ne _ _ (fun q => absurd (hC.1.2 10 (by decide) 13 (by decide) q) (by decide))]; exact F_sort
                    have F_pays_ : f_29 (rt 11) = .inl (K 0, 40, .inl g_22) := by rw [ef_29, va_up_ne _ _ (fun q => absurd (hC.1.2 11 (by decide) 13 (by decide) q) (by decide))]; exact F_pays
                    have F_must_ : f_29 (rt 12) = .inl (K 0, 40, .inl g_25) := by rw [ef_29, va_up_ne _ _ (fun q => absurd (hC.1.2 12 (by decide) 13 (by decide) q) (by decide))]; exact F_must
                    have F_bid_ : f_29 (rt 14) = .inl (K 0, 40, .inl g_bid) := by rw [ef_29, va_up_ne _ _ (fun q => absurd (hC.1.2 14 (by decide) 13 (by decide) q) (by decide))]; exact F_bid
                    have F_cap_ : f_29 (rt 17) = .inl (K 0, 40, .inl g_cap) := by rw [ef_29, va_up_ne _ _ (fun q => absurd (hC.1.2 17 (by decide) 13 (by decide) q) (by decide))]; exact F_cap
                    have F_span_ : f_29 (rt 18) = .inl (K 0, 40, .inl g_span) := by rw [ef_29, va_up_ne _ _ (fun q => absurd (hC.1.2 18 (by decide) 13 (by decide) q) (by decide))]; exact F_span
                    have F_throttle_ : f_29 (rt 19) = .inl (K 0, 40, .inl g_throttle) := by rw [ef_29, va_up_ne _ _ (fun q => absurd (hC.1.2 19 (by decide) 13 (by decide) q) (by decide))]; exact F_throttle
                    have F_promised_ : f_29 (rt 22) = .inl (K 0, 40, .inl g_promised) := by rw [ef_29, va_up_ne _ _ (fun q => absurd (hC.1.2 22 (by decide) 13 (by decide) q) (by decide))]; exact F_promised
                    have F_m := F_m_
                    have F_sort := F_sort_
                    have F_pays := F_pays_
                    have F_must := F_must_
                    have F_bid := F_bid_
                    have F_cap := F_cap_
                    have F_span := F_span_
                    have F_throttle := F_throttle_
                    have F_promised := F_promised_
                    have F_never : f_29 (rt 13) = .inl (K 0, 40, .inl g_28) := by rw [ef_29, va_up_self]
                    have hC : mC rt L f_29 fm := ⟨hC.1, F_m, hC.2.2.1, hC.2.2.2⟩
                    refine lv_aload_n hx hb dX6_campaign_165 rfl (lv_at hl 3 rfl) ?_
                    refine g_get (ci := 6) (v := .ref (rt 14)) (C := RX6) (T := TX6) (N := 51) hx hb hts uB6 hown hK hP (hC.1.1 51 (by decide)) F_m rfl 14 (by decide) wm_43 (hC.2.2.2 14 (by decide)) dX6_campaign_166 ?_
                    refine lv_iload hx hb dX6_campaign_169 (lv_at hl 0 rfl) ?_
                    refine lv_iload_n hx hb dX6_campaign_171 rfl (lv_at hl 6 rfl) ?_
                    refine g_iast hx hb hK hP hD hS (hC.1.1 14 (by decide)) F_bid (vp_in_nI (by omega) (by decide)) dX6_campaign_172 (fun H locs hP hD hS => ?_)
                    obtain ⟨g_30, eg_30⟩ : ∃ z9, z9 = upd g_bid (Int32.toNatClampNeg (nI nc)) z := ⟨_, rfl⟩
                    rw [← eg_30] at hP hD
                    obtain ⟨f_31, ef_31⟩ : ∃ z9, z9 = va_up f_29 (rt 14) (.inl (K 0, 40, .inl g_30)) := ⟨_, rfl⟩
                    have hP : va_P (dC, dI) vwCl (va_pl L f_31) H := by rw [ef_31]; exact hP
                    have hD : va_D A (va_pl L f_31) := by rw [ef_31]; exact hD
                    have F_m_ : f_31 (rt 51) = .inr (6, fm) := by rw [ef_31, va_up_ne _ _ (fun q => absurd (hC.1.2 51 (by decide) 14 (by decide) q) (by decide))]; exact F_m
                    have F_sort_ : f_31 (rt 10) = .inl (K 0, 40, .inl g_19) := by rw [ef_31, va_up_ne _ _ (fun q => absurd (hC.1.2 10 (by decide) 14 (by decide) q) (by decide))]; exact F_sort
                    have F_pays_ : f_31 (rt 11) = .inl (K 0, 40, .inl g_22) := by rw [ef_31, va_up_ne _ _ (fun q => absurd (hC.1.2 11 (by decide) 14 (by decide) q) (by decide))]; exact F_pays
                    have F_must_ : f_31 (rt 12) = .inl (K 0, 40, .inl g_25) := by rw [ef_31, va_up_ne _ _ (fun q => absurd (hC.1.2 12 (by decide) 14 (by decide) q) (by decide))]; exact F_must
                    have F_never_ : f_31 (rt 13) = .inl (K 0, 40, .inl g_28) := by rw [ef_31, va_up_ne _ _ (fun q => absurd (hC.1.2 13 (by decide) 14 (by decide) q) (by decide))]; exact F_never
                    have F_cap_ : f_31 (rt 17) = .inl (K 0, 40, .inl g_cap) := by rw [ef_31, va_up_ne _ _ (fun q => absurd (hC.1.2 17 (by decide) 14 (by decide) q) (by decide))]; exact F_cap
                    have F_span_ : f_31 (rt 18) = .inl (K 0, 40, .inl g_span) := by rw [ef_31, va_up_ne _ _ (fun q => absurd (hC.1.2 18 (by decide) 14 (by decide) q) (by decide))]; exact F_span
                    have F_throttle_ : f_31 (rt 19) = .inl (K 0, 40, .inl g_throttle) := by rw [ef_31, va_up_ne _ _ (fun q => absurd (hC.1.2 19 (by decide) 14 (by decide) q) (by decide))]; exact F_throttle
                    have F_promised_ : f_31 (rt 22) = .inl (K 0, 40, .inl g_promised) := by rw [ef_31, va_up_ne _ _ (fun q => absurd (hC.1.2 22 (by decide) 14 (by decide) q) (by decide))]; exact F_promised
                    have F_m := F_m_
                    have F_sort := F_sort_
                    have F_pays := F_pays_
                    have F_must := F_must_
                    have F_never := F_never_
                    have F_cap := F_cap_
                    have F_span := F_span_
                    have F_throttle := F_throttle_
                    have F_promised := F_promised_
                    have F_bid : f_31 (rt 14) = .inl (K 0, 40, .inl g_30) := by rw [ef_31, va_up_self]
                    have hC : mC rt L f_31 fm := ⟨hC.1, F_m, hC.2.2.1, hC.2.2.2⟩
                    refine lv_aload_n hx hb dX6_campaign_173 rfl (lv_at hl 3 rfl) ?_
                    refine g_get (ci := 6) (v := .ref (rt 17)) (C := RX6) (T := TX6) (N := 51) hx hb hts uB6 hown hK hP (hC.1.1 51 (by decide)) F_m rfl 17 (by decide) wm_33 (hC.2.2.2 17 (by decide)) dX6_campaign_174 ?_
                    refine lv_iload hx hb dX6_campaign_177 (lv_at hl 0 rfl) ?_
                    refine lv_bipush (v := 9) hx hb dX6_campaign_179 (by decide) ?_
                    refine g_iast hx hb hK hP hD hS (hC.1.1 17 (by decide)) F_cap (vp_in_nI (by omega) (by decide)) dX6_campaign_181 (fun H locs hP hD hS => ?_)
                    obtain ⟨g_32, eg_32⟩ : ∃ z9, z9 = upd g_cap (Int32.toNatClampNeg (nI nc)) 9 := ⟨_, rfl⟩
                    rw [← eg_32] at hP hD
                    obtain ⟨f_33, ef_33⟩ : ∃ z9, z9 = va_up f_31 (rt 17) (.inl (K 0, 40, .inl g_32)) := ⟨_, rfl⟩
                    have hP : va_P (dC, dI) vwCl (va_pl L f_33) H := by rw [ef_33]; exact hP
                    have hD : va_D A (va_pl L f_33) := by rw [ef_33]; exact hD
                    have F_m_ : f_33 (rt 51) = .inr (6, fm) := by rw [ef_33, va_up_ne _ _ (fun q => absurd (hC.1.2 51 (by decide) 17 (by decide) q) (by decide))]; exact F_m
                    have F_sort_ : f_33 (rt 10) = .inl (K 0, 40, .inl g_19) := by rw [ef_33, va_up_ne _ _ (fun q => absurd (hC.1.2 10 (by decide) 17 (by decide) q) (by decide))]; exact F_sort
                    have F_pays_ : f_33 (rt 11) = .inl (K 0, 40, .inl g_22) := by rw [ef_33, va_up_ne _ _ (fun q => absurd (hC.1.2 11 (by decide) 17 (by decide) q) (by decide))]; exact F_pays
                    have F_must_ : f_33 (rt 12) = .inl (K 0, 40, .inl g_25) := by rw [ef_33, va_up_ne _ _ (fun q => absurd (hC.1.2 12 (by decide) 17 (by decide) q) (by decide))]; exact F_must
                    have F_never_ : f_33 (rt 13) = .inl (K 0, 40, .inl g_28) := by rw [ef_33, va_up_ne _ _ (fun q => absurd (hC.1.2 13 (by decide) 17 (by decide) q) (by decide))]; exact F_never
                    have F_bid_ : f_33 (rt 14) = .inl (K 0, 40, .inl g_30) := by rw [ef_33, va_up_ne _ _ (fun q => absurd (hC.1.2 14 (by decide) 17 (by decide) q) (by decide))]; exact F_bid
                    have F_span_ : f_33 (rt 18) = .inl (K 0, 40, .inl g_span) := by rw [ef_33, va_up_ne _ _ (fun q => absurd (hC.1.2 18 (by decide) 17 (by decide) q) (by decide))]; exact F_span
                    have F_throttle_ : f_33 (rt 19) = .inl (K 0, 40, .inl g_throttle) := by rw [ef_33, va_up_ne _ _ (fun q => absurd (hC.1.2 19 (by decide) 17 (by decide) q) (by decide))]; exact F_throttle
                    have F_promised_ : f_33 (rt 22) = .inl (K 0, 40, .inl g_promised) := by rw [ef_33, va_up_ne _ _ (fun q => absurd (hC.1.2 22 (by decide) 17 (by decide) q) (by decide))]; exact F_promised
                    have F_m := F_m_
                    have F_sort := F_sort_
                    have F_pays := F_pays_
                    have F_must := F_must_
                    have F_never := F_never_
                    have F_bid := F_bid_
                    have F_span := F_span_
                    have F_throttle := F_throttle_
                    have F_promised := F_promised_
                    have F_cap : f_33 (rt 17) = .inl (K 0, 40, .inl g_32) := by rw [ef_33, va_up_self]
                    have hC : mC rt L f_33 fm := ⟨hC.1, F_m, hC.2.2.1, hC.2.2.2⟩
                    refine lv_aload_n hx hb dX6_campaign_182 rfl (lv_at hl 3 rfl) ?_
                    refine g_get (ci := 6) (v := .ref (rt 18)) (C := RX6) (T := TX6) (N := 51) hx hb hts uB6 hown hK hP (hC.1.1 51 (by decide)) F_m rfl 18 (by decide) wm_51 (hC.2.2.2 18 (by decide)) dX6_campaign_183 ?_
                    refine lv_iload hx hb dX6_campaign_186 (lv_at hl 0 rfl) ?_
                    refine lv_iconst (v := 1) hx hb dX6_campaign_188 (by decide) ?_
                    refine g_iast hx hb hK hP hD hS (hC.1.1 18 (by decide)) F_span (vp_in_nI (by omega) (by decide)) dX6_campaign_189 (fun H locs hP hD hS => ?_)
                    obtain ⟨g_34, eg_34⟩ : ∃ z9, z9 = upd g_span (Int32.toNatClampNeg (nI nc)) 1 := ⟨_, rfl⟩
                    rw [← eg_34] at hP hD
                    obtain ⟨f_35, ef_35⟩ : ∃ z9, z9 = va_up f_33 (rt 18) (.inl (K 0, 40, .inl g_34)) := ⟨_, rfl⟩
                    have hP : va_P (dC, dI) vwCl (va_pl L f_35) H := by rw [ef_35]; exact hP
                    have hD : va_D A (va_pl L f_35) := by rw [ef_35]; exact hD
                    have F_m_ : f_35 (rt 51) = .inr (6, fm) := by rw [ef_35, va_up_ne _ _ (fun q => absurd (hC.1.2 51 (by decide) 18 (by decide) q) (by decide))]; exact F_m
                    have F_sort_ : f_35 (rt 10) = .inl (K 0, 40, .inl g_19) := by rw [ef_35, va_up_ne _ _ (fun q => absurd (hC.1.2 10 (by decide) 18 (by decide) q) (by decide))]; exact F_sort
                    have F_pays_ : f_35 (rt 11) = .inl (K 0, 40, .inl g_22) := by rw [ef_35, va_up_ne _ _ (fun q => absurd (hC.1.2 11 (by decide) 18 (by decide) q) (by decide))]; exact F_pays
                    have F_must_ : f_35 (rt 12) = .inl (K 0, 40, .inl g_25) := by rw [ef_35, va_up_ne _ _ (fun q => absurd (hC.1.2 12 (by decide) 18 (by decide) q) (by decide))]; exact F_must
                    have F_never_ : f_35 (rt 13) = .inl (K 0, 40, .inl g_28) := by rw [ef_35, va_up_ne _ _ (fun q => absurd (hC.1.2 13 (by decide) 18 (by decide) q) (by decide))]; exact F_never
                    have F_bid_ : f_35 (rt 14) = .inl (K 0, 40, .inl g_30) := by rw [ef_35, va_up_ne _ _ (fun q => absurd (hC.1.2 14 (by decide) 18 (by decide) q) (by decide))]; exact F_bid
                    have F_cap_ : f_35 (rt 17) = .inl (K 0, 40, .inl g_32) := by rw [ef_35, va_up_ne _ _ (fun q => absurd (hC.1.2 17 (by decide) 18 (by decide) q) (by decide))]; exact F_cap
                    have F_throttle_ : f_35 (rt 19) = .inl (K 0, 40, .inl g_throttle) := by rw [ef_35, va_up_ne _ _ (fun q => absurd (hC.1.2 19 (by decide) 18 (by decide) q) (by decide))]; exact F_throttle
                    have F_promised_ : f_35 (rt 22) = .inl (K 0, 40, .inl g_promised) := by rw [ef_35, va_up_ne _ _ (fun q => absurd (hC.1.2 22 (by decide) 18 (by decide) q) (by decide))]; exact F_promised
                    have F_m := F_m_
                    have F_sort := F_sort_
                    have F_pays := F_pays_
                    have F_must := F_must_
                    have F_never := F_never_
                    have F_bid := F_bid_
                    have F_cap := F_cap_
                    have F_throttle := F_throttle_
                    have F_promised := F_promised_
                    have F_span : f_35 (rt 18) = .inl (K 0, 40, .inl g_34) := by rw [ef_35, va_up_self]
                    have hC : mC rt L f_35 fm := ⟨hC.1, F_m, hC.2.2.1, hC.2.2.2⟩
                    refine lv_aload_n hx hb dX6_campaign_190 rfl (lv_at hl 3 rfl) ?_
                    refine g_get (ci := 6) (v := .ref (rt 19)) (C := RX6) (T := TX6) (N := 51) hx hb hts uB6 hown hK hP (hC.1.1 51 (by decide)) F_m rfl 19 (by decide) wm_38 (hC.2.2.2 19 (by decide)) dX6_campaign_191 ?_
                    refine lv_iload hx hb dX6_campaign_194 (lv_at hl 0 rfl) ?_
                    refine lv_sipush (v := 1000) hx hb dX6_campaign_196 (by decide) ?_
                    refine g_iast hx hb hK hP hD hS (hC.1.1 19 (by decide)) F_throttle (vp_in_nI (by omega) (by decide)) dX6_campaign_199 (fun H locs hP hD hS => ?_)
                    obtain ⟨g_36, eg_36⟩ : ∃ z9, z9 = upd g_throttle (Int32.toNatClampNeg (nI nc)) 1000 := ⟨_, rfl⟩
                    rw [← eg_36] at hP hD
                    obtain ⟨f_37, ef_37⟩ : ∃ z9, z9 = va_up f_35 (rt 19) (.inl (K 0, 40, .inl g_36)) := ⟨_, rfl⟩
                    have hP : va_P (dC, dI) vwCl (va_pl L f_37) H := by rw [ef_37]; exact hP
                    have hD : va_D A (va_pl L f_37) := by rw [ef_37]; exact hD
                    have F_m_ : f_37 (rt 51) = .inr (6, fm) := by rw [ef_37, va_up_ne _ _ (fun q => absurd (hC.1.2 51 (by decide) 19 (by decide) q) (by decide))]; exact F_m
                    have F_sort_ : f_37 (rt 10) = .inl (K 0, 40, .inl g_19) := by rw [ef_37, va_up_ne _ _ (fun q => absurd (hC.1.2 10 (by decide) 19 (by decide) q) (by decide))]; exact F_sort
                    have F_pays_ : f_37 (rt 11) = .inl (K 0, 40, .inl g_22) := by rw [ef_37, va_up_ne _ _ (fun q => absurd (hC.1.2 11 (by decide) 19 (by decide) q) (by decide))]; exact F_pays
                    have F_must_ : f_37 (rt 12) = .inl (K 0, 40, .inl g_25) := by rw [ef_37, va_up_ne _ _ (fun q => absurd (hC.1.2 12 (by decide) 19 (by decide) q) (by decide))]; exact F_must
                    have F_never_ : f_37 (rt 13) = .inl (K 0, 40, .inl g_28) := by rw [ef_37, va_up_ne _ _ (fun q => absurd (hC.1.2 13 (by decide) 19 (by decide) q) (by decide))]; exact F_never
                    have F_bid_ : f_37 (rt 14) = .inl (K 0, 40, .inl g_30) := by rw [ef_37, va_up_ne _ _ (fun q => absurd (hC.1.2 14 (by decide) 19 (by decide) q) (by decide))]; exact F_bid
                    have F_cap_ : f_37 (rt 17) = .inl (K 0, 40, .inl g_32) := by rw [ef_37, va_up_ne _ _ (fun q => absurd (hC.1.2 17 (by decide) 19 (by decide) q) (by decide))]; exact F_cap
                    have F_span_ : f_37 (rt 18) = .inl (K 0, 40, .inl g_34) := by rw [ef_37, va_up_ne _ _ (fun q => absurd (hC.1.2 18 (by decide) 19 (by decide) q) (by decide))]; exact F_span
                    have F_promised_ : f_37 (rt 22) = .inl (K 0, 40, .inl g_promised) := by rw [ef_37, va_up_ne _ _ (fun q => absurd (hC.1.2 22 (by decide) 19 (by decide) q) (by decide))]; exact F_promised
                    have F_m := F_m_
                    have F_sort := F_sort_
                    have F_pays := F_pays_
                    have F_must := F_must_
                    have F_never := F_never_
                    have F_bid := F_bid_
                    have F_cap := F_cap_
                    have F_span := F_span_
                    have F_promised := F_promised_
                    have F_throttle : f_37 (rt 19) = .inl (K 0, 40, .inl g_36) := by rw [ef_37, va_up_self]
                    have hC : mC rt L f_37 fm := ⟨hC.1, F_m, hC.2.2.1, hC.2.2.2⟩
                    refine lv_aload_n hx hb dX6_campaign_200 rfl (lv_at hl 3 rfl) ?_
                    refine g_get (ci := 6) (v := .ref (rt 22)) (C := RX6) (T := TX6) (N := 51) hx hb hts uB6 hown hK hP (hC.1.1 51 (by decide)) F_m rfl 22 (by decide) wm_22 (hC.2.2.2 22 (by decide)) dX6_campaign_201 ?_
                    refine lv_iload hx hb dX6_campaign_204 (lv_at hl 0 rfl) ?_
                    refine lv_iconst (v := 0) hx hb dX6_campaign_206 (by decide) ?_
                    refine g_iast hx hb hK hP hD hS (hC.1.1 22 (by decide)) F_promised (vp_in_nI (by omega) (by decide)) dX6_campaign_207 (fun H locs hP hD hS => ?_)
                    obtain ⟨g_38, eg_38⟩ : ∃ z9, z9 = upd g_promised (Int32.toNatClampNeg (nI nc)) 0 := ⟨_, rfl⟩
                    rw [← eg_38] at hP hD
                    obtain ⟨f_39, ef_39⟩ : ∃ z9, z9 = va_up f_37 (rt 22) (.inl (K 0, 40, .inl g_38)) := ⟨_, rfl⟩
                    have hP : va_P (dC, dI) vwCl (va_pl L f_39) H := by rw [ef_39]; exact hP
                    have hD : va_D A (va_pl L f_39) := by rw [ef_39]; exact hD
                    have F_m_ : f_39 (rt 51) = .inr (6, fm) := by rw [ef_39, va_up_ne _ _ (fun q => absurd (hC.1.2 51 (by decide) 22 (by decide) q) (by decide))]; exact F_m
                    have F_sort_ : f_39 (rt 10) = .inl (K 0, 40, .inl g_19) := by rw [ef_39, va_up_ne _ _ (fun q => absurd (hC.1.2 10 (by decide) 22 (by decide) q) (by decide))]; exact F_sort
                    have F_pays_ : f_39 (rt 11) = .inl (K 0, 40, .inl g_22) := by rw [ef_39, va_up_ne _ _ (fun q => absurd (hC.1.2 11 (by decide) 22 (by decide) q) (by decide))]; exact F_pays
                    have F_must_ : f_39 (rt 12) = .inl (K 0, 40, .inl g_25) := by rw [ef_39, va_up_ne _ _ (fun q => absurd (hC.1.2 12 (by decide) 22 (by decide) q) (by decide))]; exact F_must
                    have F_never_ : f_39 (rt 13) = .inl (K 0, 40, .inl g_28) := by rw [ef_39, va_up_ne _ _ (fun q => absurd (hC.1.2 13 (by decide) 22 (by decide) q) (by decide))]; exact F_never
                    have F_bid_ : f_39 (rt 14) = .inl (K 0, 40, .inl g_30) := by rw [ef_39, va_up_ne _ _ (fun q => absurd (hC.1.2 14 (by decide) 22 (by decide) q) (by decide))]; exact F_bid
                    have F_cap_ : f_39 (rt 17) = .inl (K 0, 40, .inl g_32) := by rw [ef_39, va_up_ne _ _ (fun q => absurd (hC.1.2 17 (by decide) 22 (by decide) q) (by decide))]; exact F_cap
                    have F_span_ : f_39 (rt 18) = .inl (K 0, 40, .inl g_34) := by rw [ef_39, va_up_ne _ _ (fun q => absurd (hC.1.2 18 (by decide) 22 (by decide) q) (by decide))]; exact F_span
                    have F_throttle_ : f_39 (rt 19) = .inl (K 0, 40, .inl g_36) := by rw [ef_39, va_up_ne _ _ (fun q => absurd (hC.1.2 19 (by decide) 22 (by decide) q) (by decide))]; exact F_throttle
                    have F_m := F_m_
                    have F_sort := F_sort_
                    have F_pays := F_pays_
                    have F_must := F_must_
                    have F_never := F_never_
                    have F_bid := F_bid_
                    have F_cap := F_cap_
                    have F_span := F_span_
                    have F_throttle := F_throttle_
                    have F_promised : f_39 (rt 22) = .inl (K 0, 40, .inl g_38) := by rw [ef_39, va_up_self]
                    have hC : mC rt L f_39 fm := ⟨hC.1, F_m, hC.2.2.1, hC.2.2.2⟩
                    refine lv_aload_n hx hb dX6_campaign_208 rfl (lv_at hl 3 rfl) ?_
                    refine lv_dup hx hb dX6_campaign_209 rfl ?_
                    refine g_get (ci := 6) (v := .int (nI nc)) (C := RX6) (T := TX6) (N := 51) hx hb hts uB6 hown hK hP (hC.1.1 51 (by decide)) F_m rfl 9 (by decide) wm_76 I_campaigns dX6_campaign_210 ?_
                    refine lv_iconst (v := 1) hx hb dX6_campaign_213 (by decide) ?_
                    refine lv_iadd hx hb dX6_campaign_214 ?_
                    refine lv_topi (fun x_40 ex_40 => ?_)
                    obtain rfl : x_40 = nI (nc + 1) := ex_40.trans (nI_1 nc)
                    refine g_put (ci := 6) (v := .int (nI (nc + 1))) (ty := .int) (C := RX6) (T := TX6) (N := 51) hx hb hts uB6 tyX6 tyX6_ok nmX6 hown hK hP hD hS (hC.1.1 51 (by decide)) F_m rfl 9 (by decide) wm_76 rfl (by decide +kernel) rfl rfl (by rw [hC.2.2.1]; decide) dX6_campaign_215 (fun H locs hP hD hS => ?_)
                    obtain ⟨fs_41, efs_41⟩ : ∃ z9, z9 = List.set fm 9 (.int (nI (nc + 1))) := ⟨_, rfl⟩
                    rw [← efs_41] at hP hD
                    have hlen_ : fs_41.length = 51 := by rw [efs_41, List.length_set]; exact hC.2.2.1
                    have I_campaigns : fs_41[9]? = some (.int (nI (nc + 1))) := by rw [efs_41]; exact List.getElem?_set_self (by rw [hC.2.2.1]; decide)
                    have hmr_ : ∀ k ∈ mArr, fs_41[k]? = some (.ref (rt k)) := fun k h => by rw [efs_41, List.getElem?_set_ne (fun q => by rw [← q] at h; exact absurd h (by decide))]; exact hC.2.2.2 k h
                    obtain ⟨f_42, ef_42⟩ : ∃ z9, z9 = va_up f_39 (rt 51) (.inr (6, fs_41)) := ⟨_, rfl⟩
                    have hP : va_P (dC, dI) vwCl (va_pl L f_42) H := by rw [ef_42]; exact hP
                    have hD : va_D A (va_pl L f_42) := by rw [ef_42]; exact hD
                    have F_sort_ : f_42 (rt 10) = .inl (K 0, 40, .inl g_19) := by rw [ef_42, va_up_ne _ _ (fun q => absurd (hC.1.2 10 (by decide) 51 (by decide) q) (by decide))]; exact F_sort
                    have F_pays_ : f_42 (rt 11) = .inl (K 0, 40, .inl g_22) := by rw [ef_42, va_up_ne _ _ (fun q => absurd (hC.1.2 11 (by decide) 51 (by decide) q) (by decide))]; exact F_pays
                    have F_must_ : f_42 (rt 12) = .inl (K 0, 40, .inl g_25) := by rw [ef_42, va_up_ne _ _ (fun q => absurd (hC.1.2 12 (by decide) 51 (by decide) q) (by decide))]; exact F_must
                    have F_never_ : f_42 (rt 13) = .inl (K 0, 40, .inl g_28) := by rw [ef_42, va_up_ne _ _ (fun q => absurd (hC.1.2 13 (by decide) 51 (by decide) q) (by decide))]; exact F_never
                    have F_bid_ : f_42 (rt 14) = .inl (K 0, 40, .inl g_30) := by rw [ef_42, va_up_ne _ _ (fun q => absurd (hC.1.2 14 (by decide) 51 (by decide) q) (by decide))]; exact F_bid
                    have F_cap_ : f_42 (rt 17) = .inl (K 0, 40, .inl g_32) := by rw [ef_42, va_up_ne _ _ (fun q => absurd (hC.1.2 17 (by decide) 51 (by decide) q) (by decide))]; exact F_cap
                    have F_span_ : f_42 (rt 18) = .inl (K 0, 40, .inl g_34) := by rw [ef_42, va_up_ne _ _ (fun q => absurd (hC.1.2 18 (by decide) 51 (by decide) q) (by decide))]; exact F_span
                    have F_throttle_ : f_42 (rt 19) = .inl (K 0, 40, .inl g_36) := by rw [ef_42, va_up_ne _ _ (fun q => absurd (hC.1.2 19 (by decide) 51 (by decide) q) (by decide))]; exact F_throttle
                    have F_promised_ : f_42 (rt 22) = .inl (K 0, 40, .inl g_38) := by rw [ef_42, va_up_ne _ _ (fun q => absurd (hC.1.2 22 (by decide) 51 (by decide) q) (by decide))]; exact F_promised
                    have F_sort := F_sort_
                    have F_pays := F_pays_
                    have F_must := F_must_
                    have F_never := F_never_
                    have F_bid := F_bid_
                    have F_cap := F_cap_
                    have F_span := F_span_
                    have F_throttle := F_throttle_
                    have F_promised := F_promised_
                    have F_m : f_42 (rt 51) = .inr (6, fs_41) := by rw [ef_42, va_up_self]
                    have hC : mC rt L f_42 fs_41 := ⟨hC.1, F_m, hlen_, hmr_⟩
                    refine lv_iload hx hb dX6_campaign_218 (lv_at hl 0 rfl) ?_
                    exact W.iret (v := nI nc) hx hb hr (fun t ht hW => ⟨⟨nI nc, f_42, rfl, (Or.inr (Or.inr ⟨(by subst ex_1 ex_5 ex_14 ex_15 ex_16 ex_21 ex_24 ex_27; have h1 := k_cp1 x; have h2 := k_cp2 y; simp only [Int32.lt_iff_toInt_lt, Int32.le_iff_toInt_le, ← Int32.toInt_inj, Int32.reduceToInt] at h1 h2 c_2 g_4 c_6 g_8 g_10 c_11 g_13 c_17; unfold cpOk; simp only [Int32.lt_iff_toInt_lt, Int32.le_iff_toInt_le, ← Int32.toInt_inj, Int32.reduceToInt]; omega), hfl, rfl, by rw [ef_42, efs_41, ef_39, eg_38, ef_37, eg_36, ef_35, eg_34, ef_33, eg_32, ef_31, eg_30, ef_29, eg_28, ef_26, eg_25, ef_23, eg_22, ef_20, eg_19]; subst ex_27 ex_24 ex_21 ex_16 ex_15 ex_14 ex_5 ex_1; rfl⟩)), by show va_P (dC, dI) vwCl (va_pl L f_42) t.heap; rw [ht]; exact hP⟩, hS.F ht⟩) hS.2.2 dX6_campaign_220
                  · skip
                    have hfl : nc = 40 := (nI_eq (by omega) (by decide)).mp c_18
                    refine lv_bipush (v := (-3)) hx hb dX6_campaign_112 (by decide) ?_
                    exact W.iret (v := (-3)) hx hb hr (fun t ht hW => ⟨⟨(-3), f, rfl, (Or.inr (Or.inl ⟨(by subst ex_1 ex_5 ex_14 ex_15 ex_16; have h1 := k_cp1 x; have h2 := k_cp2 y; simp only [Int32.lt_iff_toInt_lt, Int32.le_iff_toInt_le, ← Int32.toInt_inj, Int32.reduceToInt] at h1 h2 c_2 g_4 c_6 g_8 g_10 c_11 g_13 c_17; unfold cpOk; simp only [Int32.lt_iff_toInt_lt, Int32.le_iff_toInt_le, ← Int32.toInt_inj, Int32.reduceToInt]; omega), hfl, rfl, rfl⟩)), by show va_P (dC, dI) vwCl (va_pl L f) t.heap; rw [ht]; exact hP⟩, hS.F ht⟩) hS.2.2 dX6_campaign_114
                · skip
                  refine lv_iconst (v := (-1)) hx hb dX6_campaign_101 (by decide) ?_
                  exact W.iret (v := (-1)) hx hb hr (fun t ht hW => ⟨⟨(-1), f, rfl, (Or.inl ⟨(by subst ex_1 ex_5 ex_14 ex_15 ex_16; have h1 := k_cp1 x; have h2 := k_cp2 y; simp only [Int32.lt_iff_toInt_lt, Int32.le_iff_toInt_le, ← Int32.toInt_inj, Int32.reduceToInt] at h1 h2 c_2 g_4 c_6 g_8 g_10 c_11 g_13 c_17; unfold cpOk; simp only [Int32.lt_iff_toInt_lt, Int32.le_iff_toInt_le, ← Int32.toInt_inj, Int32.reduceToInt]; omega), rfl, rfl⟩), by show va_P (dC, dI) vwCl (va_pl L f) t.heap; rw [ht]; exact hP⟩, hS.F ht⟩) hS.2.2 dX6_campaign_102
            · skip
              refine lv_iload_n hx hb dX6_campaign_57 rfl (lv_at hl 4 rfl) ?_
              refine lv_if_ne (tgt := 79) hx hb dX6_campaign_58 (by decide) (fun c_43 => ?_) (fun c_43 => ?_)
              · skip
                refine lv_iconst (v := 0) hx hb dX6_campaign_79 (by decide) ?_
                refine lv_istore (lv' := [(5, .int 0), (4, .int x_1), (0, .ref (rt 51)), (1, .int x), (2, .int y), (3, .int z)]) hx hb dX6_campaign_80 hl (by decide) rfl (fun ls hl => ?_)
                refine lv_iload hx hb dX6_campaign_82 (lv_at hl 0 rfl) ?_
                refine lv_if_eq (tgt := 101) hx hb dX6_campaign_84 (by decide) (fun _ => ?_) (fun h9 => absurd (by decide) h9)
                refine lv_iconst (v := (-1)) hx hb dX6_campaign_101 (by decide) ?_
                exact W.iret (v := (-1)) hx hb hr (fun t ht hW => ⟨⟨(-1), f, rfl, (Or.inl ⟨(by subst ex_1 ex_5; have h1 := k_cp1 x; have h2 := k_cp2 y; simp only [Int32.lt_iff_toInt_lt, Int32.le_iff_toInt_le, ← Int32.toInt_inj, Int32.reduceToInt] at h1 h2 c_2 g_4 c_6 g_8 g_10 c_11 c_43; unfold cpOk; simp only [Int32.lt_iff_toInt_lt, Int32.le_iff_toInt_le, ← Int32.toInt_inj, Int32.reduceToInt]; omega), rfl, rfl⟩), by show va_P (dC, dI) vwCl (va_pl L f) t.heap; rw [ht]; exact hP⟩, hS.F ht⟩) hS.2.2 dX6_campaign_102
              · skip
                refine lv_goto (tgt := 75) hx hb dX6_campaign_61 (by decide) ?_
                refine lv_iconst (v := 1) hx hb dX6_campaign_75 (by decide) ?_
                refine lv_goto (tgt := 80) hx hb dX6_campaign_76 (by decide) ?_
                refine lv_istore (lv' := [(5, .int 1), (4, .int x_1), (0, .ref (rt 51)), (1, .int x), (2, .int y), (3, .int z)]) hx hb dX6_campaign_80 hl (by decide) rfl (fun ls hl => ?_)
                refine lv_iload hx hb dX6_campaign_82 (lv_at hl 0 rfl) ?_
                refine lv_if_eq (tgt := 101) hx hb dX6_campaign_84 (by decide) (fun h9 => absurd h9 (by decide)) (fun _ => ?_)
                refine lv_iload_n hx hb dX6_campaign_87 rfl (lv_at hl 4 rfl) ?_
                refine lv_sipush (v := 4096) hx hb dX6_campaign_88 (by decide) ?_
                refine lv_idiv hx hb dX6_campaign_91 (by decide) ?_
                refine lv_topi (fun x_44 ex_44 => ?_)
                refine lv_iload_n hx hb dX6_campaign_92 rfl (lv_at hl 4 rfl) ?_
                refine lv_sipush (v := 4096) hx hb dX6_campaign_93 (by decide) ?_
                refine lv_irem hx hb dX6_campaign_96 (by decide) ?_
                refine lv_topi (fun x_45 ex_45 => ?_)
                refine lv_iand hx hb dX6_campaign_97 ?_
                refine lv_topi (fun x_46 ex_46 => ?_)
                refine lv_if_eq (tgt := 103) hx hb dX6_campaign_98 (by decide) (fun c_47 => ?_) (fun c_47 => ?_)
                · skip
                  refine lv_aload_n hx hb dX6_campaign_103 rfl (lv_at hl 2 rfl) ?_
                  refine g_get (ci := 6) (v := .int (nI nc)) (C := RX6) (T := TX6) (N := 51) hx hb hts uB6 hown hK hP (hC.1.1 51 (by decide)) F_m rfl 9 (by decide) wm_76 I_campaigns dX6_campaign_104 ?_
                  refine lv_bipush (v := 40) hx hb dX6_campaign_107 (by decide) ?_
                  refine lv_icmp_ne (tgt := 115) hx hb dX6_campaign_109 (by decide) (fun c_48 => ?_) (fun c_48 => ?_)
                  · skip
                    have hfl : nc < 40 := Nat.lt_of_le_of_ne hnc (fun q => c_48 (by rw [q]; rfl))
                    refine lv_aload_n hx hb dX6_campaign_115 rfl (lv_at hl 2 rfl) ?_
                    refine g_get (ci := 6) (v := .int (nI nc)) (C := RX6) (T := TX6) (N := 51) hx hb hts uB6 hown hK hP (hC.1.1 51 (by decide)) F_m rfl 9 (by decide) wm_76 I_campaigns dX6_campaign_116 ?_
                    refine lv_istore (lv' := [(6, .int (nI nc)), (5, .int 1), (4, .int x_1), (0, .ref (rt 51)), (1, .int x), (2, .int y), (3, .int z)]) hx hb dX6_campaign_119 hl (by decide) rfl (fun ls hl => ?_)
                    refine lv_aload_n hx hb dX6_campaign_121 rfl (lv_at hl 3 rfl) ?_
                    refine g_get (ci := 6) (v := .ref (rt 10)) (C := RX6) (T := TX6) (N := 51) hx hb hts uB6 hown hK hP (hC.1.1 51 (by decide)) F_m rfl 10 (by decide) wm_21 (hC.2.2.2 10 (by decide)) dX6_campaign_122 ?_
                    refine lv_iload hx hb dX6_campaign_125 (lv_at hl 0 rfl) ?_
                    refine lv_iload hx hb dX6_campaign_127 (lv_at hl 2 rfl) ?_
                    refine g_iast hx hb hK hP hD hS (hC.1.1 10 (by decide)) F_sort (vp_in_nI (by omega) (by decide)) dX6_campaign_129 (fun H locs hP hD hS => ?_)
                    obtain ⟨g_49, eg_49⟩ : ∃ z9, z9 = upd g_sort (Int32.toNatClampNeg (nI nc)) x_1 := ⟨_, rfl⟩
                    rw [← eg_49] at hP hD
                    obtain ⟨f_50, ef_50⟩ : ∃ z9, z9 = va_up f (rt 10) (.inl (K 0, 40, .inl g_49)) := ⟨_, rfl⟩
                    have hP : va_P (dC, dI) vwCl (va_pl L f_50) H := by rw [ef_50]; exact hP
                    have hD : va_D A (va_pl L f_50) := by rw [ef_50]; exact hD
                    have F_m_ : f_50 (rt 51) = .inr (6, fm) := by rw [ef_50, va_up_ne _ _ (fun q => absurd (hC.1.2 51 (by decide) 10 (by decide) q) (by decide))]; exact F_m
                    have F_pays_ : f_50 (rt 11) = .inl (K 0, 40, .inl g_pays) := by rw [ef_50, va_up_ne _ _ (fun q => absurd (hC.1.2 11 (by decide) 10 (by decide) q) (by decide))]; exact F_pays
                    have F_must_ : f_50 (rt 12) = .inl (K 0, 40, .inl g_must) := by rw [ef_50, va_up_ne _ _ (fun q => absurd (hC.1.2 12 (by decide) 10 (by decide) q) (by decide))]; exact F_must
                    have F_never_ : f_50 (rt 13) = .inl (K 0, 40, .inl g_never) := by rw [ef_50, va_up_ne _ _ (fun q => absurd (hC.1.2 13 (by decide) 10 (by decide) q) (by decide))]; exact F_never
                    have F_bid_ : f_50 (rt 14) = .inl (K 0, 40, .inl g_bid) := by rw [ef_50, va_up_ne _ _ (fun q => absurd (hC.1.2 14 (by decide) 10 (by decide) q) (by decide))]; exact F_bid
                    have F_cap_ : f_50 (rt 17) = .inl (K 0, 40, .inl g_cap) := by rw [ef_50, va_up_ne _ _ (fun q => absurd (hC.1.2 17 (by decide) 10 (by decide) q) (by decide))]; exact F_cap
                    have F_span_ : f_50 (rt 18) = .inl (K 0, 40, .inl g_span) := by rw [ef_50, va_up_ne _ _ (fun q => absurd (hC.1.2 18 (by decide) 10 (by decide) q) (by decide))]; exact F_span
                    have F_throttle_ : f_50 (rt 19) = .inl (K 0, 40, .inl g_throttle) := by rw [ef_50, va_up_ne _ _ (fun q => absurd (hC.1.2 19 (by decide) 10 (by decide) q) (by decide))]; exact F_throttle
                    have F_promised_ : f_50 (rt 22) = .inl (K 0, 40, .inl g_promised) := by rw [ef_50, va_up_ne _ _ (fun q => absurd (hC.1.2 22 (by decide) 10 (by decide) q) (by decide))]; exact F_promised
                    have F_m := F_m_
                    have F_pays := F_pays_
                    have F_must := F_must_
                    have F_never := F_never_
                    have F_bid := F_bid_
                    have F_cap := F_cap_
                    have F_span := F_span_
                    have F_throttle := F_throttle_
                    have F_promised := F_promised_
                    have F_sort : f_50 (rt 10) = .inl (K 0, 40, .inl g_49) := by rw [ef_50, va_up_self]
                    have hC : mC rt L f_50 fm := ⟨hC.1, F_m, hC.2.2.1, hC.2.2.2⟩
                    refine lv_aload_n hx hb dX6_campaign_130 rfl (lv_at hl 3 rfl) ?_
                    refine g_get (ci := 6) (v := .ref (rt 11)) (C := RX6) (T := TX6) (N := 51) hx hb hts uB6 hown hK hP (hC.1.1 51 (by decide)) F_m rfl 11 (by decide) wm_1 (hC.2.2.2 11 (by decide)) dX6_campaign_131 ?_
                    refine lv_iload hx hb dX6_campaign_134 (lv_at hl 0 rfl) ?_
                    refine lv_iload_n hx hb dX6_campaign_136 rfl (lv_at hl 4 rfl) ?_
                    refine lv_bipush (v := 10) hx hb dX6_campaign_137 (by decide) ?_
                    refine lv_irem hx hb dX6_campaign_139 (by decide) ?_
                    refine lv_topi (fun x_51 ex_51 => ?_)
                    refine g_iast hx hb hK hP hD hS (hC.1.1 11 (by decide)) F_pays (vp_in_nI (by omega) (by decide)) dX6_campaign_140 (fun H locs hP hD hS => ?_)
                    obtain ⟨g_52, eg_52⟩ : ∃ z9, z9 = upd g_pays (Int32.toNatClampNeg (nI nc)) x_51 := ⟨_, rfl⟩
                    rw [← eg_52] at hP hD
                    obtain ⟨f_53, ef_53⟩ : ∃ z9, z9 = va_up f_50 (rt 11) (.inl (K 0, 40, .inl g_52)) := ⟨_, rfl⟩
                    have hP : va_P (dC, dI) vwCl (va_pl L f_53) H := by rw [ef_53]; exact hP
                    have hD : va_D A (va_pl L f_53) := by rw [ef_53]; exact hD
                    have F_m_ : f_53 (rt 51) = .inr (6, fm) := by rw [ef_53, va_up_ne _ _ (fun q => absurd (hC.1.2 51 (by decide) 11 (by decide) q) (by decide))]; exact F_m
                    have F_sort_ : f_53 (rt 10) = .inl (K 0, 40, .inl g_49) := by rw [ef_53, va_up_ne _ _ (fun q => absurd (hC.1.2 10 (by decide) 11 (by decide) q) (by decide))]; exact F_sort
                    have F_must_ : f_53 (rt 12) = .inl (K 0, 40, .inl g_must) := by rw [ef_53, va_up_ne _ _ (fun q => absurd (hC.1.2 12 (by decide) 11 (by decide) q) (by decide))]; exact F_must
                    have F_never_ : f_53 (rt 13) = .inl (K 0, 40, .inl g_never) := by rw [ef_53, va_up_ne _ _ (fun q => absurd (hC.1.2 13 (by decide) 11 (by decide) q) (by decide))]; exact F_never
                    have F_bid_ : f_53 (rt 14) = .inl (K 0, 40, .inl g_bid) := by rw [ef_53, va_up_ne _ _ (fun q => absurd (hC.1.2 14 (by decide) 11 (by decide) q) (by decide))]; exact F_bid
                    have F_cap_ : f_53 (rt 17) = .inl (K 0, 40, .inl g_cap) := by rw [ef_53, va_up_ne _ _ (fun q => absurd (hC.1.2 17 (by decide) 11 (by decide) q) (by decide))]; exact F_cap
                    have F_span_ : f_53 (rt 18) = .inl (K 0, 40, .inl g_span) := by rw [ef_53, va_up_ne _ _ (fun q => absurd (hC.1.2 18 (by decide) 11 (by decide) q) (by decide))]; exact F_span
                    have F_throttle_ : f_53 (rt 19) = .inl (K 0, 40, .inl g_throttle) := by rw [ef_53, va_up_ne _ _ (fun q => absurd (hC.1.2 19 (by decide) 11 (by decide) q) (by decide))]; exact F_throttle
                    have F_promised_ : f_53 (rt 22) = .inl (K 0, 40, .inl g_promised) := by rw [ef_53, va_up_ne _ _ (fun q => absurd (hC.1.2 22 (by decide) 11 (by decide) q) (by decide))]; exact F_promised
                    have F_m := F_m_
                    have F_sort := F_sort_
                    have F_must := F_must_
                    have F_never := F_never_
                    have F_bid := F_bid_
                    have F_cap := F_cap_
                    have F_span := F_span_
                    have F_throttle := F_throttle_
                    have F_promised := F_promised_
                    have F_pays : f_53 (rt 11) = .inl (K 0, 40, .inl g_52) := by rw [ef_53, va_up_self]
                    have hC : mC rt L f_53 fm := ⟨hC.1, F_m, hC.2.2.1, hC.2.2.2⟩
                    refine lv_aload_n hx hb dX6_campaign_141 rfl (lv_at hl 3 rfl) ?_
                    refine g_get (ci := 6) (v := .ref (rt 12)) (C := RX6) (T := TX6) (N := 51) hx hb hts uB6 hown hK hP (hC.1.1 51 (by decide)) F_m rfl 12 (by decide) wm_31 (hC.2.2.2 12 (by decide)) dX6_campaign_142 ?_
                    refine lv_iload hx hb dX6_campaign_145 (lv_at hl 0 rfl) ?_
                    refine lv_iload_n hx hb dX6_campaign_147 rfl (lv_at hl 5 rfl) ?_
                    refine lv_sipush (v := 4096) hx hb dX6_campaign_148 (by decide) ?_
                    refine lv_idiv hx hb dX6_campaign_151 (by decide) ?_
                    refine lv_topi (fun x_54 ex_54 => ?_)
                    refine g_iast hx hb hK hP hD hS (hC.1.1 12 (by decide)) F_must (vp_in_nI (by omega) (by decide)) dX6_campaign_152 (fun H locs hP hD hS => ?_)
                    obtain ⟨g_55, eg_55⟩ : ∃ z9, z9 = upd g_must (Int32.toNatClampNeg (nI nc)) x_54 := ⟨_, rfl⟩
                    rw [← eg_55] at hP hD
                    obtain ⟨f_56, ef_56⟩ : ∃ z9, z9 = va_up f_53 (rt 12) (.inl (K 0, 40, .inl g_55)) := ⟨_, rfl⟩
                    have hP : va_P (dC, dI) vwCl (va_pl L f_56) H := by rw [ef_56]; exact hP
                    have hD : va_D A (va_pl L f_56) := by rw [ef_56]; exact hD
                    have F_m_ : f_56 (rt 51) = .inr (6, fm) := by rw [ef_56, va_up_ne _ _ (fun q => absurd (hC.1.2 51 (by decide) 12 (by decide) q) (by decide))]; exact F_m
                    have F_sort_ : f_56 (rt 10) = .inl (K 0, 40, .inl g_49) := by rw [ef_56, va_up_ne _ _ (fun q => absurd (hC.1.2 10 (by decide) 12 (by decide) q) (by decide))]; exact F_sort
                    have F_pays_ : f_56 (rt 11) = .inl (K 0, 40, .inl g_52) := by rw [ef_56, va_up_ne _ _ (fun q => absurd (hC.1.2 11 (by decide) 12 (by decide) q) (by decide))]; exact F_pays
                    have F_never_ : f_56 (rt 13) = .inl (K 0, 40, .inl g_never) := by rw [ef_56, va_up_ne _ _ (fun q => absurd (hC.1.2 13 (by decide) 12 (by decide) q) (by decide))]; exact F_never
                    have F_bid_ : f_56 (rt 14) = .inl (K 0, 40, .inl g_bid) := by rw [ef_56, va_up_ne _ _ (fun q => absurd (hC.1.2 14 (by decide) 12 (by decide) q) (by decide))]; exact F_bid
                    have F_cap_ : f_56 (rt 17) = .inl (K 0, 40, .inl g_cap) := by rw [ef_56, va_up_ne _ _ (fun q => absurd (hC.1.2 17 (by decide) 12 (by decide) q) (by decide))]; exact F_cap
                    have F_span_ : f_56 (rt 18) = .inl (K 0, 40, .inl g_span) := by rw [ef_56, va_up_ne _ _ (fun q => absurd (hC.1.2 18 (by decide) 12 (by decide) q) (by decide))]; exact F_span
                    have F_throttle_ : f_56 (rt 19) = .inl (K 0, 40, .inl g_throttle) := by rw [ef_56, va_up_ne _ _ (fun q => absurd (hC.1.2 19 (by decide) 12 (by decide) q) (by decide))]; exact F_throttle
                    have F_promised_ : f_56 (rt 22) = .inl (K 0, 40, .inl g_promised) := by rw [ef_56, va_up_ne _ _ (fun q => absurd (hC.1.2 22 (by decide) 12 (by decide) q) (by decide))]; exact F_promised
                    have F_m := F_m_
                    have F_sort := F_sort_
                    have F_pays := F_pays_
                    have F_never := F_never_
                    have F_bid := F_bid_
                    have F_cap := F_cap_
                    have F_span := F_span_
                    have F_throttle := F_throttle_
                    have F_promised := F_promised_
                    have F_must : f_56 (rt 12) = .inl (K 0, 40, .inl g_55) := by rw [ef_56, va_up_self]
                    have hC : mC rt L f_56 fm := ⟨hC.1, F_m, hC.2.2.1, hC.2.2.2⟩
                    refine lv_aload_n hx hb dX6_campaign_153 rfl (lv_at hl 3 rfl) ?_
                    refine g_get (ci := 6) (v := .ref (rt 13)) (C := RX6) (T := TX6) (N := 51) hx hb hts uB6 hown hK hP (hC.1.1 51 (by decide)) F_m rfl 13 (by decide) wm_32 (hC.2.2.2 13 (by decide)) dX6_campaign_154 ?_
                    refine lv_iload hx hb dX6_campaign_157 (lv_at hl 0 rfl) ?_
                    refine lv_iload_n hx hb dX6_campaign_159 rfl (lv_at hl 5 rfl) ?_
                    refine lv_sipush (v := 4096) hx hb dX6_campaign_160 (by decide) ?_
                    refine lv_irem hx hb dX6_campaign_163 (by decide) ?_
                    refine lv_topi (fun x_57 ex_57 => ?_)
                    refine g_iast hx hb hK hP hD hS (hC.1.1 13 (by decide)) F_never (vp_in_nI (by omega) (by decide)) dX6_campaign_164 (fun H locs hP hD hS => ?_)
                    obtain ⟨g_58, eg_58⟩ : ∃ z9, z9 = upd g_never (Int32.toNatClampNeg (nI nc)) x_57 := ⟨_, rfl⟩
                    rw [← eg_58] at hP hD
                    obtain ⟨f_59, ef_59⟩ : ∃ z9, z9 = va_up f_56 (rt 13) (.inl (K 0, 40, .inl g_58)) := ⟨_, rfl⟩
                    have hP : va_P (dC, dI) vwCl (va_pl L f_59) H := by rw [ef_59]; exact hP
                    have hD : va_D A (va_pl L f_59) := by rw [ef_59]; exact hD
                    have F_m_ : f_59 (rt 51) = .inr (6, fm) := by rw [ef_59, va_up_ne _ _ (fun q => absurd (hC.1.2 51 (by decide) 13 (by decide) q) (by decide))]; exact F_m
                    have F_sort_ : f_59 (rt 10) = .inl (K 0, 40, .inl g_49) := by rw [ef_59, va_up_ne _ _ (fun q => absurd (hC.1.2 10 (by decide) 13 (by decide) q) (by decide))]; exact F_sort
                    have F_pays_ : f_59 (rt 11) = .inl (K 0, 40, .inl g_52) := by rw [ef_59, va_up_ne _ _ (fun q => absurd (hC.1.2 11 (by decide) 13 (by decide) q) (by decide))]; exact F_pays
                    have F_must_ : f_59 (rt 12) = .inl (K 0, 40, .inl g_55) := by rw [ef_59, va_up_ne _ _ (fun q => absurd (hC.1.2 12 (by decide) 13 (by decide) q) (by decide))]; exact F_must
                    have F_bid_ : f_59 (rt 14) = .inl (K 0, 40, .inl g_bid) := by rw [ef_59, va_up_ne _ _ (fun q => absurd (hC.1.2 14 (by decide) 13 (by decide) q) (by decide))]; exact F_bid
                    have F_cap_ : f_59 (rt 17) = .inl (K 0, 40, .inl g_cap) := by rw [ef_59, va_up_ne _ _ (fun q => absurd (hC.1.2 17 (by decide) 13 (by decide) q) (by decide))]; exact F_cap
                    have F_span_ : f_59 (rt 18) = .inl (K 0, 40, .inl g_span) := by rw [ef_59, va_up_ne _ _ (fun q => absurd (hC.1.2 18 (by decide) 13 (by decide) q) (by decide))]; exact F_span
                    have F_throttle_ : f_59 (rt 19) = .inl (K 0, 40, .inl g_throttle) := by rw [ef_59, va_up_ne _ _ (fun q => absurd (hC.1.2 19 (by decide) 13 (by decide) q) (by decide))]; exact F_throttle
                    have F_promised_ : f_59 (rt 22) = .inl (K 0, 40, .inl g_promised) := by rw [ef_59, va_up_ne _ _ (fun q => absurd (hC.1.2 22 (by decide) 13 (by decide) q) (by decide))]; exact F_promised
                    have F_m := F_m_
                    have F_sort := F_sort_
                    have F_pays := F_pays_
                    have F_must := F_must_
                    have F_bid := F_bid_
                    have F_cap := F_cap_
                    have F_span := F_span_
                    have F_throttle := F_throttle_
                    have F_promised := F_promised_
                    have F_never : f_59 (rt 13) = .inl (K 0, 40, .inl g_58) := by rw [ef_59, va_up_self]
                    have hC : mC rt L f_59 fm := ⟨hC.1, F_m, hC.2.2.1, hC.2.2.2⟩
                    refine lv_aload_n hx hb dX6_campaign_165 rfl (lv_at hl 3 rfl) ?_
                    refine g_get (ci := 6) (v := .ref (rt 14)) (C := RX6) (T := TX6) (N := 51) hx hb hts uB6 hown hK hP (hC.1.1 51 (by decide)) F_m rfl 14 (by decide) wm_43 (hC.2.2.2 14 (by decide)) dX6_campaign_166 ?_
                    refine lv_iload hx hb dX6_campaign_169 (lv_at hl 0 rfl) ?_
                    refine lv_iload_n hx hb dX6_campaign_171 rfl (lv_at hl 6 rfl) ?_
                    refine g_iast hx hb hK hP hD hS (hC.1.1 14 (by decide)) F_bid (vp_in_nI (by omega) (by decide)) dX6_campaign_172 (fun H locs hP hD hS => ?_)
                    obtain ⟨g_60, eg_60⟩ : ∃ z9, z9 = upd g_bid (Int32.toNatClampNeg (nI nc)) z := ⟨_, rfl⟩
                    rw [← eg_60] at hP hD
                    obtain ⟨f_61, ef_61⟩ : ∃ z9, z9 = va_up f_59 (rt 14) (.inl (K 0, 40, .inl g_60)) := ⟨_, rfl⟩
                    have hP : va_P (dC, dI) vwCl (va_pl L f_61) H := by rw [ef_61]; exact hP
                    have hD : va_D A (va_pl L f_61) := by rw [ef_61]; exact hD
                    have F_m_ : f_61 (rt 51) = .inr (6, fm) := by rw [ef_61, va_up_ne _ _ (fun q => absurd (hC.1.2 51 (by decide) 14 (by decide) q) (by decide))]; exact F_m
                    have F_sort_ : f_61 (rt 10) = .inl (K 0, 40, .inl g_49) := by rw [ef_61, va_up_ne _ _ (fun q => absurd (hC.1.2 10 (by decide) 14 (by decide) q) (by decide))]; exact F_sort
                    have F_pays_ : f_61 (rt 11) = .inl (K 0, 40, .inl g_52) := by rw [ef_61, va_up_ne _ _ (fun q => absurd (hC.1.2 11 (by decide) 14 (by decide) q) (by decide))]; exact F_pays
                    have F_must_ : f_61 (rt 12) = .inl (K 0, 40, .inl g_55) := by rw [ef_61, va_up_ne _ _ (fun q => absurd (hC.1.2 12 (by decide) 14 (by decide) q) (by decide))]; exact F_must
                    have F_never_ : f_61 (rt 13) = .inl (K 0, 40, .inl g_58) := by rw [ef_61, va_up_ne _ _ (fun q => absurd (hC.1.2 13 (by decide) 14 (by decide) q) (by decide))]; exact F_never
                    have F_cap_ : f_61 (rt 17) = .inl (K 0, 40, .inl g_cap) := by rw [ef_61, va_up_ne _ _ (fun q => absurd (hC.1.2 17 (by decide) 14 (by decide) q) (by decide))]; exact F_cap
                    have F_span_ : f_61 (rt 18) = .inl (K 0, 40, .inl g_span) := by rw [ef_61, va_up_ne _ _ (fun q => absurd (hC.1.2 18 (by decide) 14 (by decide) q) (by decide))]; exact F_span
                    have F_throttle_ : f_61 (rt 19) = .inl (K 0, 40, .inl g_throttle) := by rw [ef_61, va_up_ne _ _ (fun q => absurd (hC.1.2 19 (by decide) 14 (by decide) q) (by decide))]; exact F_throttle
                    have F_promised_ : f_61 (rt 22) = .inl (K 0, 40, .inl g_promised) := by rw [ef_61, va_up_ne _ _ (fun q => absurd (hC.1.2 22 (by decide) 14 (by decide) q) (by decide))]; exact F_promised
                    have F_m := F_m_
                    have F_sort := F_sort_
                    have F_pays := F_pays_
                    have F_must := F_must_
                    have F_never := F_never_
                    have F_cap := F_cap_
                    have F_span := F_span_
                    have F_throttle := F_throttle_
                    have F_promised := F_promised_
                    have F_bid : f_61 (rt 14) = .inl (K 0, 40, .inl g_60) := by rw [ef_61, va_up_self]
                    have hC : mC rt L f_61 fm := ⟨hC.1, F_m, hC.2.2.1, hC.2.2.2⟩
                    refine lv_aload_n hx hb dX6_campaign_173 rfl (lv_at hl 3 rfl) ?_
                    refine g_get (ci := 6) (v := .ref (rt 17)) (C := RX6) (T := TX6) (N := 51) hx hb hts uB6 hown hK hP (hC.1.1 51 (by decide)) F_m rfl 17 (by decide) wm_33 (hC.2.2.2 17 (by decide)) dX6_campaign_174 ?_
                    refine lv_iload hx hb dX6_campaign_177 (lv_at hl 0 rfl) ?_
                    refine lv_bipush (v := 9) hx hb dX6_campaign_179 (by decide) ?_
                    refine g_iast hx hb hK hP hD hS (hC.1.1 17 (by decide)) F_cap (vp_in_nI (by omega) (by decide)) dX6_campaign_181 (fun H locs hP hD hS => ?_)
                    obtain ⟨g_62, eg_62⟩ : ∃ z9, z9 = upd g_cap (Int32.toNatClampNeg (nI nc)) 9 := ⟨_, rfl⟩
                    rw [← eg_62] at hP hD
                    obtain ⟨f_63, ef_63⟩ : ∃ z9, z9 = va_up f_61 (rt 17) (.inl (K 0, 40, .inl g_62)) := ⟨_, rfl⟩
                    have hP : va_P (dC, dI) vwCl (va_pl L f_63) H := by rw [ef_63]; exact hP
                    have hD : va_D A (va_pl L f_63) := by rw [ef_63]; exact hD
                    have F_m_ : f_63 (rt 51) = .inr (6, fm) := by rw [ef_63, va_up_ne _ _ (fun q => absurd (hC.1.2 51 (by decide) 17 (by decide) q) (by decide))]; exact F_m
                    have F_sort_ : f_63 (rt 10) = .inl (K 0, 40, .inl g_49) := by rw [ef_63, va_up_ne _ _ (fun q => absurd (hC.1.2 10 (by decide) 17 (by decide) q) (by decide))]; exact F_sort
                    have F_pays_ : f_63 (rt 11) = .inl (K 0, 40, .inl g_52) := by rw [ef_63, va_up_ne _ _ (fun q => absurd (hC.1.2 11 (by decide) 17 (by decide) q) (by decide))]; exact F_pays
                    have F_must_ : f_63 (rt 12) = .inl (K 0, 40, .inl g_55) := by rw [ef_63, va_up_ne _ _ (fun q => absurd (hC.1.2 12 (by decide) 17 (by decide) q) (by decide))]; exact F_must
                    have F_never_ : f_63 (rt 13) = .inl (K 0, 40, .inl g_58) := by rw [ef_63, va_up_ne _ _ (fun q => absurd (hC.1.2 13 (by decide) 17 (by decide) q) (by decide))]; exact F_never
                    have F_bid_ : f_63 (rt 14) = .inl (K 0, 40, .inl g_60) := by rw [ef_63, va_up_ne _ _ (fun q => absurd (hC.1.2 14 (by decide) 17 (by decide) q) (by decide))]; exact F_bid
                    have F_span_ : f_63 (rt 18) = .inl (K 0, 40, .inl g_span) := by rw [ef_63, va_up_ne _ _ (fun q => absurd (hC.1.2 18 (by decide) 17 (by decide) q) (by decide))]; exact F_span
                    have F_throttle_ : f_63 (rt 19) = .inl (K 0, 40, .inl g_throttle) := by rw [ef_63, va_up_ne _ _ (fun q => absurd (hC.1.2 19 (by decide) 17 (by decide) q) (by decide))]; exact F_throttle
                    have F_promised_ : f_63 (rt 22) = .inl (K 0, 40, .inl g_promised) := by rw [ef_63, va_up_ne _ _ (fun q => absurd (hC.1.2 22 (by decide) 17 (by decide) q) (by decide))]; exact F_promised
                    have F_m := F_m_
                    have F_sort := F_sort_
                    have F_pays := F_pays_
                    have F_must := F_must_
                    have F_never := F_never_
                    have F_bid := F_bid_
                    have F_span := F_span_
                    have F_throttle := F_throttle_
                    have F_promised := F_promised_
                    have F_cap : f_63 (rt 17) = .inl (K 0, 40, .inl g_62) := by rw [ef_63, va_up_self]
                    have hC : mC rt L f_63 fm := ⟨hC.1, F_m, hC.2.2.1, hC.2.2.2⟩
                    refine lv_aload_n hx hb dX6_campaign_182 rfl (lv_at hl 3 rfl) ?_
                    refine g_get (ci := 6) (v := .ref (rt 18)) (C := RX6) (T := TX6) (N := 51) hx hb hts uB6 hown hK hP (hC.1.1 51 (by decide)) F_m rfl 18 (by decide) wm_51 (hC.2.2.2 18 (by decide)) dX6_campaign_183 ?_
                    refine lv_iload hx hb dX6_campaign_186 (lv_at hl 0 rfl) ?_
                    refine lv_iconst (v := 1) hx hb dX6_campaign_188 (by decide) ?_
                    refine g_iast hx hb hK hP hD hS (hC.1.1 18 (by decide)) F_span (vp_in_nI (by omega) (by decide)) dX6_campaign_189 (fun H locs hP hD hS => ?_)
                    obtain ⟨g_64, eg_64⟩ : ∃ z9, z9 = upd g_span (Int32.toNatClampNeg (nI nc)) 1 := ⟨_, rfl⟩
                    rw [← eg_64] at hP hD
                    obtain ⟨f_65, ef_65⟩ : ∃ z9, z9 = va_up f_63 (rt 18) (.inl (K 0, 40, .inl g_64)) := ⟨_, rfl⟩
                    have hP : va_P (dC, dI) vwCl (va_pl L f_65) H := by rw [ef_65]; exact hP
                    have hD : va_D A (va_pl L f_65) := by rw [ef_65]; exact hD
                    have F_m_ : f_65 (rt 51) = .inr (6, fm) := by rw [ef_65, va_up_ne _ _ (fun q => absurd (hC.1.2 51 (by decide) 18 (by decide) q) (by decide))]; exact F_m
                    have F_sort_ : f_65 (rt 10) = .inl (K 0, 40, .inl g_49) := by rw [ef_65, va_up_ne _ _ (fun q => absurd (hC.1.2 10 (by decide) 18 (by decide) q) (by decide))]; exact F_sort
                    have F_pays_ : f_65 (rt 11) = .inl (K 0, 40, .inl g_52) := by rw [ef_65, va_up_ne _ _ (fun q => absurd (hC.1.2 11 (by decide) 18 (by decide) q) (by decide))]; exact F_pays
                    have F_must_ : f_65 (rt 12) = .inl (K 0, 40, .inl g_55) := by rw [ef_65, va_up_ne _ _ (fun q => absurd (hC.1.2 12 (by decide) 18 (by decide) q) (by decide))]; exact F_must
                    have F_never_ : f_65 (rt 13) = .inl (K 0, 40, .inl g_58) := by rw [ef_65, va_up_ne _ _ (fun q => absurd (hC.1.2 13 (by decide) 18 (by decide) q) (by decide))]; exact F_never
                    have F_bid_ : f_65 (rt 14) = .inl (K 0, 40, .inl g_60) := by rw [ef_65, va_up_ne _ _ (fun q => absurd (hC.1.2 14 (by decide) 18 (by decide) q) (by decide))]; exact F_bid
                    have F_cap_ : f_65 (rt 17) = .inl (K 0, 40, .inl g_62) := by rw [ef_65, va_up_ne _ _ (fun q => absurd (hC.1.2 17 (by decide) 18 (by decide) q) (by decide))]; exact F_cap
                    have F_throttle_ : f_65 (rt 19) = .inl (K 0, 40, .inl g_throttle) := by rw [ef_65, va_up_ne _ _ (fun q => absurd (hC.1.2 19 (by decide) 18 (by decide) q) (by decide))]; exact F_throttle
                    have F_promised_ : f_65 (rt 22) = .inl (K 0, 40, .inl g_promised) := by rw [ef_65, va_up_ne _ _ (fun q => absurd (hC.1.2 22 (by decide) 18 (by decide) q) (by decide))]; exact F_promised
                    have F_m := F_m_
                    have F_sort := F_sort_
                    have F_pays := F_pays_
                    have F_must := F_must_
                    have F_never := F_never_
                    have F_bid := F_bid_
                    have F_cap := F_cap_
                    have F_throttle := F_throttle_
                    have F_promised := F_promised_
                    have F_span : f_65 (rt 18) = .inl (K 0, 40, .inl g_64) := by rw [ef_65, va_up_self]
                    have hC : mC rt L f_65 fm := ⟨hC.1, F_m, hC.2.2.1, hC.2.2.2⟩
                    refine lv_aload_n hx hb dX6_campaign_190 rfl (lv_at hl 3 rfl) ?_
                    refine g_get (ci := 6) (v := .ref (rt 19)) (C := RX6) (T := TX6) (N := 51) hx hb hts uB6 hown hK hP (hC.1.1 51 (by decide)) F_m rfl 19 (by decide) wm_38 (hC.2.2.2 19 (by decide)) dX6_campaign_191 ?_
                    refine lv_iload hx hb dX6_campaign_194 (lv_at hl 0 rfl) ?_
                    refine lv_sipush (v := 1000) hx hb dX6_campaign_196 (by decide) ?_
                    refine g_iast hx hb hK hP hD hS (hC.1.1 19 (by decide)) F_throttle (vp_in_nI (by omega) (by decide)) dX6_campaign_199 (fun H locs hP hD hS => ?_)
                    obtain ⟨g_66, eg_66⟩ : ∃ z9, z9 = upd g_throttle (Int32.toNatClampNeg (nI nc)) 1000 := ⟨_, rfl⟩
                    rw [← eg_66] at hP hD
                    obtain ⟨f_67, ef_67⟩ : ∃ z9, z9 = va_up f_65 (rt 19) (.inl (K 0, 40, .inl g_66)) := ⟨_, rfl⟩
                    have hP : va_P (dC, dI) vwCl (va_pl L f_67) H := by rw [ef_67]; exact hP
                    have hD : va_D A (va_pl L f_67) := by rw [ef_67]; exact hD
                    have F_m_ : f_67 (rt 51) = .inr (6, fm) := by rw [ef_67, va_up_ne _ _ (fun q => absurd (hC.1.2 51 (by decide) 19 (by decide) q) (by decide))]; exact F_m
                    have F_sort_ : f_67 (rt 10) = .inl (K 0, 40, .inl g_49) := by rw [ef_67, va_up_ne _ _ (fun q => absurd (hC.1.2 10 (by decide) 19 (by decide) q) (by decide))]; exact F_sort
                    have F_pays_ : f_67 (rt 11) = .inl (K 0, 40, .inl g_52) := by rw [ef_67, va_up_ne _ _ (fun q => absurd (hC.1.2 11 (by decide) 19 (by decide) q) (by decide))]; exact F_pays
                    have F_must_ : f_67 (rt 12) = .inl (K 0, 40, .inl g_55) := by rw [ef_67, va_up_ne _ _ (fun q => absurd (hC.1.2 12 (by decide) 19 (by decide) q) (by decide))]; exact F_must
                    have F_never_ : f_67 (rt 13) = .inl (K 0, 40, .inl g_58) := by rw [ef_67, va_up_ne _ _ (fun q => absurd (hC.1.2 13 (by decide) 19 (by decide) q) (by decide))]; exact F_never
                    have F_bid_ : f_67 (rt 14) = .inl (K 0, 40, .inl g_60) := by rw [ef_67, va_up_ne _ _ (fun q => absurd (hC.1.2 14 (by decide) 19 (by decide) q) (by decide))]; exact F_bid
                    have F_cap_ : f_67 (rt 17) = .inl (K 0, 40, .inl g_62) := by rw [ef_67, va_up_ne _ _ (fun q => absurd (hC.1.2 17 (by decide) 19 (by decide) q) (by decide))]; exact F_cap
                    have F_span_ : f_67 (rt 18) = .inl (K 0, 40, .inl g_64) := by rw [ef_67, va_up_ne _ _ (fun q => absurd (hC.1.2 18 (by decide) 19 (by decide) q) (by decide))]; exact F_span
                    have F_promised_ : f_67 (rt 22) = .inl (K 0, 40, .inl g_promised) := by rw [ef_67, va_up_ne _ _ (fun q => absurd (hC.1.2 22 (by decide) 19 (by decide) q) (by decide))]; exact F_promised
                    have F_m := F_m_
                    have F_sort := F_sort_
                    have F_pays := F_pays_
                    have F_must := F_must_
                    have F_never := F_never_
                    have F_bid := F_bid_
                    have F_cap := F_cap_
                    have F_span := F_span_
                    have F_promised := F_promised_
                    have F_throttle : f_67 (rt 19) = .inl (K 0, 40, .inl g_66) := by rw [ef_67, va_up_self]
                    have hC : mC rt L f_67 fm := ⟨hC.1, F_m, hC.2.2.1, hC.2.2.2⟩
                    refine lv_aload_n hx hb dX6_campaign_200 rfl (lv_at hl 3 rfl) ?_
                    refine g_get (ci := 6) (v := .ref (rt 22)) (C := RX6) (T := TX6) (N := 51) hx hb hts uB6 hown hK hP (hC.1.1 51 (by decide)) F_m rfl 22 (by decide) wm_22 (hC.2.2.2 22 (by decide)) dX6_campaign_201 ?_
                    refine lv_iload hx hb dX6_campaign_204 (lv_at hl 0 rfl) ?_
                    refine lv_iconst (v := 0) hx hb dX6_campaign_206 (by decide) ?_
                    refine g_iast hx hb hK hP hD hS (hC.1.1 22 (by decide)) F_promised (vp_in_nI (by omega) (by decide)) dX6_campaign_207 (fun H locs hP hD hS => ?_)
                    obtain ⟨g_68, eg_68⟩ : ∃ z9, z9 = upd g_promised (Int32.toNatClampNeg (nI nc)) 0 := ⟨_, rfl⟩
                    rw [← eg_68] at hP hD
                    obtain ⟨f_69, ef_69⟩ : ∃ z9, z9 = va_up f_67 (rt 22) (.inl (K 0, 40, .inl g_68)) := ⟨_, rfl⟩
                    have hP : va_P (dC, dI) vwCl (va_pl L f_69) H := by rw [ef_69]; exact hP
                    have hD : va_D A (va_pl L f_69) := by rw [ef_69]; exact hD
                    have F_m_ : f_69 (rt 51) = .inr (6, fm) := by rw [ef_69, va_up_ne _ _ (fun q => absurd (hC.1.2 51 (by decide) 22 (by decide) q) (by decide))]; exact F_m
                    have F_sort_ : f_69 (rt 10) = .inl (K 0, 40, .inl g_49) := by rw [ef_69, va_up_ne _ _ (fun q => absurd (hC.1.2 10 (by decide) 22 (by decide) q) (by decide))]; exact F_sort
                    have F_pays_ : f_69 (rt 11) = .inl (K 0, 40, .inl g_52) := by rw [ef_69, va_up_ne _ _ (fun q => absurd (hC.1.2 11 (by decide) 22 (by decide) q) (by decide))]; exact F_pays
                    have F_must_ : f_69 (rt 12) = .inl (K 0, 40, .inl g_55) := by rw [ef_69, va_up_ne _ _ (fun q => absurd (hC.1.2 12 (by decide) 22 (by decide) q) (by decide))]; exact F_must
                    have F_never_ : f_69 (rt 13) = .inl (K 0, 40, .inl g_58) := by rw [ef_69, va_up_ne _ _ (fun q => absurd (hC.1.2 13 (by decide) 22 (by decide) q) (by decide))]; exact F_never
                    have F_bid_ : f_69 (rt 14) = .inl (K 0, 40, .inl g_60) := by rw [ef_69, va_up_ne _ _ (fun q => absurd (hC.1.2 14 (by decide) 22 (by decide) q) (by decide))]; exact F_bid
                    have F_cap_ : f_69 (rt 17) = .inl (K 0, 40, .inl g_62) := by rw [ef_69, va_up_ne _ _ (fun q => absurd (hC.1.2 17 (by decide) 22 (by decide) q) (by decide))]; exact F_cap
                    have F_span_ : f_69 (rt 18) = .inl (K 0, 40, .inl g_64) := by rw [ef_69, va_up_ne _ _ (fun q => absurd (hC.1.2 18 (by decide) 22 (by decide) q) (by decide))]; exact F_span
                    have F_throttle_ : f_69 (rt 19) = .inl (K 0, 40, .inl g_66) := by rw [ef_69, va_up_ne _ _ (fun q => absurd (hC.1.2 19 (by decide) 22 (by decide) q) (by decide))]; exact F_throttle
                    have F_m := F_m_
                    have F_sort := F_sort_
                    have F_pays := F_pays_
                    have F_must := F_must_
                    have F_never := F_never_
                    have F_bid := F_bid_
                    have F_cap := F_cap_
                    have F_span := F_span_
                    have F_throttle := F_throttle_
                    have F_promised : f_69 (rt 22) = .inl (K 0, 40, .inl g_68) := by rw [ef_69, va_up_self]
                    have hC : mC rt L f_69 fm := ⟨hC.1, F_m, hC.2.2.1, hC.2.2.2⟩
                    refine lv_aload_n hx hb dX6_campaign_208 rfl (lv_at hl 3 rfl) ?_
                    refine lv_dup hx hb dX6_campaign_209 rfl ?_
                    refine g_get (ci := 6) (v := .int (nI nc)) (C := RX6) (T := TX6) (N := 51) hx hb hts uB6 hown hK hP (hC.1.1 51 (by decide)) F_m rfl 9 (by decide) wm_76 I_campaigns dX6_campaign_210 ?_
                    refine lv_iconst (v := 1) hx hb dX6_campaign_213 (by decide) ?_
                    refine lv_iadd hx hb dX6_campaign_214 ?_
                    refine lv_topi (fun x_70 ex_70 => ?_)
                    obtain rfl : x_70 = nI (nc + 1) := ex_70.trans (nI_1 nc)
                    refine g_put (ci := 6) (v := .int (nI (nc + 1))) (ty := .int) (C := RX6) (T := TX6) (N := 51) hx hb hts uB6 tyX6 tyX6_ok nmX6 hown hK hP hD hS (hC.1.1 51 (by decide)) F_m rfl 9 (by decide) wm_76 rfl (by decide +kernel) rfl rfl (by rw [hC.2.2.1]; decide) dX6_campaign_215 (fun H locs hP hD hS => ?_)
                    obtain ⟨fs_71, efs_71⟩ : ∃ z9, z9 = List.set fm 9 (.int (nI (nc + 1))) := ⟨_, rfl⟩
                    rw [← efs_71] at hP hD
                    have hlen_ : fs_71.length = 51 := by rw [efs_71, List.length_set]; exact hC.2.2.1
                    have I_campaigns : fs_71[9]? = some (.int (nI (nc + 1))) := by rw [efs_71]; exact List.getElem?_set_self (by rw [hC.2.2.1]; decide)
                    have hmr_ : ∀ k ∈ mArr, fs_71[k]? = some (.ref (rt k)) := fun k h => by rw [efs_71, List.getElem?_set_ne (fun q => by rw [← q] at h; exact absurd h (by decide))]; exact hC.2.2.2 k h
                    obtain ⟨f_72, ef_72⟩ : ∃ z9, z9 = va_up f_69 (rt 51) (.inr (6, fs_71)) := ⟨_, rfl⟩
                    have hP : va_P (dC, dI) vwCl (va_pl L f_72) H := by rw [ef_72]; exact hP
                    have hD : va_D A (va_pl L f_72) := by rw [ef_72]; exact hD
                    have F_sort_ : f_72 (rt 10) = .inl (K 0, 40, .inl g_49) := by rw [ef_72, va_up_ne _ _ (fun q => absurd (hC.1.2 10 (by decide) 51 (by decide) q) (by decide))]; exact F_sort
                    have F_pays_ : f_72 (rt 11) = .inl (K 0, 40, .inl g_52) := by rw [ef_72, va_up_ne _ _ (fun q => absurd (hC.1.2 11 (by decide) 51 (by decide) q) (by decide))]; exact F_pays
                    have F_must_ : f_72 (rt 12) = .inl (K 0, 40, .inl g_55) := by rw [ef_72, va_up_ne _ _ (fun q => absurd (hC.1.2 12 (by decide) 51 (by decide) q) (by decide))]; exact F_must
                    have F_never_ : f_72 (rt 13) = .inl (K 0, 40, .inl g_58) := by rw [ef_72, va_up_ne _ _ (fun q => absurd (hC.1.2 13 (by decide) 51 (by decide) q) (by decide))]; exact F_never
                    have F_bid_ : f_72 (rt 14) = .inl (K 0, 40, .inl g_60) := by rw [ef_72, va_up_ne _ _ (fun q => absurd (hC.1.2 14 (by decide) 51 (by decide) q) (by decide))]; exact F_bid
                    have F_cap_ : f_72 (rt 17) = .inl (K 0, 40, .inl g_62) := by rw [ef_72, va_up_ne _ _ (fun q => absurd (hC.1.2 17 (by decide) 51 (by decide) q) (by decide))]; exact F_cap
                    have F_span_ : f_72 (rt 18) = .inl (K 0, 40, .inl g_64) := by rw [ef_72, va_up_ne _ _ (fun q => absurd (hC.1.2 18 (by decide) 51 (by decide) q) (by decide))]; exact F_span
                    have F_throttle_ : f_72 (rt 19) = .inl (K 0, 40, .inl g_66) := by rw [ef_72, va_up_ne _ _ (fun q => absurd (hC.1.2 19 (by decide) 51 (by decide) q) (by decide))]; exact F_throttle
                    have F_promised_ : f_72 (rt 22) = .inl (K 0, 40, .inl g_68) := by rw [ef_72, va_up_ne _ _ (fun q => absurd (hC.1.2 22 (by decide) 51 (by decide) q) (by decide))]; exact F_promised
                    have F_sort := F_sort_
                    have F_pays := F_pays_
                    have F_must := F_must_
                    have F_never := F_never_
                    have F_bid := F_bid_
                    have F_cap := F_cap_
                    have F_span := F_span_
                    have F_throttle := F_throttle_
                    have F_promised := F_promised_
                    have F_m : f_72 (rt 51) = .inr (6, fs_71) := by rw [ef_72, va_up_self]
                    have hC : mC rt L f_72 fs_71 := ⟨hC.1, F_m, hlen_, hmr_⟩
                    refine lv_iload hx hb dX6_campaign_218 (lv_at hl 0 rfl) ?_
                    exact W.iret (v := nI nc) hx hb hr (fun t ht hW => ⟨⟨nI nc, f_72, rfl, (Or.inr (Or.inr ⟨(by subst ex_1 ex_5 ex_44 ex_45 ex_46 ex_51 ex_54 ex_57; have h1 := k_cp1 x; have h2 := k_cp2 y; simp only [Int32.lt_iff_toInt_lt, Int32.le_iff_toInt_le, ← Int32.toInt_inj, Int32.reduceToInt] at h1 h2 c_2 g_4 c_6 g_8 g_10 c_11 c_43 c_47; unfold cpOk; simp only [Int32.lt_iff_toInt_lt, Int32.le_iff_toInt_le, ← Int32.toInt_inj, Int32.reduceToInt]; omega), hfl, rfl, by rw [ef_72, efs_71, ef_69, eg_68, ef_67, eg_66, ef_65, eg_64, ef_63, eg_62, ef_61, eg_60, ef_59, eg_58, ef_56, eg_55, ef_53, eg_52, ef_50, eg_49]; subst ex_57 ex_54 ex_51 ex_46 ex_45 ex_44 ex_5 ex_1; rfl⟩)), by show va_P (dC, dI) vwCl (va_pl L f_72) t.heap; rw [ht]; exact hP⟩, hS.F ht⟩) hS.2.2 dX6_campaign_220
                  · skip
                    have hfl : nc = 40 := (nI_eq (by omega) (by decide)).mp c_48
                    refine lv_bipush (v := (-3)) hx hb dX6_campaign_112 (by decide) ?_
                    exact W.iret (v := (-3)) hx hb hr (fun t ht hW => ⟨⟨(-3), f, rfl, (Or.inr (Or.inl ⟨(by subst ex_1 ex_5 ex_44 ex_45 ex_46; have h1 := k_cp1 x; have h2 := k_cp2 y; simp only [Int32.lt_iff_toInt_lt, Int32.le_iff_toInt_le, ← Int32.toInt_inj, Int32.reduceToInt] at h1 h2 c_2 g_4 c_6 g_8 g_10 c_11 c_43 c_47; unfold cpOk; simp only [Int32.lt_iff_toInt_lt, Int32.le_iff_toInt_le, ← Int32.toInt_inj, Int32.reduceToInt]; omega), hfl, rfl, rfl⟩)), by show va_P (dC, dI) vwCl (va_pl L f) t.heap; rw [ht]; exact hP⟩, hS.F ht⟩) hS.2.2 dX6_campaign_114
                · skip
                  refine lv_iconst (v := (-1)) hx hb dX6_campaign_101 (by decide) ?_
                  exact W.iret (v := (-1)) hx hb hr (fun t ht hW => ⟨⟨(-1), f, rfl, (Or.inl ⟨(by subst ex_1 ex_5 ex_44 ex_45 ex_46; have h1 := k_cp1 x; have h2 := k_cp2 y; simp only [Int32.lt_iff_toInt_lt, Int32.le_iff_toInt_le, ← Int32.toInt_inj, Int32.reduceToInt] at h1 h2 c_2 g_4 c_6 g_8 g_10 c_11 c_43 c_47; unfold cpOk; simp only [Int32.lt_iff_toInt_lt, Int32.le_iff_toInt_le, ← Int32.toInt_inj, Int32.reduceToInt]; omega), rfl, rfl⟩), by show va_P (dC, dI) vwCl (va_pl L f) t.heap; rw [ht]; exact hP⟩, hS.F ht⟩) hS.2.2 dX6_campaign_102
      · skip
        refine lv_iconst (v := 1) hx hb dX6_campaign_30 (by decide) ?_
        refine lv_goto (tgt := 35) hx hb dX6_campaign_31 (by decide) ?_
        refine k_S ⟨hx, hb, hml, hown, hts⟩ (c_in l x_5 0 1) 3 wm_69 wm_70 wm_8 wm_71 (by decide +kernel) ⟨Nat.le_of_ble_eq_true rfl, Nat.le_of_ble_eq_true rfl⟩ rfl hl.1 rfl (Nat.le_of_ble_eq_true rfl) dX6_campaign_35 ⟨Nat.le_of_ble_eq_true rfl, Nat.le_of_ble_eq_true rfl⟩ hS hP (fun r_73 H locs hpr_73 hP hS => ?_)
        refine lv_if_eq (tgt := 79) hx hb dX6_campaign_38 (by decide) (fun c_74 => ?_) (fun c_74 => ?_)
        · skip
          have g_74 := k_ff hpr_73 c_74
          refine lv_iconst (v := 0) hx hb dX6_campaign_79 (by decide) ?_
          refine lv_istore (lv' := [(5, .int 0), (4, .int x_1), (0, .ref (rt 51)), (1, .int x), (2, .int y), (3, .int z)]) hx hb dX6_campaign_80 hl (by decide) rfl (fun ls hl => ?_)
          refine lv_iload hx hb dX6_campaign_82 (lv_at hl 0 rfl) ?_
          refine lv_if_eq (tgt := 101) hx hb dX6_campaign_84 (by decide) (fun _ => ?_) (fun h9 => absurd (by decide) h9)
          refine lv_iconst (v := (-1)) hx hb dX6_campaign_101 (by decide) ?_
          exact W.iret (v := (-1)) hx hb hr (fun t ht hW => ⟨⟨(-1), f, rfl, (Or.inl ⟨(by subst ex_1 ex_5; have h1 := k_cp1 x; have h2 := k_cp2 y; simp only [Int32.lt_iff_toInt_lt, Int32.le_iff_toInt_le, ← Int32.toInt_inj, Int32.reduceToInt] at h1 h2 c_2 g_4 c_6 g_74; unfold cpOk; simp only [Int32.lt_iff_toInt_lt, Int32.le_iff_toInt_le, ← Int32.toInt_inj, Int32.reduceToInt]; omega), rfl, rfl⟩), by show va_P (dC, dI) vwCl (va_pl L f) t.heap; rw [ht]; exact hP⟩, hS.F ht⟩) hS.2.2 dX6_campaign_102
        · skip
          have g_74 := k_ft hpr_73 c_74
          refine lv_iload_n hx hb dX6_campaign_41 rfl (lv_at hl 3 rfl) ?_
          refine lv_iconst (v := 0) hx hb dX6_campaign_42 (by decide) ?_
          refine lv_ldc (v := 16777215) hx hb hown (hts _ wm_115) dX6_campaign_43 ?_
          refine k_S ⟨hx, hb, hml, hown, hts⟩ (c_in l y 0 16777215) 3 wm_69 wm_70 wm_8 wm_71 (by decide +kernel) ⟨Nat.le_of_ble_eq_true rfl, Nat.le_of_ble_eq_true rfl⟩ rfl hl.1 rfl (Nat.le_of_ble_eq_true rfl) dX6_campaign_45 ⟨Nat.le_of_ble_eq_true rfl, Nat.le_of_ble_eq_true rfl⟩ hS hP (fun r_75 H locs hpr_75 hP hS => ?_)
          refine lv_if_eq (tgt := 79) hx hb dX6_campaign_48 (by decide) (fun c_76 => ?_) (fun c_76 => ?_)
          · skip
            have g_76 := k_ff hpr_75 c_76
            refine lv_iconst (v := 0) hx hb dX6_campaign_79 (by decide) ?_
            refine lv_istore (lv' := [(5, .int 0), (4, .int x_1), (0, .ref (rt 51)), (1, .int x), (2, .int y), (3, .int z)]) hx hb dX6_campaign_80 hl (by decide) rfl (fun ls hl => ?_)
            refine lv_iload hx hb dX6_campaign_82 (lv_at hl 0 rfl) ?_
            refine lv_if_eq (tgt := 101) hx hb dX6_campaign_84 (by decide) (fun _ => ?_) (fun h9 => absurd (by decide) h9)
            refine lv_iconst (v := (-1)) hx hb dX6_campaign_101 (by decide) ?_
            exact W.iret (v := (-1)) hx hb hr (fun t ht hW => ⟨⟨(-1), f, rfl, (Or.inl ⟨(by subst ex_1 ex_5; have h1 := k_cp1 x; have h2 := k_cp2 y; simp only [Int32.lt_iff_toInt_lt, Int32.le_iff_toInt_le, ← Int32.toInt_inj, Int32.reduceToInt] at h1 h2 c_2 g_4 c_6 g_74 g_76; unfold cpOk; simp only [Int32.lt_iff_toInt_lt, Int32.le_iff_toInt_le, ← Int32.toInt_inj, Int32.reduceToInt]; omega), rfl, rfl⟩), by show va_P (dC, dI) vwCl (va_pl L f) t.heap; rw [ht]; exact hP⟩, hS.F ht⟩) hS.2.2 dX6_campaign_102
          · skip
            have g_76 := k_ft hpr_75 c_76
            refine lv_iload hx hb dX6_campaign_51 (lv_at hl 0 rfl) ?_
            refine lv_iconst (v := 2) hx hb dX6_campaign_53 (by decide) ?_
            refine lv_icmp_ne (tgt := 64) hx hb dX6_campaign_54 (by decide) (fun c_77 => ?_) (fun c_77 => ?_)
            · skip
              refine lv_iload_n hx hb dX6_campaign_64 rfl (lv_at hl 4 rfl) ?_
              refine lv_iconst (v := 1) hx hb dX6_campaign_65 (by decide) ?_
              refine lv_sipush (v := 1000) hx hb dX6_campaign_66 (by decide) ?_
              refine k_S ⟨hx, hb, hml, hown, hts⟩ (c_in l z 1 1000) 3 wm_69 wm_70 wm_8 wm_71 (by decide +kernel) ⟨Nat.le_of_ble_eq_true rfl, Nat.le_of_ble_eq_true rfl⟩ rfl hl.1 rfl (Nat.le_of_ble_eq_true rfl) dX6_campaign_69 ⟨Nat.le_of_ble_eq_true rfl, Nat.le_of_ble_eq_true rfl⟩ hS hP (fun r_78 H locs hpr_78 hP hS => ?_)
              refine lv_if_eq (tgt := 79) hx hb dX6_campaign_72 (by decide) (fun c_79 => ?_) (fun c_79 => ?_)
              · skip
                have g_79 := k_ff hpr_78 c_79
                refine lv_iconst (v := 0) hx hb dX6_campaign_79 (by decide) ?_
                refine lv_istore (lv' := [(5, .int 0), (4, .int x_1), (0, .ref (rt 51)), (1, .int x), (2, .int y), (3, .int z)]) hx hb dX6_campaign_80 hl (by decide) rfl (fun ls hl => ?_)
                refine lv_iload hx hb dX6_campaign_82 (lv_at hl 0 rfl) ?_
                refine lv_if_eq (tgt := 101) hx hb dX6_campaign_84 (by decide) (fun _ => ?_) (fun h9 => absurd (by decide) h9)
                refine lv_iconst (v := (-1)) hx hb dX6_campaign_101 (by decide) ?_
                exact W.iret (v := (-1)) hx hb hr (fun t ht hW => ⟨⟨(-1), f, rfl, (Or.inl ⟨(by subst ex_1 ex_5; have h1 := k_cp1 x; have h2 := k_cp2 y; simp only [Int32.lt_iff_toInt_lt, Int32.le_iff_toInt_le, ← Int32.toInt_inj, Int32.reduceToInt] at h1 h2 c_2 g_4 c_6 g_74 g_76 c_77 g_79; unfold cpOk; simp only [Int32.lt_iff_toInt_lt, Int32.le_iff_toInt_le, ← Int32.toInt_inj, Int32.reduceToInt]; omega), rfl, rfl⟩), by show va_P (dC, dI) vwCl (va_pl L f) t.heap; rw [ht]; exact hP⟩, hS.F ht⟩) hS.2.2 dX6_campaign_102
              · skip
                have g_79 := k_ft hpr_78 c_79
                refine lv_iconst (v := 1) hx hb dX6_campaign_75 (by decide) ?_
                refine lv_goto (tgt := 80) hx hb dX6_campaign_76 (by decide) ?_
                refine lv_istore (lv' := [(5, .int 1), (4, .int x_1), (0, .ref (rt 51)), (1, .int x), (2, .int y), (3, .int z)]) hx hb dX6_campaign_80 hl (by decide) rfl (fun ls hl => ?_)
                refine lv_iload hx hb dX6_campaign_82 (lv_at hl 0 rfl) ?_
                refine lv_if_eq (tgt := 101) hx hb dX6_campaign_84 (by decide) (fun h9 => absurd h9 (by decide)) (fun _ => ?_)
                refine lv_iload_n hx hb dX6_campaign_87 rfl (lv_at hl 4 rfl) ?_
                refine lv_sipush (v := 4096) hx hb dX6_campaign_88 (by decide) ?_
                refine lv_idiv hx hb dX6_campaign_91 (by decide) ?_
                refine lv_topi (fun x_80 ex_80 => ?_)
                refine lv_iload_n hx hb dX6_campaign_92 rfl (lv_at hl 4 rfl) ?_
                refine lv_sipush (v := 4096) hx hb dX6_campaign_93 (by decide) ?_
                refine lv_irem hx hb dX6_campaign_96 (by decide) ?_
                refine lv_topi (fun x_81 ex_81 => ?_)
                refine lv_iand hx hb dX6_campaign_97 ?_
                refine lv_topi (fun x_82 ex_82 => ?_)
                refine lv_if_eq (tgt := 103) hx hb dX6_campaign_98 (by decide) (fun c_83 => ?_) (fun c_83 => ?_)
                · skip
                  refine lv_aload_n hx hb dX6_campaign_103 rfl (lv_at hl 2 rfl) ?_
                  refine g_get (ci := 6) (v := .int (nI nc)) (C := RX6) (T := TX6) (N := 51) hx hb hts uB6 hown hK hP (hC.1.1 51 (by decide)) F_m rfl 9 (by decide) wm_76 I_campaigns dX6_campaign_104 ?_
                  refine lv_bipush (v := 40) hx hb dX6_campaign_107 (by decide) ?_
                  refine lv_icmp_ne (tgt := 115) hx hb dX6_campaign_109 (by decide) (fun c_84 => ?_) (fun c_84 => ?_)
                  · skip
                    have hfl : nc < 40 := Nat.lt_of_le_of_ne hnc (fun q => c_84 (by rw [q]; rfl))
                    refine lv_aload_n hx hb dX6_campaign_115 rfl (lv_at hl 2 rfl) ?_
                    refine g_get (ci := 6) (v := .int (nI nc)) (C := RX6) (T := TX6) (N := 51) hx hb hts uB6 hown hK hP (hC.1.1 51 (by decide)) F_m rfl 9 (by decide) wm_76 I_campaigns dX6_campaign_116 ?_
                    refine lv_istore (lv' := [(6, .int (nI nc)), (5, .int 1), (4, .int x_1), (0, .ref (rt 51)), (1, .int x), (2, .int y), (3, .int z)]) hx hb dX6_campaign_119 hl (by decide) rfl (fun ls hl => ?_)
                    refine lv_aload_n hx hb dX6_campaign_121 rfl (lv_at hl 3 rfl) ?_
                    refine g_get (ci := 6) (v := .ref (rt 10)) (C := RX6) (T := TX6) (N := 51) hx hb hts uB6 hown hK hP (hC.1.1 51 (by decide)) F_m rfl 10 (by decide) wm_21 (hC.2.2.2 10 (by decide)) dX6_campaign_122 ?_
                    refine lv_iload hx hb dX6_campaign_125 (lv_at hl 0 rfl) ?_
                    refine lv_iload hx hb dX6_campaign_127 (lv_at hl 2 rfl) ?_
                    refine g_iast hx hb hK hP hD hS (hC.1.1 10 (by decide)) F_sort (vp_in_nI (by omega) (by decide)) dX6_campaign_129 (fun H locs hP hD hS => ?_)
                    obtain ⟨g_85, eg_85⟩ : ∃ z9, z9 = upd g_sort (Int32.toNatClampNeg (nI nc)) x_1 := ⟨_, rfl⟩
                    rw [← eg_85] at hP hD
                    obtain ⟨f_86, ef_86⟩ : ∃ z9, z9 = va_up f (rt 10) (.inl (K 0, 40, .inl g_85)) := ⟨_, rfl⟩
                    have hP : va_P (dC, dI) vwCl (va_pl L f_86) H := by rw [ef_86]; exact hP
                    have hD : va_D A (va_pl L f_86) := by rw [ef_86]; exact hD
                    have F_m_ : f_86 (rt 51) = .inr (6, fm) := by rw [ef_86, va_up_ne _ _ (fun q => absurd (hC.1.2 51 (by decide) 10 (by decide) q) (by decide))]; exact F_m
                    have F_pays_ : f_86 (rt 11) = .inl (K 0, 40, .inl g_pays) := by rw [ef_86, va_up_ne _ _ (fun q => absurd (hC.1.2 11 (by decide) 10 (by decide) q) (by decide))]; exact F_pays
                    have F_must_ : f_86 (rt 12) = .inl (K 0, 40, .inl g_must) := by rw [ef_86, va_up_ne _ _ (fun q => absurd (hC.1.2 12 (by decide) 10 (by decide) q) (by decide))]; exact F_must
                    have F_never_ : f_86 (rt 13) = .inl (K 0, 40, .inl g_never) := by rw [ef_86, va_up_ne _ _ (fun q => absurd (hC.1.2 13 (by decide) 10 (by decide) q) (by decide))]; exact F_never
                    have F_bid_ : f_86 (rt 14) = .inl (K 0, 40, .inl g_bid) := by rw [ef_86, va_up_ne _ _ (fun q => absurd (hC.1.2 14 (by decide) 10 (by decide) q) (by decide))]; exact F_bid
                    have F_cap_ : f_86 (rt 17) = .inl (K 0, 40, .inl g_cap) := by rw [ef_86, va_up_ne _ _ (fun q => absurd (hC.1.2 17 (by decide) 10 (by decide) q) (by decide))]; exact F_cap
                    have F_span_ : f_86 (rt 18) = .inl (K 0, 40, .inl g_span) := by rw [ef_86, va_up_ne _ _ (fun q => absurd (hC.1.2 18 (by decide) 10 (by decide) q) (by decide))]; exact F_span
                    have F_throttle_ : f_86 (rt 19) = .inl (K 0, 40, .inl g_throttle) := by rw [ef_86, va_up_ne _ _ (fun q => absurd (hC.1.2 19 (by decide) 10 (by decide) q) (by decide))]; exact F_throttle
                    have F_promised_ : f_86 (rt 22) = .inl (K 0, 40, .inl g_promised) := by rw [ef_86, va_up_ne _ _ (fun q => absurd (hC.1.2 22 (by decide) 10 (by decide) q) (by decide))]; exact F_promised
                    have F_m := F_m_
                    have F_pays := F_pays_
                    have F_must := F_must_
                    have F_never := F_never_
                    have F_bid := F_bid_
                    have F_cap := F_cap_
                    have F_span := F_span_
                    have F_throttle := F_throttle_
                    have F_promised := F_promised_
                    have F_sort : f_86 (rt 10) = .inl (K 0, 40, .inl g_85) := by rw [ef_86, va_up_self]
                    have hC : mC rt L f_86 fm := ⟨hC.1, F_m, hC.2.2.1, hC.2.2.2⟩
                    refine lv_aload_n hx hb dX6_campaign_130 rfl (lv_at hl 3 rfl) ?_
                    refine g_get (ci := 6) (v := .ref (rt 11)) (C := RX6) (T := TX6) (N := 51) hx hb hts uB6 hown hK hP (hC.1.1 51 (by decide)) F_m rfl 11 (by decide) wm_1 (hC.2.2.2 11 (by decide)) dX6_campaign_131 ?_
                    refine lv_iload hx hb dX6_campaign_134 (lv_at hl 0 rfl) ?_
                    refine lv_iload_n hx hb dX6_campaign_136 rfl (lv_at hl 4 rfl) ?_
                    refine lv_bipush (v := 10) hx hb dX6_campaign_137 (by decide) ?_
                    refine lv_irem hx hb dX6_campaign_139 (by decide) ?_
                    refine lv_topi (fun x_87 ex_87 => ?_)
                    refine g_iast hx hb hK hP hD hS (hC.1.1 11 (by decide)) F_pays (vp_in_nI (by omega) (by decide)) dX6_campaign_140 (fun H locs hP hD hS => ?_)
                    obtain ⟨g_88, eg_88⟩ : ∃ z9, z9 = upd g_pays (Int32.toNatClampNeg (nI nc)) x_87 := ⟨_, rfl⟩
                    rw [← eg_88] at hP hD
                    obtain ⟨f_89, ef_89⟩ : ∃ z9, z9 = va_up f_86 (rt 11) (.inl (K 0, 40, .inl g_88)) := ⟨_, rfl⟩
                    have hP : va_P (dC, dI) vwCl (va_pl L f_89) H := by rw [ef_89]; exact hP
                    have hD : va_D A (va_pl L f_89) := by rw [ef_89]; exact hD
                    have F_m_ : f_89 (rt 51) = .inr (6, fm) := by rw [ef_89, va_up_ne _ _ (fun q => absurd (hC.1.2 51 (by decide) 11 (by decide) q) (by decide))]; exact F_m
                    have F_sort_ : f_89 (rt 10) = .inl (K 0, 40, .inl g_85) := by rw [ef_89, va_up_ne _ _ (fun q => absurd (hC.1.2 10 (by decide) 11 (by decide) q) (by decide))]; exact F_sort
                    have F_must_ : f_89 (rt 12) = .inl (K 0, 40, .inl g_must) := by rw [ef_89, va_up_ne _ _ (fun q => absurd (hC.1.2 12 (by decide) 11 (by decide) q) (by decide))]; exact F_must
                    have F_never_ : f_89 (rt 13) = .inl (K 0, 40, .inl g_never) := by rw [ef_89, va_up_ne _ _ (fun q => absurd (hC.1.2 13 (by decide) 11 (by decide) q) (by decide))]; exact F_never
                    have F_bid_ : f_89 (rt 14) = .inl (K 0, 40, .inl g_bid) := by rw [ef_89, va_up_ne _ _ (fun q => absurd (hC.1.2 14 (by decide) 11 (by decide) q) (by decide))]; exact F_bid
                    have F_cap_ : f_89 (rt 17) = .inl (K 0, 40, .inl g_cap) := by rw [ef_89, va_up_ne _ _ (fun q => absurd (hC.1.2 17 (by decide) 11 (by decide) q) (by decide))]; exact F_cap
                    have F_span_ : f_89 (rt 18) = .inl (K 0, 40, .inl g_span) := by rw [ef_89, va_up_ne _ _ (fun q => absurd (hC.1.2 18 (by decide) 11 (by decide) q) (by decide))]; exact F_span
                    have F_throttle_ : f_89 (rt 19) = .inl (K 0, 40, .inl g_throttle) := by rw [ef_89, va_up_ne _ _ (fun q => absurd (hC.1.2 19 (by decide) 11 (by decide) q) (by decide))]; exact F_throttle
                    have F_promised_ : f_89 (rt 22) = .inl (K 0, 40, .inl g_promised) := by rw [ef_89, va_up_ne _ _ (fun q => absurd (hC.1.2 22 (by decide) 11 (by decide) q) (by decide))]; exact F_promised
                    have F_m := F_m_
                    have F_sort := F_sort_
                    have F_must := F_must_
                    have F_never := F_never_
                    have F_bid := F_bid_
                    have F_cap := F_cap_
                    have F_span := F_span_
                    have F_throttle := F_throttle_
                    have F_promised := F_promised_
                    have F_pays : f_89 (rt 11) = .inl (K 0, 40, .inl g_88) := by rw [ef_89, va_up_self]
                    have hC : mC rt L f_89 fm := ⟨hC.1, F_m, hC.2.2.1, hC.2.2.2⟩
                    refine lv_aload_n hx hb dX6_campaign_141 rfl (lv_at hl 3 rfl) ?_
                    refine g_get (ci := 6) (v := .ref (rt 12)) (C := RX6) (T := TX6) (N := 51) hx hb hts uB6 hown hK hP (hC.1.1 51 (by decide)) F_m rfl 12 (by decide) wm_31 (hC.2.2.2 12 (by decide)) dX6_campaign_142 ?_
                    refine lv_iload hx hb dX6_campaign_145 (lv_at hl 0 rfl) ?_
                    refine lv_iload_n hx hb dX6_campaign_147 rfl (lv_at hl 5 rfl) ?_
                    refine lv_sipush (v := 4096) hx hb dX6_campaign_148 (by decide) ?_
                    refine lv_idiv hx hb dX6_campaign_151 (by decide) ?_
                    refine lv_topi (fun x_90 ex_90 => ?_)
                    refine g_iast hx hb hK hP hD hS (hC.1.1 12 (by decide)) F_must (vp_in_nI (by omega) (by decide)) dX6_campaign_152 (fun H locs hP hD hS => ?_)
                    obtain ⟨g_91, eg_91⟩ : ∃ z9, z9 = upd g_must (Int32.toNatClampNeg (nI nc)) x_90 := ⟨_, rfl⟩
                    rw [← eg_91] at hP hD
                    obtain ⟨f_92, ef_92⟩ : ∃ z9, z9 = va_up f_89 (rt 12) (.inl (K 0, 40, .inl g_91)) := ⟨_, rfl⟩
                    have hP : va_P (dC, dI) vwCl (va_pl L f_92) H := by rw [ef_92]; exact hP
                    have hD : va_D A (va_pl L f_92) := by rw [ef_92]; exact hD
                    have F_m_ : f_92 (rt 51) = .inr (6, fm) := by rw [ef_92, va_up_ne _ _ (fun q => absurd (hC.1.2 51 (by decide) 12 (by decide) q) (by decide))]; exact F_m
                    have F_sort_ : f_92 (rt 10) = .inl (K 0, 40, .inl g_85) := by rw [ef_92, va_up_ne _ _ (fun q => absurd (hC.1.2 10 (by decide) 12 (by decide) q) (by decide))]; exact F_sort
                    have F_pays_ : f_92 (rt 11) = .inl (K 0, 40, .inl g_88) := by rw [ef_92, va_up_ne _ _ (fun q => absurd (hC.1.2 11 (by decide) 12 (by decide) q) (by decide))]; exact F_pays
                    have F_never_ : f_92 (rt 13) = .inl (K 0, 40, .inl g_never) := by rw [ef_92, va_up_ne _ _ (fun q => absurd (hC.1.2 13 (by decide) 12 (by decide) q) (by decide))]; exact F_never
                    have F_bid_ : f_92 (rt 14) = .inl (K 0, 40, .inl g_bid) := by rw [ef_92, va_up_ne _ _ (fun q => absurd (hC.1.2 14 (by decide) 12 (by decide) q) (by decide))]; exact F_bid
                    have F_cap_ : f_92 (rt 17) = .inl (K 0, 40, .inl g_cap) := by rw [ef_92, va_up_ne _ _ (fun q => absurd (hC.1.2 17 (by decide) 12 (by decide) q) (by decide))]; exact F_cap
                    have F_span_ : f_92 (rt 18) = .inl (K 0, 40, .inl g_span) := by rw [ef_92, va_up_ne _ _ (fun q => absurd (hC.1.2 18 (by decide) 12 (by decide) q) (by decide))]; exact F_span
                    have F_throttle_ : f_92 (rt 19) = .inl (K 0, 40, .inl g_throttle) := by rw [ef_92, va_up_ne _ _ (fun q => absurd (hC.1.2 19 (by decide) 12 (by decide) q) (by decide))]; exact F_throttle
                    have F_promised_ : f_92 (rt 22) = .inl (K 0, 40, .inl g_promised) := by rw [ef_92, va_up_ne _ _ (fun q => absurd (hC.1.2 22 (by decide) 12 (by decide) q) (by decide))]; exact F_promised
                    have F_m := F_m_
                    have F_sort := F_sort_
                    have F_pays := F_pays_
                    have F_never := F_never_
                    have F_bid := F_bid_
                    have F_cap := F_cap_
                    have F_span := F_span_
                    have F_throttle := F_throttle_
                    have F_promised := F_promised_
                    have F_must : f_92 (rt 12) = .inl (K 0, 40, .inl g_91) := by rw [ef_92, va_up_self]
                    have hC : mC rt L f_92 fm := ⟨hC.1, F_m, hC.2.2.1, hC.2.2.2⟩
                    refine lv_aload_n hx hb dX6_campaign_153 rfl (lv_at hl 3 rfl) ?_
                    refine g_get (ci := 6) (v := .ref (rt 13)) (C := RX6) (T := TX6) (N := 51) hx hb hts uB6 hown hK hP (hC.1.1 51 (by decide)) F_m rfl 13 (by decide) wm_32 (hC.2.2.2 13 (by decide)) dX6_campaign_154 ?_
                    refine lv_iload hx hb dX6_campaign_157 (lv_at hl 0 rfl) ?_
                    refine lv_iload_n hx hb dX6_campaign_159 rfl (lv_at hl 5 rfl) ?_
                    refine lv_sipush (v := 4096) hx hb dX6_campaign_160 (by decide) ?_
                    refine lv_irem hx hb dX6_campaign_163 (by decide) ?_
                    refine lv_topi (fun x_93 ex_93 => ?_)
                    refine g_iast hx hb hK hP hD hS (hC.1.1 13 (by decide)) F_never (vp_in_nI (by omega) (by decide)) dX6_campaign_164 (fun H locs hP hD hS => ?_)
                    obtain ⟨g_94, eg_94⟩ : ∃ z9, z9 = upd g_never (Int32.toNatClampNeg (nI nc)) x_93 := ⟨_, rfl⟩
                    rw [← eg_94] at hP hD
                    obtain ⟨f_95, ef_95⟩ : ∃ z9, z9 = va_up f_92 (rt 13) (.inl (K 0, 40, .inl g_94)) := ⟨_, rfl⟩
                    have hP : va_P (dC, dI) vwCl (va_pl L f_95) H := by rw [ef_95]; exact hP
                    have hD : va_D A (va_pl L f_95) := by rw [ef_95]; exact hD
                    have F_m_ : f_95 (rt 51) = .inr (6, fm) := by rw [ef_95, va_up_ne _ _ (fun q => absurd (hC.1.2 51 (by decide) 13 (by decide) q) (by decide))]; exact F_m
                    have F_sort_ : f_95 (rt 10) = .inl (K 0, 40, .inl g_85) := by rw [ef_95, va_up_ne _ _ (fun q => absurd (hC.1.2 10 (by decide) 13 (by decide) q) (by decide))]; exact F_sort
                    have F_pays_ : f_95 (rt 11) = .inl (K 0, 40, .inl g_88) := by rw [ef_95, va_up_ne _ _ (fun q => absurd (hC.1.2 11 (by decide) 13 (by decide) q) (by decide))]; exact F_pays
                    have F_must_ : f_95 (rt 12) = .inl (K 0, 40, .inl g_91) := by rw [ef_95, va_up_ne _ _ (fun q => absurd (hC.1.2 12 (by decide) 13 (by decide) q) (by decide))]; exact F_must
                    have F_bid_ : f_95 (rt 14) = .inl (K 0, 40, .inl g_bid) := by rw [ef_95, va_up_ne _ _ (fun q => absurd (hC.1.2 14 (by decide) 13 (by decide) q) (by decide))]; exact F_bid
                    have F_cap_ : f_95 (rt 17) = .inl (K 0, 40, .inl g_cap) := by rw [ef_95, va_up_ne _ _ (fun q => absurd (hC.1.2 17 (by decide) 13 (by decide) q) (by decide))]; exact F_cap
                    have F_span_ : f_95 (rt 18) = .inl (K 0, 40, .inl g_span) := by rw [ef_95, va_up_ne _ _ (fun q => absurd (hC.1.2 18 (by decide) 13 (by decide) q) (by decide))]; exact F_span
                    have F_throttle_ : f_95 (rt 19) = .inl (K 0, 40, .inl g_throttle) := by rw [ef_95, va_up_ne _ _ (fun q => absurd (hC.1.2 19 (by decide) 13 (by decide) q) (by decide))]; exact F_throttle
                    have F_promised_ : f_95 (rt 22) = .inl (K 0, 40, .inl g_promised) := by rw [ef_95, va_up_ne _ _ (fun q => absurd (hC.1.2 22 (by decide) 13 (by decide) q) (by decide))]; exact F_promised
                    have F_m := F_m_
                    have F_sort := F_sort_
                    have F_pays := F_pays_
                    have F_must := F_must_
                    have F_bid := F_bid_
                    have F_cap := F_cap_
                    have F_span := F_span_
                    have F_throttle := F_throttle_
                    have F_promised := F_promised_
                    have F_never : f_95 (rt 13) = .inl (K 0, 40, .inl g_94) := by rw [ef_95, va_up_self]
                    have hC : mC rt L f_95 fm := ⟨hC.1, F_m, hC.2.2.1, hC.2.2.2⟩
                    refine lv_aload_n hx hb dX6_campaign_165 rfl (lv_at hl 3 rfl) ?_
                    refine g_get (ci := 6) (v := .ref (rt 14)) (C := RX6) (T := TX6) (N := 51) hx hb hts uB6 hown hK hP (hC.1.1 51 (by decide)) F_m rfl 14 (by decide) wm_43 (hC.2.2.2 14 (by decide)) dX6_campaign_166 ?_
                    refine lv_iload hx hb dX6_campaign_169 (lv_at hl 0 rfl) ?_
                    refine lv_iload_n hx hb dX6_campaign_171 rfl (lv_at hl 6 rfl) ?_
                    refine g_iast hx hb hK hP hD hS (hC.1.1 14 (by decide)) F_bid (vp_in_nI (by omega) (by decide)) dX6_campaign_172 (fun H locs hP hD hS => ?_)
                    obtain ⟨g_96, eg_96⟩ : ∃ z9, z9 = upd g_bid (Int32.toNatClampNeg (nI nc)) z := ⟨_, rfl⟩
                    rw [← eg_96] at hP hD
                    obtain ⟨f_97, ef_97⟩ : ∃ z9, z9 = va_up f_95 (rt 14) (.inl (K 0, 40, .inl g_96)) := ⟨_, rfl⟩
                    have hP : va_P (dC, dI) vwCl (va_pl L f_97) H := by rw [ef_97]; exact hP
                    have hD : va_D A (va_pl L f_97) := by rw [ef_97]; exact hD
                    have F_m_ : f_97 (rt 51) = .inr (6, fm) := by rw [ef_97, va_up_ne _ _ (fun q => absurd (hC.1.2 51 (by decide) 14 (by decide) q) (by decide))]; exact F_m
                    have F_sort_ : f_97 (rt 10) = .inl (K 0, 40, .inl g_85) := by rw [ef_97, va_up_ne _ _ (fun q => absurd (hC.1.2 10 (by decide) 14 (by decide) q) (by decide))]; exact F_sort
                    have F_pays_ : f_97 (rt 11) = .inl (K 0, 40, .inl g_88) := by rw [ef_97, va_up_ne _ _ (fun q => absurd (hC.1.2 11 (by decide) 14 (by decide) q) (by decide))]; exact F_pays
                    have F_must_ : f_97 (rt 12) = .inl (K 0, 40, .inl g_91) := by rw [ef_97, va_up_ne _ _ (fun q => absurd (hC.1.2 12 (by decide) 14 (by decide) q) (by decide))]; exact F_must
                    have F_never_ : f_97 (rt 13) = .inl (K 0, 40, .inl g_94) := by rw [ef_97, va_up_ne _ _ (fun q => absurd (hC.1.2 13 (by decide) 14 (by decide) q) (by decide))]; exact F_never
                    have F_cap_ : f_97 (rt 17) = .inl (K 0, 40, .inl g_cap) := by rw [ef_97, va_up_ne _ _ (fun q => absurd (hC.1.2 17 (by decide) 14 (by decide) q) (by decide))]; exact F_cap
                    have F_span_ : f_97 (rt 18) = .inl (K 0, 40, .inl g_span) := by rw [ef_97, va_up_ne _ _ (fun q => absurd (hC.1.2 18 (by decide) 14 (by decide) q) (by decide))]; exact F_span
                    have F_throttle_ : f_97 (rt 19) = .inl (K 0, 40, .inl g_throttle) := by rw [ef_97, va_up_ne _ _ (fun q => absurd (hC.1.2 19 (by decide) 14 (by decide) q) (by decide))]; exact F_throttle
                    have F_promised_ : f_97 (rt 22) = .inl (K 0, 40, .inl g_promised) := by rw [ef_97, va_up_ne _ _ (fun q => absurd (hC.1.2 22 (by decide) 14 (by decide) q) (by decide))]; exact F_promised
                    have F_m := F_m_
                    have F_sort := F_sort_
                    have F_pays := F_pays_
                    have F_must := F_must_
                    have F_never := F_never_
                    have F_cap := F_cap_
                    have F_span := F_span_
                    have F_throttle := F_throttle_
                    have F_promised := F_promised_
                    have F_bid : f_97 (rt 14) = .inl (K 0, 40, .inl g_96) := by rw [ef_97, va_up_self]
                    have hC : mC rt L f_97 fm := ⟨hC.1, F_m, hC.2.2.1, hC.2.2.2⟩
                    refine lv_aload_n hx hb dX6_campaign_173 rfl (lv_at hl 3 rfl) ?_
                    refine g_get (ci := 6) (v := .ref (rt 17)) (C := RX6) (T := TX6) (N := 51) hx hb hts uB6 hown hK hP (hC.1.1 51 (by decide)) F_m rfl 17 (by decide) wm_33 (hC.2.2.2 17 (by decide)) dX6_campaign_174 ?_
                    refine lv_iload hx hb dX6_campaign_177 (lv_at hl 0 rfl) ?_
                    refine lv_bipush (v := 9) hx hb dX6_campaign_179 (by decide) ?_
                    refine g_iast hx hb hK hP hD hS (hC.1.1 17 (by decide)) F_cap (vp_in_nI (by omega) (by decide)) dX6_campaign_181 (fun H locs hP hD hS => ?_)
                    obtain ⟨g_98, eg_98⟩ : ∃ z9, z9 = upd g_cap (Int32.toNatClampNeg (nI nc)) 9 := ⟨_, rfl⟩
                    rw [← eg_98] at hP hD
                    obtain ⟨f_99, ef_99⟩ : ∃ z9, z9 = va_up f_97 (rt 17) (.inl (K 0, 40, .inl g_98)) := ⟨_, rfl⟩
                    have hP : va_P (dC, dI) vwCl (va_pl L f_99) H := by rw [ef_99]; exact hP
                    have hD : va_D A (va_pl L f_99) := by rw [ef_99]; exact hD
                    have F_m_ : f_99 (rt 51) = .inr (6, fm) := by rw [ef_99, va_up_ne _ _ (fun q => absurd (hC.1.2 51 (by decide) 17 (by decide) q) (by decide))]; exact F_m
                    have F_sort_ : f_99 (rt 10) = .inl (K 0, 40, .inl g_85) := by rw [ef_99, va_up_ne _ _ (fun q => absurd (hC.1.2 10 (by decide) 17 (by decide) q) (by decide))]; exact F_sort
                    have F_pays_ : f_99 (rt 11) = .inl (K 0, 40, .inl g_88) := by rw [ef_99, va_up_ne _ _ (fun q => absurd (hC.1.2 11 (by decide) 17 (by decide) q) (by decide))]; exact F_pays
                    have F_must_ : f_99 (rt 12) = .inl (K 0, 40, .inl g_91) := by rw [ef_99, va_up_ne _ _ (fun q => absurd (hC.1.2 12 (by decide) 17 (by decide) q) (by decide))]; exact F_must
                    have F_never_ : f_99 (rt 13) = .inl (K 0, 40, .inl g_94) := by rw [ef_99, va_up_ne _ _ (fun q => absurd (hC.1.2 13 (by decide) 17 (by decide) q) (by decide))]; exact F_never
                    have F_bid_ : f_99 (rt 14) = .inl (K 0, 40, .inl g_96) := by rw [ef_99, va_up_ne _ _ (fun q => absurd (hC.1.2 14 (by decide) 17 (by decide) q) (by decide))]; exact F_bid
                    have F_span_ : f_99 (rt 18) = .inl (K 0, 40, .inl g_span) := by rw [ef_99, va_up_ne _ _ (fun q => absurd (hC.1.2 18 (by decide) 17 (by decide) q) (by decide))]; exact F_span
                    have F_throttle_ : f_99 (rt 19) = .inl (K 0, 40, .inl g_throttle) := by rw [ef_99, va_up_ne _ _ (fun q => absurd (hC.1.2 19 (by decide) 17 (by decide) q) (by decide))]; exact F_throttle
                    have F_promised_ : f_99 (rt 22) = .inl (K 0, 40, .inl g_promised) := by rw [ef_99, va_up_ne _ _ (fun q => absurd (hC.1.2 22 (by decide) 17 (by decide) q) (by decide))]; exact F_promised
                    have F_m := F_m_
                    have F_sort := F_sort_
                    have F_pays := F_pays_
                    have F_must := F_must_
                    have F_never := F_never_
                    have F_bid := F_bid_
                    have F_span := F_span_
                    have F_throttle := F_throttle_
                    have F_promised := F_promised_
                    have F_cap : f_99 (rt 17) = .inl (K 0, 40, .inl g_98) := by rw [ef_99, va_up_self]
                    have hC : mC rt L f_99 fm := ⟨hC.1, F_m, hC.2.2.1, hC.2.2.2⟩
                    refine lv_aload_n hx hb dX6_campaign_182 rfl (lv_at hl 3 rfl) ?_
                    refine g_get (ci := 6) (v := .ref (rt 18)) (C := RX6) (T := TX6) (N := 51) hx hb hts uB6 hown hK hP (hC.1.1 51 (by decide)) F_m rfl 18 (by decide) wm_51 (hC.2.2.2 18 (by decide)) dX6_campaign_183 ?_
                    refine lv_iload hx hb dX6_campaign_186 (lv_at hl 0 rfl) ?_
                    refine lv_iconst (v := 1) hx hb dX6_campaign_188 (by decide) ?_
                    refine g_iast hx hb hK hP hD hS (hC.1.1 18 (by decide)) F_span (vp_in_nI (by omega) (by decide)) dX6_campaign_189 (fun H locs hP hD hS => ?_)
                    obtain ⟨g_100, eg_100⟩ : ∃ z9, z9 = upd g_span (Int32.toNatClampNeg (nI nc)) 1 := ⟨_, rfl⟩
                    rw [← eg_100] at hP hD
                    obtain ⟨f_101, ef_101⟩ : ∃ z9, z9 = va_up f_99 (rt 18) (.inl (K 0, 40, .inl g_100)) := ⟨_, rfl⟩
                    have hP : va_P (dC, dI) vwCl (va_pl L f_101) H := by rw [ef_101]; exact hP
                    have hD : va_D A (va_pl L f_101) := by rw [ef_101]; exact hD
                    have F_m_ : f_101 (rt 51) = .inr (6, fm) := by rw [ef_101, va_up_ne _ _ (fun q => absurd (hC.1.2 51 (by decide) 18 (by decide) q) (by decide))]; exact F_m
                    have F_sort_ : f_101 (rt 10) = .inl (K 0, 40, .inl g_85) := by rw [ef_101, va_up_ne _ _ (fun q => absurd (hC.1.2 10 (by decide) 18 (by decide) q) (by decide))]; exact F_sort
                    have F_pays_ : f_101 (rt 11) = .inl (K 0, 40, .inl g_88) := by rw [ef_101, va_up_ne _ _ (fun q => absurd (hC.1.2 11 (by decide) 18 (by decide) q) (by decide))]; exact F_pays
                    have F_must_ : f_101 (rt 12) = .inl (K 0, 40, .inl g_91) := by rw [ef_101, va_up_ne _ _ (fun q => absurd (hC.1.2 12 (by decide) 18 (by decide) q) (by decide))]; exact F_must
                    have F_never_ : f_101 (rt 13) = .inl (K 0, 40, .inl g_94) := by rw [ef_101, va_up_ne _ _ (fun q => absurd (hC.1.2 13 (by decide) 18 (by decide) q) (by decide))]; exact F_never
                    have F_bid_ : f_101 (rt 14) = .inl (K 0, 40, .inl g_96) := by rw [ef_101, va_up_ne _ _ (fun q => absurd (hC.1.2 14 (by decide) 18 (by decide) q) (by decide))]; exact F_bid
                    have F_cap_ : f_101 (rt 17) = .inl (K 0, 40, .inl g_98) := by rw [ef_101, va_up_ne _ _ (fun q => absurd (hC.1.2 17 (by decide) 18 (by decide) q) (by decide))]; exact F_cap
                    have F_throttle_ : f_101 (rt 19) = .inl (K 0, 40, .inl g_throttle) := by rw [ef_101, va_up_ne _ _ (fun q => absurd (hC.1.2 19 (by decide) 18 (by decide) q) (by decide))]; exact F_throttle
                    have F_promised_ : f_101 (rt 22) = .inl (K 0, 40, .inl g_promised) := by rw [ef_101, va_up_ne _ _ (fun q => absurd (hC.1.2 22 (by decide) 18 (by decide) q) (by decide))]; exact F_promised
                    have F_m := F_m_
                    have F_sort := F_sort_
                    have F_pays := F_pays_
                    have F_must := F_must_
                    have F_never := F_never_
                    have F_bid := F_bid_
                    have F_cap := F_cap_
                    have F_throttle := F_throttle_
                    have F_promised := F_promised_
                    have F_span : f_101 (rt 18) = .inl (K 0, 40, .inl g_100) := by rw [ef_101, va_up_self]
                    have hC : mC rt L f_101 fm := ⟨hC.1, F_m, hC.2.2.1, hC.2.2.2⟩
                    refine lv_aload_n hx hb dX6_campaign_190 rfl (lv_at hl 3 rfl) ?_
                    refine g_get (ci := 6) (v := .ref (rt 19)) (C := RX6) (T := TX6) (N := 51) hx hb hts uB6 hown hK hP (hC.1.1 51 (by decide)) F_m rfl 19 (by decide) wm_38 (hC.2.2.2 19 (by decide)) dX6_campaign_191 ?_
                    refine lv_iload hx hb dX6_campaign_194 (lv_at hl 0 rfl) ?_
                    refine lv_sipush (v := 1000) hx hb dX6_campaign_196 (by decide) ?_
                    refine g_iast hx hb hK hP hD hS (hC.1.1 19 (by decide)) F_throttle (vp_in_nI (by omega) (by decide)) dX6_campaign_199 (fun H locs hP hD hS => ?_)
                    obtain ⟨g_102, eg_102⟩ : ∃ z9, z9 = upd g_throttle (Int32.toNatClampNeg (nI nc)) 1000 := ⟨_, rfl⟩
                    rw [← eg_102] at hP hD
                    obtain ⟨f_103, ef_103⟩ : ∃ z9, z9 = va_up f_101 (rt 19) (.inl (K 0, 40, .inl g_102)) := ⟨_, rfl⟩
                    have hP : va_P (dC, dI) vwCl (va_pl L f_103) H := by rw [ef_103]; exact hP
                    have hD : va_D A (va_pl L f_103) := by rw [ef_103]; exact hD
                    have F_m_ : f_103 (rt 51) = .inr (6, fm) := by rw [ef_103, va_up_ne _ _ (fun q => absurd (hC.1.2 51 (by decide) 19 (by decide) q) (by decide))]; exact F_m
                    have F_sort_ : f_103 (rt 10) = .inl (K 0, 40, .inl g_85) := by rw [ef_103, va_up_ne _ _ (fun q => absurd (hC.1.2 10 (by decide) 19 (by decide) q) (by decide))]; exact F_sort
                    have F_pays_ : f_103 (rt 11) = .inl (K 0, 40, .inl g_88) := by rw [ef_103, va_up_ne _ _ (fun q => absurd (hC.1.2 11 (by decide) 19 (by decide) q) (by decide))]; exact F_pays
                    have F_must_ : f_103 (rt 12) = .inl (K 0, 40, .inl g_91) := by rw [ef_103, va_up_ne _ _ (fun q => absurd (hC.1.2 12 (by decide) 19 (by decide) q) (by decide))]; exact F_must
                    have F_never_ : f_103 (rt 13) = .inl (K 0, 40, .inl g_94) := by rw [ef_103, va_up_ne _ _ (fun q => absurd (hC.1.2 13 (by decide) 19 (by decide) q) (by decide))]; exact F_never
                    have F_bid_ : f_103 (rt 14) = .inl (K 0, 40, .inl g_96) := by rw [ef_103, va_up_ne _ _ (fun q => absurd (hC.1.2 14 (by decide) 19 (by decide) q) (by decide))]; exact F_bid
                    have F_cap_ : f_103 (rt 17) = .inl (K 0, 40, .inl g_98) := by rw [ef_103, va_up_ne _ _ (fun q => absurd (hC.1.2 17 (by decide) 19 (by decide) q) (by decide))]; exact F_cap
                    have F_span_ : f_103 (rt 18) = .inl (K 0, 40, .inl g_100) := by rw [ef_103, va_up_ne _ _ (fun q => absurd (hC.1.2 18 (by decide) 19 (by decide) q) (by decide))]; exact F_span
                    have F_promised_ : f_103 (rt 22) = .inl (K 0, 40, .inl g_promised) := by rw [ef_103, va_up_ne _ _ (fun q => absurd (hC.1.2 22 (by decide) 19 (by decide) q) (by decide))]; exact F_promised
                    have F_m := F_m_
                    have F_sort := F_sort_
                    have F_pays := F_pays_
                    have F_must := F_must_
                    have F_never := F_never_
                    have F_bid := F_bid_
                    have F_cap := F_cap_
                    have F_span := F_span_
                    have F_promised := F_promised_
                    have F_throttle : f_103 (rt 19) = .inl (K 0, 40, .inl g_102) := by rw [ef_103, va_up_self]
                    have hC : mC rt L f_103 fm := ⟨hC.1, F_m, hC.2.2.1, hC.2.2.2⟩
                    refine lv_aload_n hx hb dX6_campaign_200 rfl (lv_at hl 3 rfl) ?_
                    refine g_get (ci := 6) (v := .ref (rt 22)) (C := RX6) (T := TX6) (N := 51) hx hb hts uB6 hown hK hP (hC.1.1 51 (by decide)) F_m rfl 22 (by decide) wm_22 (hC.2.2.2 22 (by decide)) dX6_campaign_201 ?_
                    refine lv_iload hx hb dX6_campaign_204 (lv_at hl 0 rfl) ?_
                    refine lv_iconst (v := 0) hx hb dX6_campaign_206 (by decide) ?_
                    refine g_iast hx hb hK hP hD hS (hC.1.1 22 (by decide)) F_promised (vp_in_nI (by omega) (by decide)) dX6_campaign_207 (fun H locs hP hD hS => ?_)
                    obtain ⟨g_104, eg_104⟩ : ∃ z9, z9 = upd g_promised (Int32.toNatClampNeg (nI nc)) 0 := ⟨_, rfl⟩
                    rw [← eg_104] at hP hD
                    obtain ⟨f_105, ef_105⟩ : ∃ z9, z9 = va_up f_103 (rt 22) (.inl (K 0, 40, .inl g_104)) := ⟨_, rfl⟩
                    have hP : va_P (dC, dI) vwCl (va_pl L f_105) H := by rw [ef_105]; exact hP
                    have hD : va_D A (va_pl L f_105) := by rw [ef_105]; exact hD
                    have F_m_ : f_105 (rt 51) = .inr (6, fm) := by rw [ef_105, va_up_ne _ _ (fun q => absurd (hC.1.2 51 (by decide) 22 (by decide) q) (by decide))]; exact F_m
                    have F_sort_ : f_105 (rt 10) = .inl (K 0, 40, .inl g_85) := by rw [ef_105, va_up_ne _ _ (fun q => absurd (hC.1.2 10 (by decide) 22 (by decide) q) (by decide))]; exact F_sort
                    have F_pays_ : f_105 (rt 11) = .inl (K 0, 40, .inl g_88) := by rw [ef_105, va_up_ne _ _ (fun q => absurd (hC.1.2 11 (by decide) 22 (by decide) q) (by decide))]; exact F_pays
                    have F_must_ : f_105 (rt 12) = .inl (K 0, 40, .inl g_91) := by rw [ef_105, va_up_ne _ _ (fun q => absurd (hC.1.2 12 (by decide) 22 (by decide) q) (by decide))]; exact F_must
                    have F_never_ : f_105 (rt 13) = .inl (K 0, 40, .inl g_94) := by rw [ef_105, va_up_ne _ _ (fun q => absurd (hC.1.2 13 (by decide) 22 (by decide) q) (by decide))]; exact F_never
                    have F_bid_ : f_105 (rt 14) = .inl (K 0, 40, .inl g_96) := by rw [ef_105, va_up_ne _ _ (fun q => absurd (hC.1.2 14 (by decide) 22 (by decide) q) (by decide))]; exact F_bid
                    have F_cap_ : f_105 (rt 17) = .inl (K 0, 40, .inl g_98) := by rw [ef_105, va_up_ne _ _ (fun q => absurd (hC.1.2 17 (by decide) 22 (by decide) q) (by decide))]; exact F_cap
                    have F_span_ : f_105 (rt 18) = .inl (K 0, 40, .inl g_100) := by rw [ef_105, va_up_ne _ _ (fun q => absurd (hC.1.2 18 (by decide) 22 (by decide) q) (by decide))]; exact F_span
                    have F_throttle_ : f_105 (rt 19) = .inl (K 0, 40, .inl g_102) := by rw [ef_105, va_up_ne _ _ (fun q => absurd (hC.1.2 19 (by decide) 22 (by decide) q) (by decide))]; exact F_throttle
                    have F_m := F_m_
                    have F_sort := F_sort_
                    have F_pays := F_pays_
                    have F_must := F_must_
                    have F_never := F_never_
                    have F_bid := F_bid_
                    have F_cap := F_cap_
                    have F_span := F_span_
                    have F_throttle := F_throttle_
                    have F_promised : f_105 (rt 22) = .inl (K 0, 40, .inl g_104) := by rw [ef_105, va_up_self]
                    have hC : mC rt L f_105 fm := ⟨hC.1, F_m, hC.2.2.1, hC.2.2.2⟩
                    refine lv_aload_n hx hb dX6_campaign_208 rfl (lv_at hl 3 rfl) ?_
                    refine lv_dup hx hb dX6_campaign_209 rfl ?_
                    refine g_get (ci := 6) (v := .int (nI nc)) (C := RX6) (T := TX6) (N := 51) hx hb hts uB6 hown hK hP (hC.1.1 51 (by decide)) F_m rfl 9 (by decide) wm_76 I_campaigns dX6_campaign_210 ?_
                    refine lv_iconst (v := 1) hx hb dX6_campaign_213 (by decide) ?_
                    refine lv_iadd hx hb dX6_campaign_214 ?_
                    refine lv_topi (fun x_106 ex_106 => ?_)
                    obtain rfl : x_106 = nI (nc + 1) := ex_106.trans (nI_1 nc)
                    refine g_put (ci := 6) (v := .int (nI (nc + 1))) (ty := .int) (C := RX6) (T := TX6) (N := 51) hx hb hts uB6 tyX6 tyX6_ok nmX6 hown hK hP hD hS (hC.1.1 51 (by decide)) F_m rfl 9 (by decide) wm_76 rfl (by decide +kernel) rfl rfl (by rw [hC.2.2.1]; decide) dX6_campaign_215 (fun H locs hP hD hS => ?_)
                    obtain ⟨fs_107, efs_107⟩ : ∃ z9, z9 = List.set fm 9 (.int (nI (nc + 1))) := ⟨_, rfl⟩
                    rw [← efs_107] at hP hD
                    have hlen_ : fs_107.length = 51 := by rw [efs_107, List.length_set]; exact hC.2.2.1
                    have I_campaigns : fs_107[9]? = some (.int (nI (nc + 1))) := by rw [efs_107]; exact List.getElem?_set_self (by rw [hC.2.2.1]; decide)
                    have hmr_ : ∀ k ∈ mArr, fs_107[k]? = some (.ref (rt k)) := fun k h => by rw [efs_107, List.getElem?_set_ne (fun q => by rw [← q] at h; exact absurd h (by decide))]; exact hC.2.2.2 k h
                    obtain ⟨f_108, ef_108⟩ : ∃ z9, z9 = va_up f_105 (rt 51) (.inr (6, fs_107)) := ⟨_, rfl⟩
                    have hP : va_P (dC, dI) vwCl (va_pl L f_108) H := by rw [ef_108]; exact hP
                    have hD : va_D A (va_pl L f_108) := by rw [ef_108]; exact hD
                    have F_sort_ : f_108 (rt 10) = .inl (K 0, 40, .inl g_85) := by rw [ef_108, va_up_ne _ _ (fun q => absurd (hC.1.2 10 (by decide) 51 (by decide) q) (by decide))]; exact F_sort
                    have F_pays_ : f_108 (rt 11) = .inl (K 0, 40, .inl g_88) := by rw [ef_108, va_up_ne _ _ (fun q => absurd (hC.1.2 11 (by decide) 51 (by decide) q) (by decide))]; exact F_pays
                    have F_must_ : f_108 (rt 12) = .inl (K 0, 40, .inl g_91) := by rw [ef_108, va_up_ne _ _ (fun q => absurd (hC.1.2 12 (by decide) 51 (by decide) q) (by decide))]; exact F_must
                    have F_never_ : f_108 (rt 13) = .inl (K 0, 40, .inl g_94) := by rw [ef_108, va_up_ne _ _ (fun q => absurd (hC.1.2 13 (by decide) 51 (by decide) q) (by decide))]; exact F_never
                    have F_bid_ : f_108 (rt 14) = .inl (K 0, 40, .inl g_96) := by rw [ef_108, va_up_ne _ _ (fun q => absurd (hC.1.2 14 (by decide) 51 (by decide) q) (by decide))]; exact F_bid
                    have F_cap_ : f_108 (rt 17) = .inl (K 0, 40, .inl g_98) := by rw [ef_108, va_up_ne _ _ (fun q => absurd (hC.1.2 17 (by decide) 51 (by decide) q) (by decide))]; exact F_cap
                    have F_span_ : f_108 (rt 18) = .inl (K 0, 40, .inl g_100) := by rw [ef_108, va_up_ne _ _ (fun q => absurd (hC.1.2 18 (by decide) 51 (by decide) q) (by decide))]; exact F_span
                    have F_throttle_ : f_108 (rt 19) = .inl (K 0, 40, .inl g_102) := by rw [ef_108, va_up_ne _ _ (fun q => absurd (hC.1.2 19 (by decide) 51 (by decide) q) (by decide))]; exact F_throttle
                    have F_promised_ : f_108 (rt 22) = .inl (K 0, 40, .inl g_104) := by rw [ef_108, va_up_ne _ _ (fun q => absurd (hC.1.2 22 (by decide) 51 (by decide) q) (by decide))]; exact F_promised
                    have F_sort := F_sort_
                    have F_pays := F_pays_
                    have F_must := F_must_
                    have F_never := F_never_
                    have F_bid := F_bid_
                    have F_cap := F_cap_
                    have F_span := F_span_
                    have F_throttle := F_throttle_
                    have F_promised := F_promised_
                    have F_m : f_108 (rt 51) = .inr (6, fs_107) := by rw [ef_108, va_up_self]
                    have hC : mC rt L f_108 fs_107 := ⟨hC.1, F_m, hlen_, hmr_⟩
                    refine lv_iload hx hb dX6_campaign_218 (lv_at hl 0 rfl) ?_
                    exact W.iret (v := nI nc) hx hb hr (fun t ht hW => ⟨⟨nI nc, f_108, rfl, (Or.inr (Or.inr ⟨(by subst ex_1 ex_5 ex_80 ex_81 ex_82 ex_87 ex_90 ex_93; have h1 := k_cp1 x; have h2 := k_cp2 y; simp only [Int32.lt_iff_toInt_lt, Int32.le_iff_toInt_le, ← Int32.toInt_inj, Int32.reduceToInt] at h1 h2 c_2 g_4 c_6 g_74 g_76 c_77 g_79 c_83; unfold cpOk; simp only [Int32.lt_iff_toInt_lt, Int32.le_iff_toInt_le, ← Int32.toInt_inj, Int32.reduceToInt]; omega), hfl, rfl, by rw [ef_108, efs_107, ef_105, eg_104, ef_103, eg_102, ef_101, eg_100, ef_99, eg_98, ef_97, eg_96, ef_95, eg_94, ef_92, eg_91, ef_89, eg_88, ef_86, eg_85]; subst ex_93 ex_90 ex_87 ex_82 ex_81 ex_80 ex_5 ex_1; rfl⟩)), by show va_P (dC, dI) vwCl (va_pl L f_108) t.heap; rw [ht]; exact hP⟩, hS.F ht⟩) hS.2.2 dX6_campaign_220
                  · skip
                    have hfl : nc = 40 := (nI_eq (by omega) (by decide)).mp c_84
                    refine lv_bipush (v := (-3)) hx hb dX6_campaign_112 (by decide) ?_
                    exact W.iret (v := (-3)) hx hb hr (fun t ht hW => ⟨⟨(-3), f, rfl, (Or.inr (Or.inl ⟨(by subst ex_1 ex_5 ex_80 ex_81 ex_82; have h1 := k_cp1 x; have h2 := k_cp2 y; simp only [Int32.lt_iff_toInt_lt, Int32.le_iff_toInt_le, ← Int32.toInt_inj, Int32.reduceToInt] at h1 h2 c_2 g_4 c_6 g_74 g_76 c_77 g_79 c_83; unfold cpOk; simp only [Int32.lt_iff_toInt_lt, Int32.le_iff_toInt_le, ← Int32.toInt_inj, Int32.reduceToInt]; omega), hfl, rfl, rfl⟩)), by show va_P (dC, dI) vwCl (va_pl L f) t.heap; rw [ht]; exact hP⟩, hS.F ht⟩) hS.2.2 dX6_campaign_114
                · skip
                  refine lv_iconst (v := (-1)) hx hb dX6_campaign_101 (by decide) ?_
                  exact W.iret (v := (-1)) hx hb hr (fun t ht hW => ⟨⟨(-1), f, rfl, (Or.inl ⟨(by subst ex_1 ex_5 ex_80 ex_81 ex_82; have h1 := k_cp1 x; have h2 := k_cp2 y; simp only [Int32.lt_iff_toInt_lt, Int32.le_iff_toInt_le, ← Int32.toInt_inj, Int32.reduceToInt] at h1 h2 c_2 g_4 c_6 g_74 g_76 c_77 g_79 c_83; unfold cpOk; simp only [Int32.lt_iff_toInt_lt, Int32.le_iff_toInt_le, ← Int32.toInt_inj, Int32.reduceToInt]; omega), rfl, rfl⟩), by show va_P (dC, dI) vwCl (va_pl L f) t.heap; rw [ht]; exact hP⟩, hS.F ht⟩) hS.2.2 dX6_campaign_102
            · skip
              refine lv_iload_n hx hb dX6_campaign_57 rfl (lv_at hl 4 rfl) ?_
              refine lv_if_ne (tgt := 79) hx hb dX6_campaign_58 (by decide) (fun c_109 => ?_) (fun c_109 => ?_)
              · skip
                refine lv_iconst (v := 0) hx hb dX6_campaign_79 (by decide) ?_
                refine lv_istore (lv' := [(5, .int 0), (4, .int x_1), (0, .ref (rt 51)), (1, .int x), (2, .int y), (3, .int z)]) hx hb dX6_campaign_80 hl (by decide) rfl (fun ls hl => ?_)
                refine lv_iload hx hb dX6_campaign_82 (lv_at hl 0 rfl) ?_
                refine lv_if_eq (tgt := 101) hx hb dX6_campaign_84 (by decide) (fun _ => ?_) (fun h9 => absurd (by decide) h9)
                refine lv_iconst (v := (-1)) hx hb dX6_campaign_101 (by decide) ?_
                exact W.iret (v := (-1)) hx hb hr (fun t ht hW => ⟨⟨(-1), f, rfl, (Or.inl ⟨(by subst ex_1 ex_5; have h1 := k_cp1 x; have h2 := k_cp2 y; simp only [Int32.lt_iff_toInt_lt, Int32.le_iff_toInt_le, ← Int32.toInt_inj, Int32.reduceToInt] at h1 h2 c_2 g_4 c_6 g_74 g_76 c_77 c_109; unfold cpOk; simp only [Int32.lt_iff_toInt_lt, Int32.le_iff_toInt_le, ← Int32.toInt_inj, Int32.reduceToInt]; omega), rfl, rfl⟩), by show va_P (dC, dI) vwCl (va_pl L f) t.heap; rw [ht]; exact hP⟩, hS.F ht⟩) hS.2.2 dX6_campaign_102
              · skip
                refine lv_goto (tgt := 75) hx hb dX6_campaign_61 (by decide) ?_
                refine lv_iconst (v := 1) hx hb dX6_campaign_75 (by decide) ?_
                refine lv_goto (tgt := 80) hx hb dX6_campaign_76 (by decide) ?_
                refine lv_istore (lv' := [(5, .int 1), (4, .int x_1), (0, .ref (rt 51)), (1, .int x), (2, .int y), (3, .int z)]) hx hb dX6_campaign_80 hl (by decide) rfl (fun ls hl => ?_)
                refine lv_iload hx hb dX6_campaign_82 (lv_at hl 0 rfl) ?_
                refine lv_if_eq (tgt := 101) hx hb dX6_campaign_84 (by decide) (fun h9 => absurd h9 (by decide)) (fun _ => ?_)
                refine lv_iload_n hx hb dX6_campaign_87 rfl (lv_at hl 4 rfl) ?_
                refine lv_sipush (v := 4096) hx hb dX6_campaign_88 (by decide) ?_
                refine lv_idiv hx hb dX6_campaign_91 (by decide) ?_
                refine lv_topi (fun x_110 ex_110 => ?_)
                refine lv_iload_n hx hb dX6_campaign_92 rfl (lv_at hl 4 rfl) ?_
                refine lv_sipush (v := 4096) hx hb dX6_campaign_93 (by decide) ?_
                refine lv_irem hx hb dX6_campaign_96 (by decide) ?_
                refine lv_topi (fun x_111 ex_111 => ?_)
                refine lv_iand hx hb dX6_campaign_97 ?_
                refine lv_topi (fun x_112 ex_112 => ?_)
                refine lv_if_eq (tgt := 103) hx hb dX6_campaign_98 (by decide) (fun c_113 => ?_) (fun c_113 => ?_)
                · skip
                  refine lv_aload_n hx hb dX6_campaign_103 rfl (lv_at hl 2 rfl) ?_
                  refine g_get (ci := 6) (v := .int (nI nc)) (C := RX6) (T := TX6) (N := 51) hx hb hts uB6 hown hK hP (hC.1.1 51 (by decide)) F_m rfl 9 (by decide) wm_76 I_campaigns dX6_campaign_104 ?_
                  refine lv_bipush (v := 40) hx hb dX6_campaign_107 (by decide) ?_
                  refine lv_icmp_ne (tgt := 115) hx hb dX6_campaign_109 (by decide) (fun c_114 => ?_) (fun c_114 => ?_)
                  · skip
                    have hfl : nc < 40 := Nat.lt_of_le_of_ne hnc (fun q => c_114 (by rw [q]; rfl))
                    refine lv_aload_n hx hb dX6_campaign_115 rfl (lv_at hl 2 rfl) ?_
                    refine g_get (ci := 6) (v := .int (nI nc)) (C := RX6) (T := TX6) (N := 51) hx hb hts uB6 hown hK hP (hC.1.1 51 (by decide)) F_m rfl 9 (by decide) wm_76 I_campaigns dX6_campaign_116 ?_
                    refine lv_istore (lv' := [(6, .int (nI nc)), (5, .int 1), (4, .int x_1), (0, .ref (rt 51)), (1, .int x), (2, .int y), (3, .int z)]) hx hb dX6_campaign_119 hl (by decide) rfl (fun ls hl => ?_)
                    refine lv_aload_n hx hb dX6_campaign_121 rfl (lv_at hl 3 rfl) ?_
                    refine g_get (ci := 6) (v := .ref (rt 10)) (C := RX6) (T := TX6) (N := 51) hx hb hts uB6 hown hK hP (hC.1.1 51 (by decide)) F_m rfl 10 (by decide) wm_21 (hC.2.2.2 10 (by decide)) dX6_campaign_122 ?_
                    refine lv_iload hx hb dX6_campaign_125 (lv_at hl 0 rfl) ?_
                    refine lv_iload hx hb dX6_campaign_127 (lv_at hl 2 rfl) ?_
                    refine g_iast hx hb hK hP hD hS (hC.1.1 10 (by decide)) F_sort (vp_in_nI (by omega) (by decide)) dX6_campaign_129 (fun H locs hP hD hS => ?_)
                    obtain ⟨g_115, eg_115⟩ : ∃ z9, z9 = upd g_sort (Int32.toNatClampNeg (nI nc)) x_1 := ⟨_, rfl⟩
                    rw [← eg_115] at hP hD
                    obtain ⟨f_116, ef_116⟩ : ∃ z9, z9 = va_up f (rt 10) (.inl (K 0, 40, .inl g_115)) := ⟨_, rfl⟩
                    have hP : va_P (dC, dI) vwCl (va_pl L f_116) H := by rw [ef_116]; exact hP
                    have hD : va_D A (va_pl L f_116) := by rw [ef_116]; exact hD
                    have F_m_ : f_116 (rt 51) = .inr (6, fm) := by rw [ef_116, va_up_ne _ _ (fun q => absurd (hC.1.2 51 (by decide) 10 (by decide) q) (by decide))]; exact F_m
                    have F_pays_ : f_116 (rt 11) = .inl (K 0, 40, .inl g_pays) := by rw [ef_116, va_up_ne _ _ (fun q => absurd (hC.1.2 11 (by decide) 10 (by decide) q) (by decide))]; exact F_pays
                    have F_must_ : f_116 (rt 12) = .inl (K 0, 40, .inl g_must) := by rw [ef_116, va_up_ne _ _ (fun q => absurd (hC.1.2 12 (by decide) 10 (by decide) q) (by decide))]; exact F_must
                    have F_never_ : f_116 (rt 13) = .inl (K 0, 40, .inl g_never) := by rw [ef_116, va_up_ne _ _ (fun q => absurd (hC.1.2 13 (by decide) 10 (by decide) q) (by decide))]; exact F_never
                    have F_bid_ : f_116 (rt 14) = .inl (K 0, 40, .inl g_bid) := by rw [ef_116, va_up_ne _ _ (fun q => absurd (hC.1.2 14 (by decide) 10 (by decide) q) (by decide))]; exact F_bid
                    have F_cap_ : f_116 (rt 17) = .inl (K 0, 40, .inl g_cap) := by rw [ef_116, va_up_ne _ _ (fun q => absurd (hC.1.2 17 (by decide) 10 (by decide) q) (by decide))]; exact F_cap
                    have F_span_ : f_116 (rt 18) = .inl (K 0, 40, .inl g_span) := by rw [ef_116, va_up_ne _ _ (fun q => absurd (hC.1.2 18 (by decide) 10 (by decide) q) (by decide))]; exact F_span
                    have F_throttle_ : f_116 (rt 19) = .inl (K 0, 40, .inl g_throttle) := by rw [ef_116, va_up_ne _ _ (fun q => absurd (hC.1.2 19 (by decide) 10 (by decide) q) (by decide))]; exact F_throttle
                    have F_promised_ : f_116 (rt 22) = .inl (K 0, 40, .inl g_promised) := by rw [ef_116, va_up_ne _ _ (fun q => absurd (hC.1.2 22 (by decide) 10 (by decide) q) (by decide))]; exact F_promised
                    have F_m := F_m_
                    have F_pays := F_pays_
                    have F_must := F_must_
                    have F_never := F_never_
                    have F_bid := F_bid_
                    have F_cap := F_cap_
                    have F_span := F_span_
                    have F_throttle := F_throttle_
                    have F_promised := F_promised_
                    have F_sort : f_116 (rt 10) = .inl (K 0, 40, .inl g_115) := by rw [ef_116, va_up_self]
                    have hC : mC rt L f_116 fm := ⟨hC.1, F_m, hC.2.2.1, hC.2.2.2⟩
                    refine lv_aload_n hx hb dX6_campaign_130 rfl (lv_at hl 3 rfl) ?_
                    refine g_get (ci := 6) (v := .ref (rt 11)) (C := RX6) (T := TX6) (N := 51) hx hb hts uB6 hown hK hP (hC.1.1 51 (by decide)) F_m rfl 11 (by decide) wm_1 (hC.2.2.2 11 (by decide)) dX6_campaign_131 ?_
                    refine lv_iload hx hb dX6_campaign_134 (lv_at hl 0 rfl) ?_
                    refine lv_iload_n hx hb dX6_campaign_136 rfl (lv_at hl 4 rfl) ?_
                    refine lv_bipush (v := 10) hx hb dX6_campaign_137 (by decide) ?_
                    refine lv_irem hx hb dX6_campaign_139 (by decide) ?_
                    refine lv_topi (fun x_117 ex_117 => ?_)
                    refine g_iast hx hb hK hP hD hS (hC.1.1 11 (by decide)) F_pays (vp_in_nI (by omega) (by decide)) dX6_campaign_140 (fun H locs hP hD hS => ?_)
                    obtain ⟨g_118, eg_118⟩ : ∃ z9, z9 = upd g_pays (Int32.toNatClampNeg (nI nc)) x_117 := ⟨_, rfl⟩
                    rw [← eg_118] at hP hD
                    obtain ⟨f_119, ef_119⟩ : ∃ z9, z9 = va_up f_116 (rt 11) (.inl (K 0, 40, .inl g_118)) := ⟨_, rfl⟩
                    have hP : va_P (dC, dI) vwCl (va_pl L f_119) H := by rw [ef_119]; exact hP
                    have hD : va_D A (va_pl L f_119) := by rw [ef_119]; exact hD
                    have F_m_ : f_119 (rt 51) = .inr (6, fm) := by rw [ef_119, va_up_ne _ _ (fun q => absurd (hC.1.2 51 (by decide) 11 (by decide) q) (by decide))]; exact F_m
                    have F_sort_ : f_119 (rt 10) = .inl (K 0, 40, .inl g_115) := by rw [ef_119, va_up_ne _ _ (fun q => absurd (hC.1.2 10 (by decide) 11 (by decide) q) (by decide))]; exact F_sort
                    have F_must_ : f_119 (rt 12) = .inl (K 0, 40, .inl g_must) := by rw [ef_119, va_up_ne _ _ (fun q => absurd (hC.1.2 12 (by decide) 11 (by decide) q) (by decide))]; exact F_must
                    have F_never_ : f_119 (rt 13) = .inl (K 0, 40, .inl g_never) := by rw [ef_119, va_up_ne _ _ (fun q => absurd (hC.1.2 13 (by decide) 11 (by decide) q) (by decide))]; exact F_never
                    have F_bid_ : f_119 (rt 14) = .inl (K 0, 40, .inl g_bid) := by rw [ef_119, va_up_ne _ _ (fun q => absurd (hC.1.2 14 (by decide) 11 (by decide) q) (by decide))]; exact F_bid
                    have F_cap_ : f_119 (rt 17) = .inl (K 0, 40, .inl g_cap) := by rw [ef_119, va_up_ne _ _ (fun q => absurd (hC.1.2 17 (by decide) 11 (by decide) q) (by decide))]; exact F_cap
                    have F_span_ : f_119 (rt 18) = .inl (K 0, 40, .inl g_span) := by rw [ef_119, va_up_ne _ _ (fun q => absurd (hC.1.2 18 (by decide) 11 (by decide) q) (by decide))]; exact F_span
                    have F_throttle_ : f_119 (rt 19) = .inl (K 0, 40, .inl g_throttle) := by rw [ef_119, va_up_ne _ _ (fun q => absurd (hC.1.2 19 (by decide) 11 (by decide) q) (by decide))]; exact F_throttle
                    have F_promised_ : f_119 (rt 22) = .inl (K 0, 40, .inl g_promised) := by rw [ef_119, va_up_ne _ _ (fun q => absurd (hC.1.2 22 (by decide) 11 (by decide) q) (by decide))]; exact F_promised
                    have F_m := F_m_
                    have F_sort := F_sort_
                    have F_must := F_must_
                    have F_never := F_never_
                    have F_bid := F_bid_
                    have F_cap := F_cap_
                    have F_span := F_span_
                    have F_throttle := F_throttle_
                    have F_promised := F_promised_
                    have F_pays : f_119 (rt 11) = .inl (K 0, 40, .inl g_118) := by rw [ef_119, va_up_self]
                    have hC : mC rt L f_119 fm := ⟨hC.1, F_m, hC.2.2.1, hC.2.2.2⟩
                    refine lv_aload_n hx hb dX6_campaign_141 rfl (lv_at hl 3 rfl) ?_
                    refine g_get (ci := 6) (v := .ref (rt 12)) (C := RX6) (T := TX6) (N := 51) hx hb hts uB6 hown hK hP (hC.1.1 51 (by decide)) F_m rfl 12 (by decide) wm_31 (hC.2.2.2 12 (by decide)) dX6_campaign_142 ?_
                    refine lv_iload hx hb dX6_campaign_145 (lv_at hl 0 rfl) ?_
                    refine lv_iload_n hx hb dX6_campaign_147 rfl (lv_at hl 5 rfl) ?_
                    refine lv_sipush (v := 4096) hx hb dX6_campaign_148 (by decide) ?_
                    refine lv_idiv hx hb dX6_campaign_151 (by decide) ?_
                    refine lv_topi (fun x_120 ex_120 => ?_)
                    refine g_iast hx hb hK hP hD hS (hC.1.1 12 (by decide)) F_must (vp_in_nI (by omega) (by decide)) dX6_campaign_152 (fun H locs hP hD hS => ?_)
                    obtain ⟨g_121, eg_121⟩ : ∃ z9, z9 = upd g_must (Int32.toNatClampNeg (nI nc)) x_120 := ⟨_, rfl⟩
                    rw [← eg_121] at hP hD
                    obtain ⟨f_122, ef_122⟩ : ∃ z9, z9 = va_up f_119 (rt 12) (.inl (K 0, 40, .inl g_121)) := ⟨_, rfl⟩
                    have hP : va_P (dC, dI) vwCl (va_pl L f_122) H := by rw [ef_122]; exact hP
                    have hD : va_D A (va_pl L f_122) := by rw [ef_122]; exact hD
                    have F_m_ : f_122 (rt 51) = .inr (6, fm) := by rw [ef_122, va_up_ne _ _ (fun q => absurd (hC.1.2 51 (by decide) 12 (by decide) q) (by decide))]; exact F_m
                    have F_sort_ : f_122 (rt 10) = .inl (K 0, 40, .inl g_115) := by rw [ef_122, va_up_ne _ _ (fun q => absurd (hC.1.2 10 (by decide) 12 (by decide) q) (by decide))]; exact F_sort
                    have F_pays_ : f_122 (rt 11) = .inl (K 0, 40, .inl g_118) := by rw [ef_122, va_up_ne _ _ (fun q => absurd (hC.1.2 11 (by decide) 12 (by decide) q) (by decide))]; exact F_pays
                    have F_never_ : f_122 (rt 13) = .inl (K 0, 40, .inl g_never) := by rw [ef_122, va_up_ne _ _ (fun q => absurd (hC.1.2 13 (by decide) 12 (by decide) q) (by decide))]; exact F_never
                    have F_bid_ : f_122 (rt 14) = .inl (K 0, 40, .inl g_bid) := by rw [ef_122, va_up_ne _ _ (fun q => absurd (hC.1.2 14 (by decide) 12 (by decide) q) (by decide))]; exact F_bid
                    have F_cap_ : f_122 (rt 17) = .inl (K 0, 40, .inl g_cap) := by rw [ef_122, va_up_ne _ _ (fun q => absurd (hC.1.2 17 (by decide) 12 (by decide) q) (by decide))]; exact F_cap
                    have F_span_ : f_122 (rt 18) = .inl (K 0, 40, .inl g_span) := by rw [ef_122, va_up_ne _ _ (fun q => absurd (hC.1.2 18 (by decide) 12 (by decide) q) (by decide))]; exact F_span
                    have F_throttle_ : f_122 (rt 19) = .inl (K 0, 40, .inl g_throttle) := by rw [ef_122, va_up_ne _ _ (fun q => absurd (hC.1.2 19 (by decide) 12 (by decide) q) (by decide))]; exact F_throttle
                    have F_promised_ : f_122 (rt 22) = .inl (K 0, 40, .inl g_promised) := by rw [ef_122, va_up_ne _ _ (fun q => absurd (hC.1.2 22 (by decide) 12 (by decide) q) (by decide))]; exact F_promised
                    have F_m := F_m_
                    have F_sort := F_sort_
                    have F_pays := F_pays_
                    have F_never := F_never_
                    have F_bid := F_bid_
                    have F_cap := F_cap_
                    have F_span := F_span_
                    have F_throttle := F_throttle_
                    have F_promised := F_promised_
                    have F_must : f_122 (rt 12) = .inl (K 0, 40, .inl g_121) := by rw [ef_122, va_up_self]
                    have hC : mC rt L f_122 fm := ⟨hC.1, F_m, hC.2.2.1, hC.2.2.2⟩
                    refine lv_aload_n hx hb dX6_campaign_153 rfl (lv_at hl 3 rfl) ?_
                    refine g_get (ci := 6) (v := .ref (rt 13)) (C := RX6) (T := TX6) (N := 51) hx hb hts uB6 hown hK hP (hC.1.1 51 (by decide)) F_m rfl 13 (by decide) wm_32 (hC.2.2.2 13 (by decide)) dX6_campaign_154 ?_
                    refine lv_iload hx hb dX6_campaign_157 (lv_at hl 0 rfl) ?_
                    refine lv_iload_n hx hb dX6_campaign_159 rfl (lv_at hl 5 rfl) ?_
                    refine lv_sipush (v := 4096) hx hb dX6_campaign_160 (by decide) ?_
                    refine lv_irem hx hb dX6_campaign_163 (by decide) ?_
                    refine lv_topi (fun x_123 ex_123 => ?_)
                    refine g_iast hx hb hK hP hD hS (hC.1.1 13 (by decide)) F_never (vp_in_nI (by omega) (by decide)) dX6_campaign_164 (fun H locs hP hD hS => ?_)
                    obtain ⟨g_124, eg_124⟩ : ∃ z9, z9 = upd g_never (Int32.toNatClampNeg (nI nc)) x_123 := ⟨_, rfl⟩
                    rw [← eg_124] at hP hD
                    obtain ⟨f_125, ef_125⟩ : ∃ z9, z9 = va_up f_122 (rt 13) (.inl (K 0, 40, .inl g_124)) := ⟨_, rfl⟩
                    have hP : va_P (dC, dI) vwCl (va_pl L f_125) H := by rw [ef_125]; exact hP
                    have hD : va_D A (va_pl L f_125) := by rw [ef_125]; exact hD
                    have F_m_ : f_125 (rt 51) = .inr (6, fm) := by rw [ef_125, va_up_ne _ _ (fun q => absurd (hC.1.2 51 (by decide) 13 (by decide) q) (by decide))]; exact F_m
                    have F_sort_ : f_125 (rt 10) = .inl (K 0, 40, .inl g_115) := by rw [ef_125, va_up_ne _ _ (fun q => absurd (hC.1.2 10 (by decide) 13 (by decide) q) (by decide))]; exact F_sort
                    have F_pays_ : f_125 (rt 11) = .inl (K 0, 40, .inl g_118) := by rw [ef_125, va_up_ne _ _ (fun q => absurd (hC.1.2 11 (by decide) 13 (by decide) q) (by decide))]; exact F_pays
                    have F_must_ : f_125 (rt 12) = .inl (K 0, 40, .inl g_121) := by rw [ef_125, va_up_ne _ _ (fun q => absurd (hC.1.2 12 (by decide) 13 (by decide) q) (by decide))]; exact F_must
                    have F_bid_ : f_125 (rt 14) = .inl (K 0, 40, .inl g_bid) := by rw [ef_125, va_up_ne _ _ (fun q => absurd (hC.1.2 14 (by decide) 13 (by decide) q) (by decide))]; exact F_bid
                    have F_cap_ : f_125 (rt 17) = .inl (K 0, 40, .inl g_cap) := by rw [ef_125, va_up_ne _ _ (fun q => absurd (hC.1.2 17 (by decide) 13 (by decide) q) (by decide))]; exact F_cap
                    have F_span_ : f_125 (rt 18) = .inl (K 0, 40, .inl g_span) := by rw [ef_125, va_up_ne _ _ (fun q => absurd (hC.1.2 18 (by decide) 13 (by decide) q) (by decide))]; exact F_span
                    have F_throttle_ : f_125 (rt 19) = .inl (K 0, 40, .inl g_throttle) := by rw [ef_125, va_up_ne _ _ (fun q => absurd (hC.1.2 19 (by decide) 13 (by decide) q) (by decide))]; exact F_throttle
                    have F_promised_ : f_125 (rt 22) = .inl (K 0, 40, .inl g_promised) := by rw [ef_125, va_up_ne _ _ (fun q => absurd (hC.1.2 22 (by decide) 13 (by decide) q) (by decide))]; exact F_promised
                    have F_m := F_m_
                    have F_sort := F_sort_
                    have F_pays := F_pays_
                    have F_must := F_must_
                    have F_bid := F_bid_
                    have F_cap := F_cap_
                    have F_span := F_span_
                    have F_throttle := F_throttle_
                    have F_promised := F_promised_
                    have F_never : f_125 (rt 13) = .inl (K 0, 40, .inl g_124) := by rw [ef_125, va_up_self]
                    have hC : mC rt L f_125 fm := ⟨hC.1, F_m, hC.2.2.1, hC.2.2.2⟩
                    refine lv_aload_n hx hb dX6_campaign_165 rfl (lv_at hl 3 rfl) ?_
                    refine g_get (ci := 6) (v := .ref (rt 14)) (C := RX6) (T := TX6) (N := 51) hx hb hts uB6 hown hK hP (hC.1.1 51 (by decide)) F_m rfl 14 (by decide) wm_43 (hC.2.2.2 14 (by decide)) dX6_campaign_166 ?_
                    refine lv_iload hx hb dX6_campaign_169 (lv_at hl 0 rfl) ?_
                    refine lv_iload_n hx hb dX6_campaign_171 rfl (lv_at hl 6 rfl) ?_
                    refine g_iast hx hb hK hP hD hS (hC.1.1 14 (by decide)) F_bid (vp_in_nI (by omega) (by decide)) dX6_campaign_172 (fun H locs hP hD hS => ?_)
                    obtain ⟨g_126, eg_126⟩ : ∃ z9, z9 = upd g_bid (Int32.toNatClampNeg (nI nc)) z := ⟨_, rfl⟩
                    rw [← eg_126] at hP hD
                    obtain ⟨f_127, ef_127⟩ : ∃ z9, z9 = va_up f_125 (rt 14) (.inl (K 0, 40, .inl g_126)) := ⟨_, rfl⟩
                    have hP : va_P (dC, dI) vwCl (va_pl L f_127) H := by rw [ef_127]; exact hP
                    have hD : va_D A (va_pl L f_127) := by rw [ef_127]; exact hD
                    have F_m_ : f_127 (rt 51) = .inr (6, fm) := by rw [ef_127, va_up_ne _ _ (fun q => absurd (hC.1.2 51 (by decide) 14 (by decide) q) (by decide))]; exact F_m
                    have F_sort_ : f_127 (rt 10) = .inl (K 0, 40, .inl g_115) := by rw [ef_127, va_up_ne _ _ (fun q => absurd (hC.1.2 10 (by decide) 14 (by decide) q) (by decide))]; exact F_sort
                    have F_pays_ : f_127 (rt 11) = .inl (K 0, 40, .inl g_118) := by rw [ef_127, va_up_ne _ _ (fun q => absurd (hC.1.2 11 (by decide) 14 (by decide) q) (by decide))]; exact F_pays
                    have F_must_ : f_127 (rt 12) = .inl (K 0, 40, .inl g_121) := by rw [ef_127, va_up_ne _ _ (fun q => absurd (hC.1.2 12 (by decide) 14 (by decide) q) (by decide))]; exact F_must
                    have F_never_ : f_127 (rt 13) = .inl (K 0, 40, .inl g_124) := by rw [ef_127, va_up_ne _ _ (fun q => absurd (hC.1.2 13 (by decide) 14 (by decide) q) (by decide))]; exact F_never
                    have F_cap_ : f_127 (rt 17) = .inl (K 0, 40, .inl g_cap) := by rw [ef_127, va_up_ne _ _ (fun q => absurd (hC.1.2 17 (by decide) 14 (by decide) q) (by decide))]; exact F_cap
                    have F_span_ : f_127 (rt 18) = .inl (K 0, 40, .inl g_span) := by rw [ef_127, va_up_ne _ _ (fun q => absurd (hC.1.2 18 (by decide) 14 (by decide) q) (by decide))]; exact F_span
                    have F_throttle_ : f_127 (rt 19) = .inl (K 0, 40, .inl g_throttle) := by rw [ef_127, va_up_ne _ _ (fun q => absurd (hC.1.2 19 (by decide) 14 (by decide) q) (by decide))]; exact F_throttle
                    have F_promised_ : f_127 (rt 22) = .inl (K 0, 40, .inl g_promised) := by rw [ef_127, va_up_ne _ _ (fun q => absurd (hC.1.2 22 (by decide) 14 (by decide) q) (by decide))]; exact F_promised
                    have F_m := F_m_
                    have F_sort := F_sort_
                    have F_pays := F_pays_
                    have F_must := F_must_
                    have F_never := F_never_
                    have F_cap := F_cap_
                    have F_span := F_span_
                    have F_throttle := F_throttle_
                    have F_promised := F_promised_
                    have F_bid : f_127 (rt 14) = .inl (K 0, 40, .inl g_126) := by rw [ef_127, va_up_self]
                    have hC : mC rt L f_127 fm := ⟨hC.1, F_m, hC.2.2.1, hC.2.2.2⟩
                    refine lv_aload_n hx hb dX6_campaign_173 rfl (lv_at hl 3 rfl) ?_
                    refine g_get (ci := 6) (v := .ref (rt 17)) (C := RX6) (T := TX6) (N := 51) hx hb hts uB6 hown hK hP (hC.1.1 51 (by decide)) F_m rfl 17 (by decide) wm_33 (hC.2.2.2 17 (by decide)) dX6_campaign_174 ?_
                    refine lv_iload hx hb dX6_campaign_177 (lv_at hl 0 rfl) ?_
                    refine lv_bipush (v := 9) hx hb dX6_campaign_179 (by decide) ?_
                    refine g_iast hx hb hK hP hD hS (hC.1.1 17 (by decide)) F_cap (vp_in_nI (by omega) (by decide)) dX6_campaign_181 (fun H locs hP hD hS => ?_)
                    obtain ⟨g_128, eg_128⟩ : ∃ z9, z9 = upd g_cap (Int32.toNatClampNeg (nI nc)) 9 := ⟨_, rfl⟩
                    rw [← eg_128] at hP hD
                    obtain ⟨f_129, ef_129⟩ : ∃ z9, z9 = va_up f_127 (rt 17) (.inl (K 0, 40, .inl g_128)) := ⟨_, rfl⟩
                    have hP : va_P (dC, dI) vwCl (va_pl L f_129) H := by rw [ef_129]; exact hP
                    have hD : va_D A (va_pl L f_129) := by rw [ef_129]; exact hD
                    have F_m_ : f_129 (rt 51) = .inr (6, fm) := by rw [ef_129, va_up_ne _ _ (fun q => absurd (hC.1.2 51 (by decide) 17 (by decide) q) (by decide))]; exact F_m
                    have F_sort_ : f_129 (rt 10) = .inl (K 0, 40, .inl g_115) := by rw [ef_129, va_up_ne _ _ (fun q => absurd (hC.1.2 10 (by decide) 17 (by decide) q) (by decide))]; exact F_sort
                    have F_pays_ : f_129 (rt 11) = .inl (K 0, 40, .inl g_118) := by rw [ef_129, va_up_ne _ _ (fun q => absurd (hC.1.2 11 (by decide) 17 (by decide) q) (by decide))]; exact F_pays
                    have F_must_ : f_129 (rt 12) = .inl (K 0, 40, .inl g_121) := by rw [ef_129, va_up_ne _ _ (fun q => absurd (hC.1.2 12 (by decide) 17 (by decide) q) (by decide))]; exact F_must
                    have F_never_ : f_129 (rt 13) = .inl (K 0, 40, .inl g_124) := by rw [ef_129, va_up_ne _ _ (fun q => absurd (hC.1.2 13 (by decide) 17 (by decide) q) (by decide))]; exact F_never
                    have F_bid_ : f_129 (rt 14) = .inl (K 0, 40, .inl g_126) := by rw [ef_129, va_up_ne _ _ (fun q => absurd (hC.1.2 14 (by decide) 17 (by decide) q) (by decide))]; exact F_bid
                    have F_span_ : f_129 (rt 18) = .inl (K 0, 40, .inl g_span) := by rw [ef_129, va_up_ne _ _ (fun q => absurd (hC.1.2 18 (by decide) 17 (by decide) q) (by decide))]; exact F_span
                    have F_throttle_ : f_129 (rt 19) = .inl (K 0, 40, .inl g_throttle) := by rw [ef_129, va_up_ne _ _ (fun q => absurd (hC.1.2 19 (by decide) 17 (by decide) q) (by decide))]; exact F_throttle
                    have F_promised_ : f_129 (rt 22) = .inl (K 0, 40, .inl g_promised) := by rw [ef_129, va_up_ne _ _ (fun q => absurd (hC.1.2 22 (by decide) 17 (by decide) q) (by decide))]; exact F_promised
                    have F_m := F_m_
                    have F_sort := F_sort_
                    have F_pays := F_pays_
                    have F_must := F_must_
                    have F_never := F_never_
                    have F_bid := F_bid_
                    have F_span := F_span_
                    have F_throttle := F_throttle_
                    have F_promised := F_promised_
                    have F_cap : f_129 (rt 17) = .inl (K 0, 40, .inl g_128) := by rw [ef_129, va_up_self]
                    have hC : mC rt L f_129 fm := ⟨hC.1, F_m, hC.2.2.1, hC.2.2.2⟩
                    refine lv_aload_n hx hb dX6_campaign_182 rfl (lv_at hl 3 rfl) ?_
                    refine g_get (ci := 6) (v := .ref (rt 18)) (C := RX6) (T := TX6) (N := 51) hx hb hts uB6 hown hK hP (hC.1.1 51 (by decide)) F_m rfl 18 (by decide) wm_51 (hC.2.2.2 18 (by decide)) dX6_campaign_183 ?_
                    refine lv_iload hx hb dX6_campaign_186 (lv_at hl 0 rfl) ?_
                    refine lv_iconst (v := 1) hx hb dX6_campaign_188 (by decide) ?_
                    refine g_iast hx hb hK hP hD hS (hC.1.1 18 (by decide)) F_span (vp_in_nI (by omega) (by decide)) dX6_campaign_189 (fun H locs hP hD hS => ?_)
                    obtain ⟨g_130, eg_130⟩ : ∃ z9, z9 = upd g_span (Int32.toNatClampNeg (nI nc)) 1 := ⟨_, rfl⟩
                    rw [← eg_130] at hP hD
                    obtain ⟨f_131, ef_131⟩ : ∃ z9, z9 = va_up f_129 (rt 18) (.inl (K 0, 40, .inl g_130)) := ⟨_, rfl⟩
                    have hP : va_P (dC, dI) vwCl (va_pl L f_131) H := by rw [ef_131]; exact hP
                    have hD : va_D A (va_pl L f_131) := by rw [ef_131]; exact hD
                    have F_m_ : f_131 (rt 51) = .inr (6, fm) := by rw [ef_131, va_up_ne _ _ (fun q => absurd (hC.1.2 51 (by decide) 18 (by decide) q) (by decide))]; exact F_m
                    have F_sort_ : f_131 (rt 10) = .inl (K 0, 40, .inl g_115) := by rw [ef_131, va_up_ne _ _ (fun q => absurd (hC.1.2 10 (by decide) 18 (by decide) q) (by decide))]; exact F_sort
                    have F_pays_ : f_131 (rt 11) = .inl (K 0, 40, .inl g_118) := by rw [ef_131, va_up_ne _ _ (fun q => absurd (hC.1.2 11 (by decide) 18 (by decide) q) (by decide))]; exact F_pays
                    have F_must_ : f_131 (rt 12) = .inl (K 0, 40, .inl g_121) := by rw [ef_131, va_up_ne _ _ (fun q => absurd (hC.1.2 12 (by decide) 18 (by decide) q) (by decide))]; exact F_must
                    have F_never_ : f_131 (rt 13) = .inl (K 0, 40, .inl g_124) := by rw [ef_131, va_up_ne _ _ (fun q => absurd (hC.1.2 13 (by decide) 18 (by decide) q) (by decide))]; exact F_never
                    have F_bid_ : f_131 (rt 14) = .inl (K 0, 40, .inl g_126) := by rw [ef_131, va_up_ne _ _ (fun q => absurd (hC.1.2 14 (by decide) 18 (by decide) q) (by decide))]; exact F_bid
                    have F_cap_ : f_131 (rt 17) = .inl (K 0, 40, .inl g_128) := by rw [ef_131, va_up_ne _ _ (fun q => absurd (hC.1.2 17 (by decide) 18 (by decide) q) (by decide))]; exact F_cap
                    have F_throttle_ : f_131 (rt 19) = .inl (K 0, 40, .inl g_throttle) := by rw [ef_131, va_up_ne _ _ (fun q => absurd (hC.1.2 19 (by decide) 18 (by decide) q) (by decide))]; exact F_throttle
                    have F_promised_ : f_131 (rt 22) = .inl (K 0, 40, .inl g_promised) := by rw [ef_131, va_up_ne _ _ (fun q => absurd (hC.1.2 22 (by decide) 18 (by decide) q) (by decide))]; exact F_promised
                    have F_m := F_m_
                    have F_sort := F_sort_
                    have F_pays := F_pays_
                    have F_must := F_must_
                    have F_never := F_never_
                    have F_bid := F_bid_
                    have F_cap := F_cap_
                    have F_throttle := F_throttle_
                    have F_promised := F_promised_
                    have F_span : f_131 (rt 18) = .inl (K 0, 40, .inl g_130) := by rw [ef_131, va_up_self]
                    have hC : mC rt L f_131 fm := ⟨hC.1, F_m, hC.2.2.1, hC.2.2.2⟩
                    refine lv_aload_n hx hb dX6_campaign_190 rfl (lv_at hl 3 rfl) ?_
                    refine g_get (ci := 6) (v := .ref (rt 19)) (C := RX6) (T := TX6) (N := 51) hx hb hts uB6 hown hK hP (hC.1.1 51 (by decide)) F_m rfl 19 (by decide) wm_38 (hC.2.2.2 19 (by decide)) dX6_campaign_191 ?_
                    refine lv_iload hx hb dX6_campaign_194 (lv_at hl 0 rfl) ?_
                    refine lv_sipush (v := 1000) hx hb dX6_campaign_196 (by decide) ?_
                    refine g_iast hx hb hK hP hD hS (hC.1.1 19 (by decide)) F_throttle (vp_in_nI (by omega) (by decide)) dX6_campaign_199 (fun H locs hP hD hS => ?_)
                    obtain ⟨g_132, eg_132⟩ : ∃ z9, z9 = upd g_throttle (Int32.toNatClampNeg (nI nc)) 1000 := ⟨_, rfl⟩
                    rw [← eg_132] at hP hD
                    obtain ⟨f_133, ef_133⟩ : ∃ z9, z9 = va_up f_131 (rt 19) (.inl (K 0, 40, .inl g_132)) := ⟨_, rfl⟩
                    have hP : va_P (dC, dI) vwCl (va_pl L f_133) H := by rw [ef_133]; exact hP
                    have hD : va_D A (va_pl L f_133) := by rw [ef_133]; exact hD
                    have F_m_ : f_133 (rt 51) = .inr (6, fm) := by rw [ef_133, va_up_ne _ _ (fun q => absurd (hC.1.2 51 (by decide) 19 (by decide) q) (by decide))]; exact F_m
                    have F_sort_ : f_133 (rt 10) = .inl (K 0, 40, .inl g_115) := by rw [ef_133, va_up_ne _ _ (fun q => absurd (hC.1.2 10 (by decide) 19 (by decide) q) (by decide))]; exact F_sort
                    have F_pays_ : f_133 (rt 11) = .inl (K 0, 40, .inl g_118) := by rw [ef_133, va_up_ne _ _ (fun q => absurd (hC.1.2 11 (by decide) 19 (by decide) q) (by decide))]; exact F_pays
                    have F_must_ : f_133 (rt 12) = .inl (K 0, 40, .inl g_121) := by rw [ef_133, va_up_ne _ _ (fun q => absurd (hC.1.2 12 (by decide) 19 (by decide) q) (by decide))]; exact F_must
                    have F_never_ : f_133 (rt 13) = .inl (K 0, 40, .inl g_124) := by rw [ef_133, va_up_ne _ _ (fun q => absurd (hC.1.2 13 (by decide) 19 (by decide) q) (by decide))]; exact F_never
                    have F_bid_ : f_133 (rt 14) = .inl (K 0, 40, .inl g_126) := by rw [ef_133, va_up_ne _ _ (fun q => absurd (hC.1.2 14 (by decide) 19 (by decide) q) (by decide))]; exact F_bid
                    have F_cap_ : f_133 (rt 17) = .inl (K 0, 40, .inl g_128) := by rw [ef_133, va_up_ne _ _ (fun q => absurd (hC.1.2 17 (by decide) 19 (by decide) q) (by decide))]; exact F_cap
                    have F_span_ : f_133 (rt 18) = .inl (K 0, 40, .inl g_130) := by rw [ef_133, va_up_ne _ _ (fun q => absurd (hC.1.2 18 (by decide) 19 (by decide) q) (by decide))]; exact F_span
                    have F_promised_ : f_133 (rt 22) = .inl (K 0, 40, .inl g_promised) := by rw [ef_133, va_up_ne _ _ (fun q => absurd (hC.1.2 22 (by decide) 19 (by decide) q) (by decide))]; exact F_promised
                    have F_m := F_m_
                    have F_sort := F_sort_
                    have F_pays := F_pays_
                    have F_must := F_must_
                    have F_never := F_never_
                    have F_bid := F_bid_
                    have F_cap := F_cap_
                    have F_span := F_span_
                    have F_promised := F_promised_
                    have F_throttle : f_133 (rt 19) = .inl (K 0, 40, .inl g_132) := by rw [ef_133, va_up_self]
                    have hC : mC rt L f_133 fm := ⟨hC.1, F_m, hC.2.2.1, hC.2.2.2⟩
                    refine lv_aload_n hx hb dX6_campaign_200 rfl (lv_at hl 3 rfl) ?_
                    refine g_get (ci := 6) (v := .ref (rt 22)) (C := RX6) (T := TX6) (N := 51) hx hb hts uB6 hown hK hP (hC.1.1 51 (by decide)) F_m rfl 22 (by decide) wm_22 (hC.2.2.2 22 (by decide)) dX6_campaign_201 ?_
                    refine lv_iload hx hb dX6_campaign_204 (lv_at hl 0 rfl) ?_
                    refine lv_iconst (v := 0) hx hb dX6_campaign_206 (by decide) ?_
                    refine g_iast hx hb hK hP hD hS (hC.1.1 22 (by decide)) F_promised (vp_in_nI (by omega) (by decide)) dX6_campaign_207 (fun H locs hP hD hS => ?_)
                    obtain ⟨g_134, eg_134⟩ : ∃ z9, z9 = upd g_promised (Int32.toNatClampNeg (nI nc)) 0 := ⟨_, rfl⟩
                    rw [← eg_134] at hP hD
                    obtain ⟨f_135, ef_135⟩ : ∃ z9, z9 = va_up f_133 (rt 22) (.inl (K 0, 40, .inl g_134)) := ⟨_, rfl⟩
                    have hP : va_P (dC, dI) vwCl (va_pl L f_135) H := by rw [ef_135]; exact hP
                    have hD : va_D A (va_pl L f_135) := by rw [ef_135]; exact hD
                    have F_m_ : f_135 (rt 51) = .inr (6, fm) := by rw [ef_135, va_up_ne _ _ (fun q => absurd (hC.1.2 51 (by decide) 22 (by decide) q) (by decide))]; exact F_m
                    have F_sort_ : f_135 (rt 10) = .inl (K 0, 40, .inl g_115) := by rw [ef_135, va_up_ne _ _ (fun q => absurd (hC.1.2 10 (by decide) 22 (by decide) q) (by decide))]; exact F_sort
                    have F_pays_ : f_135 (rt 11) = .inl (K 0, 40, .inl g_118) := by rw [ef_135, va_up_ne _ _ (fun q => absurd (hC.1.2 11 (by decide) 22 (by decide) q) (by decide))]; exact F_pays
                    have F_must_ : f_135 (rt 12) = .inl (K 0, 40, .inl g_121) := by rw [ef_135, va_up_ne _ _ (fun q => absurd (hC.1.2 12 (by decide) 22 (by decide) q) (by decide))]; exact F_must
                    have F_never_ : f_135 (rt 13) = .inl (K 0, 40, .inl g_124) := by rw [ef_135, va_up_ne _ _ (fun q => absurd (hC.1.2 13 (by decide) 22 (by decide) q) (by decide))]; exact F_never
                    have F_bid_ : f_135 (rt 14) = .inl (K 0, 40, .inl g_126) := by rw [ef_135, va_up_ne _ _ (fun q => absurd (hC.1.2 14 (by decide) 22 (by decide) q) (by decide))]; exact F_bid
                    have F_cap_ : f_135 (rt 17) = .inl (K 0, 40, .inl g_128) := by rw [ef_135, va_up_ne _ _ (fun q => absurd (hC.1.2 17 (by decide) 22 (by decide) q) (by decide))]; exact F_cap
                    have F_span_ : f_135 (rt 18) = .inl (K 0, 40, .inl g_130) := by rw [ef_135, va_up_ne _ _ (fun q => absurd (hC.1.2 18 (by decide) 22 (by decide) q) (by decide))]; exact F_span
                    have F_throttle_ : f_135 (rt 19) = .inl (K 0, 40, .inl g_132) := by rw [ef_135, va_up_ne _ _ (fun q => absurd (hC.1.2 19 (by decide) 22 (by decide) q) (by decide))]; exact F_throttle
                    have F_m := F_m_
                    have F_sort := F_sort_
                    have F_pays := F_pays_
                    have F_must := F_must_
                    have F_never := F_never_
                    have F_bid := F_bid_
                    have F_cap := F_cap_
                    have F_span := F_span_
                    have F_throttle := F_throttle_
                    have F_promised : f_135 (rt 22) = .inl (K 0, 40, .inl g_134) := by rw [ef_135, va_up_self]
                    have hC : mC rt L f_135 fm := ⟨hC.1, F_m, hC.2.2.1, hC.2.2.2⟩
                    refine lv_aload_n hx hb dX6_campaign_208 rfl (lv_at hl 3 rfl) ?_
                    refine lv_dup hx hb dX6_campaign_209 rfl ?_
                    refine g_get (ci := 6) (v := .int (nI nc)) (C := RX6) (T := TX6) (N := 51) hx hb hts uB6 hown hK hP (hC.1.1 51 (by decide)) F_m rfl 9 (by decide) wm_76 I_campaigns dX6_campaign_210 ?_
                    refine lv_iconst (v := 1) hx hb dX6_campaign_213 (by decide) ?_
                    refine lv_iadd hx hb dX6_campaign_214 ?_
                    refine lv_topi (fun x_136 ex_136 => ?_)
                    obtain rfl : x_136 = nI (nc + 1) := ex_136.trans (nI_1 nc)
                    refine g_put (ci := 6) (v := .int (nI (nc + 1))) (ty := .int) (C := RX6) (T := TX6) (N := 51) hx hb hts uB6 tyX6 tyX6_ok nmX6 hown hK hP hD hS (hC.1.1 51 (by decide)) F_m rfl 9 (by decide) wm_76 rfl (by decide +kernel) rfl rfl (by rw [hC.2.2.1]; decide) dX6_campaign_215 (fun H locs hP hD hS => ?_)
                    obtain ⟨fs_137, efs_137⟩ : ∃ z9, z9 = List.set fm 9 (.int (nI (nc + 1))) := ⟨_, rfl⟩
                    rw [← efs_137] at hP hD
                    have hlen_ : fs_137.length = 51 := by rw [efs_137, List.length_set]; exact hC.2.2.1
                    have I_campaigns : fs_137[9]? = some (.int (nI (nc + 1))) := by rw [efs_137]; exact List.getElem?_set_self (by rw [hC.2.2.1]; decide)
                    have hmr_ : ∀ k ∈ mArr, fs_137[k]? = some (.ref (rt k)) := fun k h => by rw [efs_137, List.getElem?_set_ne (fun q => by rw [← q] at h; exact absurd h (by decide))]; exact hC.2.2.2 k h
                    obtain ⟨f_138, ef_138⟩ : ∃ z9, z9 = va_up f_135 (rt 51) (.inr (6, fs_137)) := ⟨_, rfl⟩
                    have hP : va_P (dC, dI) vwCl (va_pl L f_138) H := by rw [ef_138]; exact hP
                    have hD : va_D A (va_pl L f_138) := by rw [ef_138]; exact hD
                    have F_sort_ : f_138 (rt 10) = .inl (K 0, 40, .inl g_115) := by rw [ef_138, va_up_ne _ _ (fun q => absurd (hC.1.2 10 (by decide) 51 (by decide) q) (by decide))]; exact F_sort
                    have F_pays_ : f_138 (rt 11) = .inl (K 0, 40, .inl g_118) := by rw [ef_138, va_up_ne _ _ (fun q => absurd (hC.1.2 11 (by decide) 51 (by decide) q) (by decide))]; exact F_pays
                    have F_must_ : f_138 (rt 12) = .inl (K 0, 40, .inl g_121) := by rw [ef_138, va_up_ne _ _ (fun q => absurd (hC.1.2 12 (by decide) 51 (by decide) q) (by decide))]; exact F_must
                    have F_never_ : f_138 (rt 13) = .inl (K 0, 40, .inl g_124) := by rw [ef_138, va_up_ne _ _ (fun q => absurd (hC.1.2 13 (by decide) 51 (by decide) q) (by decide))]; exact F_never
                    have F_bid_ : f_138 (rt 14) = .inl (K 0, 40, .inl g_126) := by rw [ef_138, va_up_ne _ _ (fun q => absurd (hC.1.2 14 (by decide) 51 (by decide) q) (by decide))]; exact F_bid
                    have F_cap_ : f_138 (rt 17) = .inl (K 0, 40, .inl g_128) := by rw [ef_138, va_up_ne _ _ (fun q => absurd (hC.1.2 17 (by decide) 51 (by decide) q) (by decide))]; exact F_cap
                    have F_span_ : f_138 (rt 18) = .inl (K 0, 40, .inl g_130) := by rw [ef_138, va_up_ne _ _ (fun q => absurd (hC.1.2 18 (by decide) 51 (by decide) q) (by decide))]; exact F_span
                    have F_throttle_ : f_138 (rt 19) = .inl (K 0, 40, .inl g_132) := by rw [ef_138, va_up_ne _ _ (fun q => absurd (hC.1.2 19 (by decide) 51 (by decide) q) (by decide))]; exact F_throttle
                    have F_promised_ : f_138 (rt 22) = .inl (K 0, 40, .inl g_134) := by rw [ef_138, va_up_ne _ _ (fun q => absurd (hC.1.2 22 (by decide) 51 (by decide) q) (by decide))]; exact F_promised
                    have F_sort := F_sort_
                    have F_pays := F_pays_
                    have F_must := F_must_
                    have F_never := F_never_
                    have F_bid := F_bid_
                    have F_cap := F_cap_
                    have F_span := F_span_
                    have F_throttle := F_throttle_
                    have F_promised := F_promised_
                    have F_m : f_138 (rt 51) = .inr (6, fs_137) := by rw [ef_138, va_up_self]
                    have hC : mC rt L f_138 fs_137 := ⟨hC.1, F_m, hlen_, hmr_⟩
                    refine lv_iload hx hb dX6_campaign_218 (lv_at hl 0 rfl) ?_
                    exact W.iret (v := nI nc) hx hb hr (fun t ht hW => ⟨⟨nI nc, f_138, rfl, (Or.inr (Or.inr ⟨(by subst ex_1 ex_5 ex_110 ex_111 ex_112 ex_117 ex_120 ex_123; have h1 := k_cp1 x; have h2 := k_cp2 y; simp only [Int32.lt_iff_toInt_lt, Int32.le_iff_toInt_le, ← Int32.toInt_inj, Int32.reduceToInt] at h1 h2 c_2 g_4 c_6 g_74 g_76 c_77 c_109 c_113; unfold cpOk; simp only [Int32.lt_iff_toInt_lt, Int32.le_iff_toInt_le, ← Int32.toInt_inj, Int32.reduceToInt]; omega), hfl, rfl, by rw [ef_138, efs_137, ef_135, eg_134, ef_133, eg_132, ef_131, eg_130, ef_129, eg_128, ef_127, eg_126, ef_125, eg_124, ef_122, eg_121, ef_119, eg_118, ef_116, eg_115]; subst ex_123 ex_120 ex_117 ex_112 ex_111 ex_110 ex_5 ex_1; rfl⟩)), by show va_P (dC, dI) vwCl (va_pl L f_138) t.heap; rw [ht]; exact hP⟩, hS.F ht⟩) hS.2.2 dX6_campaign_220
                  · skip
                    have hfl : nc = 40 := (nI_eq (by omega) (by decide)).mp c_114
                    refine lv_bipush (v := (-3)) hx hb dX6_campaign_112 (by decide) ?_
                    exact W.iret (v := (-3)) hx hb hr (fun t ht hW => ⟨⟨(-3), f, rfl, (Or.inr (Or.inl ⟨(by subst ex_1 ex_5 ex_110 ex_111 ex_112; have h1 := k_cp1 x; have h2 := k_cp2 y; simp only [Int32.lt_iff_toInt_lt, Int32.le_iff_toInt_le, ← Int32.toInt_inj, Int32.reduceToInt] at h1 h2 c_2 g_4 c_6 g_74 g_76 c_77 c_109 c_113; unfold cpOk; simp only [Int32.lt_iff_toInt_lt, Int32.le_iff_toInt_le, ← Int32.toInt_inj, Int32.reduceToInt]; omega), hfl, rfl, rfl⟩)), by show va_P (dC, dI) vwCl (va_pl L f) t.heap; rw [ht]; exact hP⟩, hS.F ht⟩) hS.2.2 dX6_campaign_114
                · skip
                  refine lv_iconst (v := (-1)) hx hb dX6_campaign_101 (by decide) ?_
                  exact W.iret (v := (-1)) hx hb hr (fun t ht hW => ⟨⟨(-1), f, rfl, (Or.inl ⟨(by subst ex_1 ex_5 ex_110 ex_111 ex_112; have h1 := k_cp1 x; have h2 := k_cp2 y; simp only [Int32.lt_iff_toInt_lt, Int32.le_iff_toInt_le, ← Int32.toInt_inj, Int32.reduceToInt] at h1 h2 c_2 g_4 c_6 g_74 g_76 c_77 c_109 c_113; unfold cpOk; simp only [Int32.lt_iff_toInt_lt, Int32.le_iff_toInt_le, ← Int32.toInt_inj, Int32.reduceToInt]; omega), rfl, rfl⟩), by show va_P (dC, dI) vwCl (va_pl L f) t.heap; rw [ht]; exact hP⟩, hS.F ht⟩) hS.2.2 dX6_campaign_102
end
section
theorem k_sw6 (x : Int32) : (x.toInt < 0 ∨ 6 < x.toInt) ∨ x = 0 ∨ x = 1 ∨ x = 2 ∨ x = 3 ∨ x = 4 ∨ x = 5 ∨ x = 6 := by
  simp only [← Int32.toInt_inj, Int32.reduceToInt]; omega
theorem k_sw9 (x : Int32) : (x.toInt < 0 ∨ 9 < x.toInt) ∨ x = 0 ∨ x = 1 ∨ x = 2 ∨ x = 3 ∨ x = 4 ∨ x = 5 ∨ x = 6 ∨ x = 7 ∨ x = 8 ∨ x = 9 := by
  simp only [← Int32.toInt_inj, Int32.reduceToInt]; omega
set_option maxHeartbeats 4000000 in
set_option maxRecDepth 100000 in
theorem m_sale (l : Launch) (dC : Nat → ClassId) (dI : Nat → Nat → Nat) (K : Nat → ClassId) (L : List Nat) (f : Nat → va_E) (rt : Nat → Nat) {fm : List Value} (hC : mC rt L f fm) {g_saleTick : Nat → Int32} (F_saleTick : f (rt 26) = .inl (K 0, 1000, .inl g_saleTick)) {g_saleReader : Nat → Int32} (F_saleReader : f (rt 27) = .inl (K 0, 1000, .inl g_saleReader)) {g_salePage : Nat → Int32} (F_salePage : f (rt 28) = .inl (K 0, 1000, .inl g_salePage)) {g_salePlace : Nat → Int32} (F_salePlace : f (rt 29) = .inl (K 0, 1000, .inl g_salePlace)) {g_saleOf : Nat → Int32} (F_saleOf : f (rt 30) = .inl (K 0, 1000, .inl g_saleOf)) {g_price : Nat → Int32} (F_price : f (rt 31) = .inl (K 0, 1000, .inl g_price)) {g_state : Nat → Int32} (F_state : f (rt 32) = .inl (K 0, 1000, .inl g_state)) {ns : Nat} (I_sales : fm[25]? = some (.int (nI ns))) (x : Int32) (y : Int32) (hns : ns ≤ 1000) : gR l yX6_sale cX6_sale 3 .int 2 (dC, dI) K L f [.ref (rt 51), .int x, .int y] (fun _ => True) := by
  refine Met.ofW (cc := cX6_sale) (maxL := 3) (ret := some .int) (by decide) rfl ?_
  intro p e s m args below meth c s₁ B hml hv
  obtain ⟨rfl, hP, hK⟩ := hv
  have F_m := hC.2.1
  have hx := B.exec
  have hb := B.bytes
  have hr := B.returns
  have hlocks := B.notSynchronized
  have hts0 := atoms_spec (ws := Cond.code yX6_sale cX6_sale 3 (some .int) :: lw_B) B.pre
  have hts : ∀ w ∈ lw_B, w.before _ s = true := fun w h => hts0 w (List.mem_cons_of_mem _ h)
  have hown : s.vm.findClass RX6 = some m.cls := findClass_of_methodNamed B.named
  have hS : va_S (fun _ => False) s.heap s.heap [] := va_S.rf
  have hl := lv_entry ([.ref (rt 51), .int x, .int y]) (n := 3) (Nat.le_of_ble_eq_true rfl)
  rw [lg_entry_eq]
  generalize (lg_sl ([.ref (rt 51), .int x, .int y]) ++ List.replicate (3 - (lg_sl ([.ref (rt 51), .int x, .int y])).length) Slot.unset).toArray = ls at hl ⊢
  have hl : lv_has ls 3 [(0, .ref (rt 51)), (1, .int x), (2, .int y)] := hl
  refine lv_aload_n hx hb dX6_sale_0 rfl (lv_at hl 0 rfl) ?_
  refine lv_iload_n hx hb dX6_sale_1 rfl (lv_at hl 1 rfl) ?_
  refine gc_R (ci := 6) ⟨hx, hb, hml, hown, hts⟩ (m_isSale l dC dI K L f rt hC I_sales x) 1 wm_105 wm_106 wm_107 wm_8 wm_108 (by decide +kernel) ⟨Nat.le_of_ble_eq_true rfl, Nat.le_of_ble_eq_true rfl⟩ hK rfl (hC.1.1 51 (by decide)) F_m rfl hl.1 rfl (Nat.le_of_ble_eq_true rfl) dX6_sale_2 ⟨Nat.le_of_ble_eq_true rfl, Nat.le_of_ble_eq_true rfl⟩ hS hP (fun r_1 H locs hpr_1 hP hS => ?_)
  refine lv_if_ne (tgt := 10) hx hb dX6_sale_5 (by decide) (fun c_2 => ?_) (fun c_2 => ?_)
  · skip
    have g_2 := k_ft hpr_1 c_2
    have hcd_sn := g_2
    obtain ⟨sn, hsn, rfl⟩ := k_ix g_2 (by omega)
    refine lv_iload_n hx hb dX6_sale_10 rfl (lv_at hl 2 rfl) ?_
    rcases k_sw6 y with h9 | rfl | rfl | rfl | rfl | rfl | rfl | rfl
    · skip
      refine lv_tableOut (tgt := 101) hx hb dX6_sale_11 h9 (by decide) ?_
      refine lv_iconst (v := (-1)) hx hb dX6_sale_101 (by decide) ?_
      exact W.iret (v := (-1)) hx hb hr (fun t ht hW => ⟨⟨(-1), (), rfl, trivial, trivial⟩, hS.F ht⟩) hS.2.2 dX6_sale_102
    · skip
      refine lv_tableIn (off := 41) (tgt := 52) hx hb dX6_sale_11 (by decide) (by decide) rfl (by decide) ?_
      refine lv_aload_n hx hb dX6_sale_52 rfl (lv_at hl 0 rfl) ?_
      refine g_get (ci := 6) (v := .ref (rt 26)) (C := RX6) (T := TX6) (N := 51) hx hb hts uB6 hown hK hP (hC.1.1 51 (by decide)) F_m rfl 26 (by decide) wm_10 (hC.2.2.2 26 (by decide)) dX6_sale_53 ?_
      refine lv_iload_n hx hb dX6_sale_56 rfl (lv_at hl 1 rfl) ?_
      refine g_iald hx hb hK hP (hC.1.1 26 (by decide)) F_saleTick (vp_in_nI (by omega) (by decide)) dX6_sale_57 ?_
      refine lv_topi (fun x_3 ex_3 => ?_)
      rw [nI_clamp (by omega)] at ex_3
      exact W.iret (v := x_3) hx hb hr (fun t ht hW => ⟨⟨x_3, (), rfl, trivial, trivial⟩, hS.F ht⟩) hS.2.2 dX6_sale_58
    · skip
      refine lv_tableIn (off := 48) (tgt := 59) hx hb dX6_sale_11 (by decide) (by decide) rfl (by decide) ?_
      refine lv_aload_n hx hb dX6_sale_59 rfl (lv_at hl 0 rfl) ?_
      refine g_get (ci := 6) (v := .ref (rt 27)) (C := RX6) (T := TX6) (N := 51) hx hb hts uB6 hown hK hP (hC.1.1 51 (by decide)) F_m rfl 27 (by decide) wm_50 (hC.2.2.2 27 (by decide)) dX6_sale_60 ?_
      refine lv_iload_n hx hb dX6_sale_63 rfl (lv_at hl 1 rfl) ?_
      refine g_iald hx hb hK hP (hC.1.1 27 (by decide)) F_saleReader (vp_in_nI (by omega) (by decide)) dX6_sale_64 ?_
      refine lv_topi (fun x_4 ex_4 => ?_)
      rw [nI_clamp (by omega)] at ex_4
      exact W.iret (v := x_4) hx hb hr (fun t ht hW => ⟨⟨x_4, (), rfl, trivial, trivial⟩, hS.F ht⟩) hS.2.2 dX6_sale_65
    · skip
      refine lv_tableIn (off := 55) (tgt := 66) hx hb dX6_sale_11 (by decide) (by decide) rfl (by decide) ?_
      refine lv_aload_n hx hb dX6_sale_66 rfl (lv_at hl 0 rfl) ?_
      refine g_get (ci := 6) (v := .ref (rt 28)) (C := RX6) (T := TX6) (N := 51) hx hb hts uB6 hown hK hP (hC.1.1 51 (by decide)) F_m rfl 28 (by decide) wm_48 (hC.2.2.2 28 (by decide)) dX6_sale_67 ?_
      refine lv_iload_n hx hb dX6_sale_70 rfl (lv_at hl 1 rfl) ?_
      refine g_iald hx hb hK hP (hC.1.1 28 (by decide)) F_salePage (vp_in_nI (by omega) (by decide)) dX6_sale_71 ?_
      refine lv_topi (fun x_5 ex_5 => ?_)
      rw [nI_clamp (by omega)] at ex_5
      exact W.iret (v := x_5) hx hb hr (fun t ht hW => ⟨⟨x_5, (), rfl, trivial, trivial⟩, hS.F ht⟩) hS.2.2 dX6_sale_72
    · skip
      refine lv_tableIn (off := 62) (tgt := 73) hx hb dX6_sale_11 (by decide) (by decide) rfl (by decide) ?_
      refine lv_aload_n hx hb dX6_sale_73 rfl (lv_at hl 0 rfl) ?_
      refine g_get (ci := 6) (v := .ref (rt 29)) (C := RX6) (T := TX6) (N := 51) hx hb hts uB6 hown hK hP (hC.1.1 51 (by decide)) F_m rfl 29 (by decide) wm_116 (hC.2.2.2 29 (by decide)) dX6_sale_74 ?_
      refine lv_iload_n hx hb dX6_sale_77 rfl (lv_at hl 1 rfl) ?_
      refine g_iald hx hb hK hP (hC.1.1 29 (by decide)) F_salePlace (vp_in_nI (by omega) (by decide)) dX6_sale_78 ?_
      refine lv_topi (fun x_6 ex_6 => ?_)
      rw [nI_clamp (by omega)] at ex_6
      exact W.iret (v := x_6) hx hb hr (fun t ht hW => ⟨⟨x_6, (), rfl, trivial, trivial⟩, hS.F ht⟩) hS.2.2 dX6_sale_79
    · skip
      refine lv_tableIn (off := 69) (tgt := 80) hx hb dX6_sale_11 (by decide) (by decide) rfl (by decide) ?_
      refine lv_aload_n hx hb dX6_sale_80 rfl (lv_at hl 0 rfl) ?_
      refine g_get (ci := 6) (v := .ref (rt 30)) (C := RX6) (T := TX6) (N := 51) hx hb hts uB6 hown hK hP (hC.1.1 51 (by decide)) F_m rfl 30 (by decide) wm_2 (hC.2.2.2 30 (by decide)) dX6_sale_81 ?_
      refine lv_iload_n hx hb dX6_sale_84 rfl (lv_at hl 1 rfl) ?_
      refine g_iald hx hb hK hP (hC.1.1 30 (by decide)) F_saleOf (vp_in_nI (by omega) (by decide)) dX6_sale_85 ?_
      refine lv_topi (fun x_7 ex_7 => ?_)
      rw [nI_clamp (by omega)] at ex_7
      exact W.iret (v := x_7) hx hb hr (fun t ht hW => ⟨⟨x_7, (), rfl, trivial, trivial⟩, hS.F ht⟩) hS.2.2 dX6_sale_86
    · skip
      refine lv_tableIn (off := 76) (tgt := 87) hx hb dX6_sale_11 (by decide) (by decide) rfl (by decide) ?_
      refine lv_aload_n hx hb dX6_sale_87 rfl (lv_at hl 0 rfl) ?_
      refine g_get (ci := 6) (v := .ref (rt 31)) (C := RX6) (T := TX6) (N := 51) hx hb hts uB6 hown hK hP (hC.1.1 51 (by decide)) F_m rfl 31 (by decide) wm_3 (hC.2.2.2 31 (by decide)) dX6_sale_88 ?_
      refine lv_iload_n hx hb dX6_sale_91 rfl (lv_at hl 1 rfl) ?_
      refine g_iald hx hb hK hP (hC.1.1 31 (by decide)) F_price (vp_in_nI (by omega) (by decide)) dX6_sale_92 ?_
      refine lv_topi (fun x_8 ex_8 => ?_)
      rw [nI_clamp (by omega)] at ex_8
      exact W.iret (v := x_8) hx hb hr (fun t ht hW => ⟨⟨x_8, (), rfl, trivial, trivial⟩, hS.F ht⟩) hS.2.2 dX6_sale_93
    · skip
      refine lv_tableIn (off := 83) (tgt := 94) hx hb dX6_sale_11 (by decide) (by decide) rfl (by decide) ?_
      refine lv_aload_n hx hb dX6_sale_94 rfl (lv_at hl 0 rfl) ?_
      refine g_get (ci := 6) (v := .ref (rt 32)) (C := RX6) (T := TX6) (N := 51) hx hb hts uB6 hown hK hP (hC.1.1 51 (by decide)) F_m rfl 32 (by decide) wm_0 (hC.2.2.2 32 (by decide)) dX6_sale_95 ?_
      refine lv_iload_n hx hb dX6_sale_98 rfl (lv_at hl 1 rfl) ?_
      refine g_iald hx hb hK hP (hC.1.1 32 (by decide)) F_state (vp_in_nI (by omega) (by decide)) dX6_sale_99 ?_
      refine lv_topi (fun x_9 ex_9 => ?_)
      rw [nI_clamp (by omega)] at ex_9
      exact W.iret (v := x_9) hx hb hr (fun t ht hW => ⟨⟨x_9, (), rfl, trivial, trivial⟩, hS.F ht⟩) hS.2.2 dX6_sale_100
  · skip
    have g_2 := k_ff hpr_1 c_2
    refine lv_iconst (v := (-1)) hx hb dX6_sale_8 (by decide) ?_
    exact W.iret (v := (-1)) hx hb hr (fun t ht hW => ⟨⟨(-1), (), rfl, trivial, trivial⟩, hS.F ht⟩) hS.2.2 dX6_sale_9
set_option maxHeartbeats 4000000 in
set_option maxRecDepth 100000 in
theorem m_told (l : Launch) (dC : Nat → ClassId) (dI : Nat → Nat → Nat) (K : Nat → ClassId) (L : List Nat) (f : Nat → va_E) (rt : Nat → Nat) {fm : List Value} (hC : mC rt L f fm) {g_stopped : Nat → Int32} (F_stopped : f (rt 20) = .inl (K 2, 40, .inl g_stopped)) {g_throttle : Nat → Int32} (F_throttle : f (rt 19) = .inl (K 0, 40, .inl g_throttle)) {g_dayBudget : Nat → Int32} (F_dayBudget : f (rt 15) = .inl (K 0, 40, .inl g_dayBudget)) {g_allBudget : Nat → Int32} (F_allBudget : f (rt 16) = .inl (K 0, 40, .inl g_allBudget)) {g_sort : Nat → Int32} (F_sort : f (rt 10) = .inl (K 0, 40, .inl g_sort)) {g_promised : Nat → Int32} (F_promised : f (rt 22) = .inl (K 0, 40, .inl g_promised)) {g_promiseDay : Nat → Int32} (F_promiseDay : f (rt 23) = .inl (K 0, 40, .inl g_promiseDay)) {g_promiseFrom : Nat → Int32} (F_promiseFrom : f (rt 24) = .inl (K 0, 40, .inl g_promiseFrom)) {g_pressTick : Nat → Int32} (F_pressTick : f (rt 34) = .inl (K 0, 1000, .inl g_pressTick)) {g_saleOf : Nat → Int32} (F_saleOf : f (rt 30) = .inl (K 0, 1000, .inl g_saleOf)) {g_saleTick : Nat → Int32} (F_saleTick : f (rt 26) = .inl (K 0, 1000, .inl g_saleTick)) {g_state : Nat → Int32} (F_state : f (rt 32) = .inl (K 0, 1000, .inl g_state)) {g_pays : Nat → Int32} (F_pays : f (rt 11) = .inl (K 0, 40, .inl g_pays)) {g_price : Nat → Int32} (F_price : f (rt 31) = .inl (K 0, 1000, .inl g_price)) {nc ns : Nat} {t : Int32} (I_campaigns : fm[9]? = some (.int (nI nc))) (I_sales : fm[25]? = some (.int (nI ns))) (I_tick : fm[1]? = some (.int t)) (x : Int32) (y : Int32) (hnc : nc ≤ 40) (hns : ns ≤ 1000) (hso : ∀ j, j < ns → vp_in (g_saleOf j) 40) (hpb : ∀ c, c < 40 → g_promised c = 0 ∨ ∃ a d : Nat, d ≤ 100 ∧ a < 100 * d + 100 ∧ g_promiseDay c = nI d ∧ g_promiseFrom c = nI a) : gR l yX6_told cX6_told 3 .int 3 (dC, dI) K L f [.ref (rt 51), .int x, .int y] (fun _ => True) := by
  refine Met.ofW (cc := cX6_told) (maxL := 3) (ret := some .int) (by decide) rfl ?_
  intro p e s m args below meth c s₁ B hml hv
  obtain ⟨rfl, hP, hK⟩ := hv
  have F_m := hC.2.1
  have hx := B.exec
  have hb := B.bytes
  have hr := B.returns
  have hlocks := B.notSynchronized
  have hts0 := atoms_spec (ws := Cond.code yX6_told cX6_told 3 (some .int) :: lw_B) B.pre
  have hts : ∀ w ∈ lw_B, w.before _ s = true := fun w h => hts0 w (List.mem_cons_of_mem _ h)
  have hown : s.vm.findClass RX6 = some m.cls := findClass_of_methodNamed B.named
  have hS : va_S (fun _ => False) s.heap s.heap [] := va_S.rf
  have hl := lv_entry ([.ref (rt 51), .int x, .int y]) (n := 3) (Nat.le_of_ble_eq_true rfl)
  rw [lg_entry_eq]
  generalize (lg_sl ([.ref (rt 51), .int x, .int y]) ++ List.replicate (3 - (lg_sl ([.ref (rt 51), .int x, .int y])).length) Slot.unset).toArray = ls at hl ⊢
  have hl : lv_has ls 3 [(0, .ref (rt 51)), (1, .int x), (2, .int y)] := hl
  refine lv_aload_n hx hb dX6_told_0 rfl (lv_at hl 0 rfl) ?_
  refine lv_iload_n hx hb dX6_told_1 rfl (lv_at hl 1 rfl) ?_
  refine gc_R (ci := 6) ⟨hx, hb, hml, hown, hts⟩ (m_isCampaign l dC dI K L f rt hC I_campaigns x) 1 wm_81 wm_82 wm_83 wm_8 wm_84 (by decide +kernel) ⟨Nat.le_of_ble_eq_true rfl, Nat.le_of_ble_eq_true rfl⟩ hK rfl (hC.1.1 51 (by decide)) F_m rfl hl.1 rfl (Nat.le_of_ble_eq_true rfl) dX6_told_2 ⟨Nat.le_of_ble_eq_true rfl, Nat.le_of_ble_eq_true rfl⟩ hS hP (fun r_1 H locs hpr_1 hP hS => ?_)
  refine lv_if_ne (tgt := 12) hx hb dX6_told_5 (by decide) (fun c_2 => ?_) (fun c_2 => ?_)
  · skip
    have g_2 := k_ft hpr_1 c_2
    have hcd_cn := g_2
    obtain ⟨cn, hcn, rfl⟩ := k_ix g_2 (by omega)
    refine lv_iload_n hx hb dX6_told_12 rfl (lv_at hl 2 rfl) ?_
    rcases k_sw9 y with h9 | rfl | rfl | rfl | rfl | rfl | rfl | rfl | rfl | rfl | rfl
    · skip
      refine lv_tableOut (tgt := 191) hx hb dX6_told_13 h9 (by decide) ?_
      refine lv_ldcw (v := (-2000000)) hx hb hown (hts _ wm_110) dX6_told_191 ?_
      exact W.iret (v := (-2000000)) hx hb hr (fun t ht hW => ⟨⟨(-2000000), (), rfl, trivial, trivial⟩, hS.F ht⟩) hS.2.2 dX6_told_194
    · skip
      refine lv_tableIn (off := 55) (tgt := 68) hx hb dX6_told_13 (by decide) (by decide) rfl (by decide) ?_
      refine lv_aload_n hx hb dX6_told_68 rfl (lv_at hl 0 rfl) ?_
      refine lv_iload_n hx hb dX6_told_69 rfl (lv_at hl 1 rfl) ?_
      refine lv_iconst (v := (-1)) hx hb dX6_told_70 (by decide) ?_
      refine lv_iconst (v := 1) hx hb dX6_told_71 (by decide) ?_
      refine lv_iconst (v := 0) hx hb dX6_told_72 (by decide) ?_
      refine gc_R (ci := 6) ⟨hx, hb, hml, hown, hts⟩ (m_sum l dC dI K L f rt hC F_saleOf F_saleTick F_state F_pays F_price I_sales (nI cn) (-1) 1 0 hns hso) 4 wm_14 wm_15 wm_16 wm_8 wm_17 (by decide +kernel) ⟨Nat.le_of_ble_eq_true rfl, Nat.le_of_ble_eq_true rfl⟩ hK rfl (hC.1.1 51 (by decide)) F_m rfl hl.1 rfl (Nat.le_of_ble_eq_true rfl) dX6_told_73 ⟨Nat.le_of_ble_eq_true rfl, Nat.le_of_ble_eq_true rfl⟩ hS hP (fun r_3 H locs hpr_3 hP hS => ?_)
      exact W.iret (v := r_3) hx hb hr (fun t ht hW => ⟨⟨r_3, (), rfl, trivial, trivial⟩, hS.F ht⟩) hS.2.2 dX6_told_76
    · skip
      refine lv_tableIn (off := 64) (tgt := 77) hx hb dX6_told_13 (by decide) (by decide) rfl (by decide) ?_
      refine lv_aload_n hx hb dX6_told_77 rfl (lv_at hl 0 rfl) ?_
      refine lv_iload_n hx hb dX6_told_78 rfl (lv_at hl 1 rfl) ?_
      refine lv_aload_n hx hb dX6_told_79 rfl (lv_at hl 0 rfl) ?_
      refine g_get (ci := 6) (v := .int t) (C := RX6) (T := TX6) (N := 51) hx hb hts uB6 hown hK hP (hC.1.1 51 (by decide)) F_m rfl 1 (by decide) wm_13 I_tick dX6_told_80 ?_
      refine lv_bipush (v := 100) hx hb dX6_told_83 (by decide) ?_
      refine lv_idiv hx hb dX6_told_85 (by decide) ?_
      refine lv_topi (fun x_4 ex_4 => ?_)
      refine lv_iconst (v := 1) hx hb dX6_told_86 (by decide) ?_
      refine lv_iconst (v := 1) hx hb dX6_told_87 (by decide) ?_
      refine gc_R (ci := 6) ⟨hx, hb, hml, hown, hts⟩ (m_sum l dC dI K L f rt hC F_saleOf F_saleTick F_state F_pays F_price I_sales (nI cn) x_4 1 1 hns hso) 4 wm_14 wm_15 wm_16 wm_8 wm_17 (by decide +kernel) ⟨Nat.le_of_ble_eq_true rfl, Nat.le_of_ble_eq_true rfl⟩ hK rfl (hC.1.1 51 (by decide)) F_m rfl hl.1 rfl (Nat.le_of_ble_eq_true rfl) dX6_told_88 ⟨Nat.le_of_ble_eq_true rfl, Nat.le_of_ble_eq_true rfl⟩ hS hP (fun r_5 H locs hpr_5 hP hS => ?_)
      exact W.iret (v := r_5) hx hb hr (fun t ht hW => ⟨⟨r_5, (), rfl, trivial, trivial⟩, hS.F ht⟩) hS.2.2 dX6_told_91
    · skip
      refine lv_tableIn (off := 79) (tgt := 92) hx hb dX6_told_13 (by decide) (by decide) rfl (by decide) ?_
      refine lv_aload_n hx hb dX6_told_92 rfl (lv_at hl 0 rfl) ?_
      refine lv_iload_n hx hb dX6_told_93 rfl (lv_at hl 1 rfl) ?_
      refine lv_iconst (v := (-1)) hx hb dX6_told_94 (by decide) ?_
      refine lv_iconst (v := 0) hx hb dX6_told_95 (by decide) ?_
      refine lv_iconst (v := 1) hx hb dX6_told_96 (by decide) ?_
      refine gc_R (ci := 6) ⟨hx, hb, hml, hown, hts⟩ (m_sum l dC dI K L f rt hC F_saleOf F_saleTick F_state F_pays F_price I_sales (nI cn) (-1) 0 1 hns hso) 4 wm_14 wm_15 wm_16 wm_8 wm_17 (by decide +kernel) ⟨Nat.le_of_ble_eq_true rfl, Nat.le_of_ble_eq_true rfl⟩ hK rfl (hC.1.1 51 (by decide)) F_m rfl hl.1 rfl (Nat.le_of_ble_eq_true rfl) dX6_told_97 ⟨Nat.le_of_ble_eq_true rfl, Nat.le_of_ble_eq_true rfl⟩ hS hP (fun r_6 H locs hpr_6 hP hS => ?_)
      exact W.iret (v := r_6) hx hb hr (fun t ht hW => ⟨⟨r_6, (), rfl, trivial, trivial⟩, hS.F ht⟩) hS.2.2 dX6_told_100
    · skip
      refine lv_tableIn (off := 88) (tgt := 101) hx hb dX6_told_13 (by decide) (by decide) rfl (by decide) ?_
      refine lv_aload_n hx hb dX6_told_101 rfl (lv_at hl 0 rfl) ?_
      refine lv_iload_n hx hb dX6_told_102 rfl (lv_at hl 1 rfl) ?_
      refine lv_sipush (v := 10001) hx hb dX6_told_103 (by decide) ?_
      refine gc_R (ci := 6) ⟨hx, hb, hml, hown, hts⟩ (m_showings l dC dI K L f rt hC F_saleOf F_state F_saleTick I_sales (nI cn) 10001 hns) 2 wm_23 wm_24 wm_25 wm_8 wm_26 (by decide +kernel) ⟨Nat.le_of_ble_eq_true rfl, Nat.le_of_ble_eq_true rfl⟩ hK rfl (hC.1.1 51 (by decide)) F_m rfl hl.1 rfl (Nat.le_of_ble_eq_true rfl) dX6_told_106 ⟨Nat.le_of_ble_eq_true rfl, Nat.le_of_ble_eq_true rfl⟩ hS hP (fun r_7 H locs hpr_7 hP hS => ?_)
      exact W.iret (v := r_7) hx hb hr (fun t ht hW => ⟨⟨r_7, (), rfl, trivial, trivial⟩, hS.F ht⟩) hS.2.2 dX6_told_109
    · skip
      refine lv_tableIn (off := 97) (tgt := 110) hx hb dX6_told_13 (by decide) (by decide) rfl (by decide) ?_
      refine lv_aload_n hx hb dX6_told_110 rfl (lv_at hl 0 rfl) ?_
      refine lv_iload_n hx hb dX6_told_111 rfl (lv_at hl 1 rfl) ?_
      refine lv_sipush (v := 10001) hx hb dX6_told_112 (by decide) ?_
      refine gc_R (ci := 6) ⟨hx, hb, hml, hown, hts⟩ (m_presses l dC dI K L f rt hC F_saleOf F_state F_pressTick I_sales (nI cn) 10001 hns) 2 wm_58 wm_59 wm_60 wm_8 wm_61 (by decide +kernel) ⟨Nat.le_of_ble_eq_true rfl, Nat.le_of_ble_eq_true rfl⟩ hK rfl (hC.1.1 51 (by decide)) F_m rfl hl.1 rfl (Nat.le_of_ble_eq_true rfl) dX6_told_115 ⟨Nat.le_of_ble_eq_true rfl, Nat.le_of_ble_eq_true rfl⟩ hS hP (fun r_8 H locs hpr_8 hP hS => ?_)
      exact W.iret (v := r_8) hx hb hr (fun t ht hW => ⟨⟨r_8, (), rfl, trivial, trivial⟩, hS.F ht⟩) hS.2.2 dX6_told_118
    · skip
      refine lv_tableIn (off := 106) (tgt := 119) hx hb dX6_told_13 (by decide) (by decide) rfl (by decide) ?_
      refine lv_aload_n hx hb dX6_told_119 rfl (lv_at hl 0 rfl) ?_
      refine g_get (ci := 6) (v := .ref (rt 19)) (C := RX6) (T := TX6) (N := 51) hx hb hts uB6 hown hK hP (hC.1.1 51 (by decide)) F_m rfl 19 (by decide) wm_38 (hC.2.2.2 19 (by decide)) dX6_told_120 ?_
      refine lv_iload_n hx hb dX6_told_123 rfl (lv_at hl 1 rfl) ?_
      refine g_iald hx hb hK hP (hC.1.1 19 (by decide)) F_throttle (vp_in_nI (by omega) (by decide)) dX6_told_124 ?_
      refine lv_topi (fun x_9 ex_9 => ?_)
      rw [nI_clamp (by omega)] at ex_9
      exact W.iret (v := x_9) hx hb hr (fun t ht hW => ⟨⟨x_9, (), rfl, trivial, trivial⟩, hS.F ht⟩) hS.2.2 dX6_told_125
    · skip
      refine lv_tableIn (off := 113) (tgt := 126) hx hb dX6_told_13 (by decide) (by decide) rfl (by decide) ?_
      refine lv_aload_n hx hb dX6_told_126 rfl (lv_at hl 0 rfl) ?_
      refine lv_iload_n hx hb dX6_told_127 rfl (lv_at hl 1 rfl) ?_
      refine gc_R (ci := 6) ⟨hx, hb, hml, hown, hts⟩ (m_isBehind l dC dI K L f rt hC F_sort F_promised F_promiseDay F_promiseFrom F_saleOf F_state F_saleTick I_sales I_tick cn hns hpb (by omega)) 1 wm_53 wm_54 wm_55 wm_8 wm_56 (by decide +kernel) ⟨Nat.le_of_ble_eq_true rfl, Nat.le_of_ble_eq_true rfl⟩ hK rfl (hC.1.1 51 (by decide)) F_m rfl hl.1 rfl (Nat.le_of_ble_eq_true rfl) dX6_told_128 ⟨Nat.le_of_ble_eq_true rfl, Nat.le_of_ble_eq_true rfl⟩ hS hP (fun r_10 H locs hpr_10 hP hS => ?_)
      refine lv_if_eq (tgt := 138) hx hb dX6_told_131 (by decide) (fun c_11 => ?_) (fun c_11 => ?_)
      · skip
        refine lv_iconst (v := 0) hx hb dX6_told_138 (by decide) ?_
        exact W.iret (v := 0) hx hb hr (fun t ht hW => ⟨⟨0, (), rfl, trivial, trivial⟩, hS.F ht⟩) hS.2.2 dX6_told_139
      · skip
        refine lv_iconst (v := 1) hx hb dX6_told_134 (by decide) ?_
        refine lv_goto (tgt := 139) hx hb dX6_told_135 (by decide) ?_
        exact W.iret (v := 1) hx hb hr (fun t ht hW => ⟨⟨1, (), rfl, trivial, trivial⟩, hS.F ht⟩) hS.2.2 dX6_told_139
    · skip
      refine lv_tableIn (off := 127) (tgt := 140) hx hb dX6_told_13 (by decide) (by decide) rfl (by decide) ?_
      refine lv_aload_n hx hb dX6_told_140 rfl (lv_at hl 0 rfl) ?_
      refine lv_iload_n hx hb dX6_told_141 rfl (lv_at hl 1 rfl) ?_
      refine gc_R (ci := 6) ⟨hx, hb, hml, hown, hts⟩ (m_leftOfDay l dC dI K L f rt hC F_dayBudget F_saleOf F_saleTick F_state F_pays F_price I_sales I_tick cn hns hso (by omega)) 1 wm_39 wm_40 wm_41 wm_8 wm_42 (by decide +kernel) ⟨Nat.le_of_ble_eq_true rfl, Nat.le_of_ble_eq_true rfl⟩ hK rfl (hC.1.1 51 (by decide)) F_m rfl hl.1 rfl (Nat.le_of_ble_eq_true rfl) dX6_told_142 ⟨Nat.le_of_ble_eq_true rfl, Nat.le_of_ble_eq_true rfl⟩ hS hP (fun r_12 H locs hpr_12 hP hS => ?_)
      refine lv_if_ge (tgt := 152) hx hb dX6_told_145 (by decide) (fun c_13 => ?_) (fun c_13 => ?_)
      · skip
        refine lv_aload_n hx hb dX6_told_152 rfl (lv_at hl 0 rfl) ?_
        refine lv_iload_n hx hb dX6_told_153 rfl (lv_at hl 1 rfl) ?_
        refine gc_R (ci := 6) ⟨hx, hb, hml, hown, hts⟩ (m_leftOfDay l dC dI K L f rt hC F_dayBudget F_saleOf F_saleTick F_state F_pays F_price I_sales I_tick cn hns hso (by omega)) 1 wm_39 wm_40 wm_41 wm_8 wm_42 (by decide +kernel) ⟨Nat.le_of_ble_eq_true rfl, Nat.le_of_ble_eq_true rfl⟩ hK rfl (hC.1.1 51 (by decide)) F_m rfl hl.1 rfl (Nat.le_of_ble_eq_true rfl) dX6_told_154 ⟨Nat.le_of_ble_eq_true rfl, Nat.le_of_ble_eq_true rfl⟩ hS hP (fun r_14 H locs hpr_14 hP hS => ?_)
        exact W.iret (v := r_14) hx hb hr (fun t ht hW => ⟨⟨r_14, (), rfl, trivial, trivial⟩, hS.F ht⟩) hS.2.2 dX6_told_157
      · skip
        refine lv_iconst (v := 0) hx hb dX6_told_148 (by decide) ?_
        refine lv_goto (tgt := 157) hx hb dX6_told_149 (by decide) ?_
        exact W.iret (v := 0) hx hb hr (fun t ht hW => ⟨⟨0, (), rfl, trivial, trivial⟩, hS.F ht⟩) hS.2.2 dX6_told_157
    · skip
      refine lv_tableIn (off := 145) (tgt := 158) hx hb dX6_told_13 (by decide) (by decide) rfl (by decide) ?_
      refine lv_aload_n hx hb dX6_told_158 rfl (lv_at hl 0 rfl) ?_
      refine lv_iload_n hx hb dX6_told_159 rfl (lv_at hl 1 rfl) ?_
      refine gc_R (ci := 6) ⟨hx, hb, hml, hown, hts⟩ (m_leftInAll l dC dI K L f rt hC F_allBudget F_saleOf F_saleTick F_state F_pays F_price I_sales cn hns hso (by omega)) 1 wm_44 wm_45 wm_46 wm_8 wm_47 (by decide +kernel) ⟨Nat.le_of_ble_eq_true rfl, Nat.le_of_ble_eq_true rfl⟩ hK rfl (hC.1.1 51 (by decide)) F_m rfl hl.1 rfl (Nat.le_of_ble_eq_true rfl) dX6_told_160 ⟨Nat.le_of_ble_eq_true rfl, Nat.le_of_ble_eq_true rfl⟩ hS hP (fun r_15 H locs hpr_15 hP hS => ?_)
      refine lv_if_ge (tgt := 170) hx hb dX6_told_163 (by decide) (fun c_16 => ?_) (fun c_16 => ?_)
      · skip
        refine lv_aload_n hx hb dX6_told_170 rfl (lv_at hl 0 rfl) ?_
        refine lv_iload_n hx hb dX6_told_171 rfl (lv_at hl 1 rfl) ?_
        refine gc_R (ci := 6) ⟨hx, hb, hml, hown, hts⟩ (m_leftInAll l dC dI K L f rt hC F_allBudget F_saleOf F_saleTick F_state F_pays F_price I_sales cn hns hso (by omega)) 1 wm_44 wm_45 wm_46 wm_8 wm_47 (by decide +kernel) ⟨Nat.le_of_ble_eq_true rfl, Nat.le_of_ble_eq_true rfl⟩ hK rfl (hC.1.1 51 (by decide)) F_m rfl hl.1 rfl (Nat.le_of_ble_eq_true rfl) dX6_told_172 ⟨Nat.le_of_ble_eq_true rfl, Nat.le_of_ble_eq_true rfl⟩ hS hP (fun r_17 H locs hpr_17 hP hS => ?_)
        exact W.iret (v := r_17) hx hb hr (fun t ht hW => ⟨⟨r_17, (), rfl, trivial, trivial⟩, hS.F ht⟩) hS.2.2 dX6_told_175
      · skip
        refine lv_iconst (v := 0) hx hb dX6_told_166 (by decide) ?_
        refine lv_goto (tgt := 175) hx hb dX6_told_167 (by decide) ?_
        exact W.iret (v := 0) hx hb hr (fun t ht hW => ⟨⟨0, (), rfl, trivial, trivial⟩, hS.F ht⟩) hS.2.2 dX6_told_175
    · skip
      refine lv_tableIn (off := 163) (tgt := 176) hx hb dX6_told_13 (by decide) (by decide) rfl (by decide) ?_
      refine lv_aload_n hx hb dX6_told_176 rfl (lv_at hl 0 rfl) ?_
      refine g_get (ci := 6) (v := .ref (rt 20)) (C := RX6) (T := TX6) (N := 51) hx hb hts uB6 hown hK hP (hC.1.1 51 (by decide)) F_m rfl 20 (by decide) wm_29 (hC.2.2.2 20 (by decide)) dX6_told_177 ?_
      refine lv_iload_n hx hb dX6_told_180 rfl (lv_at hl 1 rfl) ?_
      refine g_zald hx hb hK hP (hC.1.1 20 (by decide)) F_stopped (vp_in_nI (by omega) (by decide)) dX6_told_181 ?_
      refine lv_topi (fun x_18 ex_18 => ?_)
      rw [nI_clamp (by omega)] at ex_18
      refine lv_if_eq (tgt := 189) hx hb dX6_told_182 (by decide) (fun c_19 => ?_) (fun c_19 => ?_)
      · skip
        refine lv_iconst (v := 0) hx hb dX6_told_189 (by decide) ?_
        exact W.iret (v := 0) hx hb hr (fun t ht hW => ⟨⟨0, (), rfl, trivial, trivial⟩, hS.F ht⟩) hS.2.2 dX6_told_190
      · skip
        refine lv_iconst (v := 1) hx hb dX6_told_185 (by decide) ?_
        refine lv_goto (tgt := 190) hx hb dX6_told_186 (by decide) ?_
        exact W.iret (v := 1) hx hb hr (fun t ht hW => ⟨⟨1, (), rfl, trivial, trivial⟩, hS.F ht⟩) hS.2.2 dX6_told_190
  · skip
    have g_2 := k_ff hpr_1 c_2
    refine lv_ldcw (v := (-2000000)) hx hb hown (hts _ wm_110) dX6_told_8 ?_
    exact W.iret (v := (-2000000)) hx hb hr (fun t ht hW => ⟨⟨(-2000000), (), rfl, trivial, trivial⟩, hS.F ht⟩) hS.2.2 dX6_told_11
set_option maxHeartbeats 4000000 in
set_option maxRecDepth 100000 in
theorem m_chance (l : Launch) (dC : Nat → ClassId) (dI : Nat → Nat → Nat) (K : Nat → ClassId) (L : List Nat) (f : Nat → va_E) (rt : Nat → Nat) {fm : List Value} (hC : mC rt L f fm) {g_saleOf : Nat → Int32} (F_saleOf : f (rt 30) = .inl (K 0, 1000, .inl g_saleOf)) {g_state : Nat → Int32} (F_state : f (rt 32) = .inl (K 0, 1000, .inl g_state)) {g_saleTick : Nat → Int32} (F_saleTick : f (rt 26) = .inl (K 0, 1000, .inl g_saleTick)) {g_pressTick : Nat → Int32} (F_pressTick : f (rt 34) = .inl (K 0, 1000, .inl g_pressTick)) {nc ns : Nat} {t : Int32} (I_campaigns : fm[9]? = some (.int (nI nc))) (I_sales : fm[25]? = some (.int (nI ns))) (I_tick : fm[1]? = some (.int t)) (x : Int32) (hnc : nc ≤ 40) (hns : ns ≤ 1000) : gR l yX6_chance cX6_chance 2 .int 2 (dC, dI) K L f [.ref (rt 51), .int x] (fun _ => True) := by
  refine Met.ofW (cc := cX6_chance) (maxL := 2) (ret := some .int) (by decide) rfl ?_
  intro p e s m args below meth c s₁ B hml hv
  obtain ⟨rfl, hP, hK⟩ := hv
  have F_m := hC.2.1
  have hx := B.exec
  have hb := B.bytes
  have hr := B.returns
  have hlocks := B.notSynchronized
  have hts0 := atoms_spec (ws := Cond.code yX6_chance cX6_chance 2 (some .int) :: lw_B) B.pre
  have hts : ∀ w ∈ lw_B, w.before _ s = true := fun w h => hts0 w (List.mem_cons_of_mem _ h)
  have hown : s.vm.findClass RX6 = some m.cls := findClass_of_methodNamed B.named
  have hS : va_S (fun _ => False) s.heap s.heap [] := va_S.rf
  have hl := lv_entry ([.ref (rt 51), .int x]) (n := 2) (Nat.le_of_ble_eq_true rfl)
  rw [lg_entry_eq]
  generalize (lg_sl ([.ref (rt 51), .int x]) ++ List.replicate (2 - (lg_sl ([.ref (rt 51), .int x])).length) Slot.unset).toArray = ls at hl ⊢
  have hl : lv_has ls 2 [(0, .ref (rt 51)), (1, .int x)] := hl
  refine lv_aload_n hx hb dX6_chance_0 rfl (lv_at hl 0 rfl) ?_
  refine lv_iload_n hx hb dX6_chance_1 rfl (lv_at hl 1 rfl) ?_
  refine gc_R (ci := 6) ⟨hx, hb, hml, hown, hts⟩ (m_isCampaign l dC dI K L f rt hC I_campaigns x) 1 wm_81 wm_82 wm_83 wm_8 wm_84 (by decide +kernel) ⟨Nat.le_of_ble_eq_true rfl, Nat.le_of_ble_eq_true rfl⟩ hK rfl (hC.1.1 51 (by decide)) F_m rfl hl.1 rfl (Nat.le_of_ble_eq_true rfl) dX6_chance_2 ⟨Nat.le_of_ble_eq_true rfl, Nat.le_of_ble_eq_true rfl⟩ hS hP (fun r_1 H locs hpr_1 hP hS => ?_)
  refine lv_if_eq (tgt := 42) hx hb dX6_chance_5 (by decide) (fun c_2 => ?_) (fun c_2 => ?_)
  · skip
    have g_2 := k_ff hpr_1 c_2
    refine lv_iconst (v := (-1)) hx hb dX6_chance_42 (by decide) ?_
    exact W.iret (v := (-1)) hx hb hr (fun t ht hW => ⟨⟨(-1), (), rfl, trivial, trivial⟩, hS.F ht⟩) hS.2.2 dX6_chance_43
  · skip
    have g_2 := k_ft hpr_1 c_2
    have hcd_cn := g_2
    obtain ⟨cn, hcn, rfl⟩ := k_ix g_2 (by omega)
    refine lv_aload_n hx hb dX6_chance_8 rfl (lv_at hl 0 rfl) ?_
    refine lv_iload_n hx hb dX6_chance_9 rfl (lv_at hl 1 rfl) ?_
    refine lv_aload_n hx hb dX6_chance_10 rfl (lv_at hl 0 rfl) ?_
    refine g_get (ci := 6) (v := .int t) (C := RX6) (T := TX6) (N := 51) hx hb hts uB6 hown hK hP (hC.1.1 51 (by decide)) F_m rfl 1 (by decide) wm_13 I_tick dX6_chance_11 ?_
    refine gc_R (ci := 6) ⟨hx, hb, hml, hown, hts⟩ (m_presses l dC dI K L f rt hC F_saleOf F_state F_pressTick I_sales (nI cn) t hns) 2 wm_58 wm_59 wm_60 wm_8 wm_61 (by decide +kernel) ⟨Nat.le_of_ble_eq_true rfl, Nat.le_of_ble_eq_true rfl⟩ hK rfl (hC.1.1 51 (by decide)) F_m rfl hl.1 rfl (Nat.le_of_ble_eq_true rfl) dX6_chance_14 ⟨Nat.le_of_ble_eq_true rfl, Nat.le_of_ble_eq_true rfl⟩ hS hP (fun r_3 H locs hpr_3 hP hS => ?_)
    refine lv_iconst (v := 1) hx hb dX6_chance_17 (by decide) ?_
    refine lv_iadd hx hb dX6_chance_18 ?_
    refine lv_topi (fun x_4 ex_4 => ?_)
    refine lv_i2l hx hb dX6_chance_19 rfl ?_
    refine lv_topl (fun x_5 ex_5 => ?_)
    refine lv_ldc2 (v := 1000000) hx hb hown (hts _ wm_117) dX6_chance_20 ?_
    refine lv_lmul hx hb dX6_chance_23 ?_
    refine lv_topl (fun x_6 ex_6 => ?_)
    refine lv_aload_n hx hb dX6_chance_24 rfl (lv_at hl 0 rfl) ?_
    refine lv_iload_n hx hb dX6_chance_25 rfl (lv_at hl 1 rfl) ?_
    refine lv_aload_n hx hb dX6_chance_26 rfl (lv_at hl 0 rfl) ?_
    refine g_get (ci := 6) (v := .int t) (C := RX6) (T := TX6) (N := 51) hx hb hts uB6 hown hK hP (hC.1.1 51 (by decide)) F_m rfl 1 (by decide) wm_13 I_tick dX6_chance_27 ?_
    refine gc_R (ci := 6) ⟨hx, hb, hml, hown, hts⟩ (m_showings l dC dI K L f rt hC F_saleOf F_state F_saleTick I_sales (nI cn) t hns) 2 wm_23 wm_24 wm_25 wm_8 wm_26 (by decide +kernel) ⟨Nat.le_of_ble_eq_true rfl, Nat.le_of_ble_eq_true rfl⟩ hK rfl (hC.1.1 51 (by decide)) F_m rfl hl.1 rfl (Nat.le_of_ble_eq_true rfl) dX6_chance_30 ⟨Nat.le_of_ble_eq_true rfl, Nat.le_of_ble_eq_true rfl⟩ hS hP (fun r_7 H locs hpr_7 hP hS => ?_)
    obtain ⟨q2, hq2, rfl⟩ := hpr_7
    refine lv_bipush (v := 20) hx hb dX6_chance_33 (by decide) ?_
    refine lv_iadd hx hb dX6_chance_35 ?_
    refine lv_topi (fun x_8 ex_8 => ?_)
    refine lv_i2l hx hb dX6_chance_36 rfl ?_
    refine lv_topl (fun x_9 ex_9 => ?_)
    refine lv_ldiv hx hb dX6_chance_37 (by subst ex_9 ex_8; exact k_20 (by omega)) ?_
    refine lv_topl (fun x_10 ex_10 => ?_)
    refine lv_l2i hx hb dX6_chance_38 rfl ?_
    refine lv_topi (fun x_11 ex_11 => ?_)
    refine lv_goto (tgt := 43) hx hb dX6_chance_39 (by decide) ?_
    exact W.iret (v := x_11) hx hb hr (fun t ht hW => ⟨⟨x_11, (), rfl, trivial, trivial⟩, hS.F ht⟩) hS.2.2 dX6_chance_43
set_option maxHeartbeats 4000000 in
set_option maxRecDepth 100000 in
theorem m_draw (l : Launch) (dC : Nat → ClassId) (dI : Nat → Nat → Nat) (K : Nat → ClassId) (L : List Nat) (f : Nat → va_E) (rt : Nat → Nat) {fm : List Value} (hC : mC rt L f fm) {nc : Nat} {t : Int32} (I_campaigns : fm[9]? = some (.int (nI nc))) (I_tick : fm[1]? = some (.int t)) (x : Int32) (y : Int32) (hnc : nc ≤ 40) : gR l yX6_draw cX6_draw 3 .int 2 (dC, dI) K L f [.ref (rt 51), .int x, .int y] (fun r => r = if (0 ≤ x ∧ x ≤ nI nc - 1) ∧ (0 ≤ y ∧ y ≤ 99) then drw t y x else (-1)) := by
  refine Met.ofW (cc := cX6_draw) (maxL := 3) (ret := some .int) (by decide) rfl ?_
  intro p e s m args below meth c s₁ B hml hv
  obtain ⟨rfl, hP, hK⟩ := hv
  have F_m := hC.2.1
  have hx := B.exec
  have hb := B.bytes
  have hr := B.returns
  have hlocks := B.notSynchronized
  have hts0 := atoms_spec (ws := Cond.code yX6_draw cX6_draw 3 (some .int) :: lw_B) B.pre
  have hts : ∀ w ∈ lw_B, w.before _ s = true := fun w h => hts0 w (List.mem_cons_of_mem _ h)
  have hown : s.vm.findClass RX6 = some m.cls := findClass_of_methodNamed B.named
  have hS : va_S (fun _ => False) s.heap s.heap [] := va_S.rf
  have hl := lv_entry ([.ref (rt 51), .int x, .int y]) (n := 3) (Nat.le_of_ble_eq_true rfl)
  rw [lg_entry_eq]
  generalize (lg_sl ([.ref (rt 51), .int x, .int y]) ++ List.replicate (3 - (lg_sl ([.ref (rt 51), .int x, .int y])).length) Slot.unset).toArray = ls at hl ⊢
  have hl : lv_has ls 3 [(0, .ref (rt 51)), (1, .int x), (2, .int y)] := hl
  refine lv_aload_n hx hb dX6_draw_0 rfl (lv_at hl 0 rfl) ?_
  refine lv_iload_n hx hb dX6_draw_1 rfl (lv_at hl 1 rfl) ?_
  refine gc_R (ci := 6) ⟨hx, hb, hml, hown, hts⟩ (m_isCampaign l dC dI K L f rt hC I_campaigns x) 1 wm_81 wm_82 wm_83 wm_8 wm_84 (by decide +kernel) ⟨Nat.le_of_ble_eq_true rfl, Nat.le_of_ble_eq_true rfl⟩ hK rfl (hC.1.1 51 (by decide)) F_m rfl hl.1 rfl (Nat.le_of_ble_eq_true rfl) dX6_draw_2 ⟨Nat.le_of_ble_eq_true rfl, Nat.le_of_ble_eq_true rfl⟩ hS hP (fun r_1 H locs hpr_1 hP hS => ?_)
  refine lv_if_eq (tgt := 24) hx hb dX6_draw_5 (by decide) (fun c_2 => ?_) (fun c_2 => ?_)
  · skip
    have g_2 := k_ff hpr_1 c_2
    refine lv_iconst (v := (-1)) hx hb dX6_draw_24 (by decide) ?_
    exact W.iret (v := (-1)) hx hb hr (fun t ht hW => ⟨⟨(-1), (), rfl, (if_neg (by simp only [Int32.lt_iff_toInt_lt, Int32.le_iff_toInt_le, ← Int32.toInt_inj, Int32.reduceToInt] at g_2 ⊢; omega)).symm, trivial⟩, hS.F ht⟩) hS.2.2 dX6_draw_25
  · skip
    have g_2 := k_ft hpr_1 c_2
    refine lv_iload_n hx hb dX6_draw_8 rfl (lv_at hl 2 rfl) ?_
    refine k_S ⟨hx, hb, hml, hown, hts⟩ (c_mReader l y) 1 wm_92 wm_93 wm_8 wm_94 (by decide +kernel) ⟨Nat.le_of_ble_eq_true rfl, Nat.le_of_ble_eq_true rfl⟩ rfl hl.1 rfl (Nat.le_of_ble_eq_true rfl) dX6_draw_9 ⟨Nat.le_of_ble_eq_true rfl, Nat.le_of_ble_eq_true rfl⟩ hS hP (fun r_3 H locs hpr_3 hP hS => ?_)
    refine lv_if_eq (tgt := 24) hx hb dX6_draw_12 (by decide) (fun c_4 => ?_) (fun c_4 => ?_)
    · skip
      have g_4 := k_ff hpr_3 c_4
      refine lv_iconst (v := (-1)) hx hb dX6_draw_24 (by decide) ?_
      exact W.iret (v := (-1)) hx hb hr (fun t ht hW => ⟨⟨(-1), (), rfl, (if_neg (by simp only [Int32.lt_iff_toInt_lt, Int32.le_iff_toInt_le, ← Int32.toInt_inj, Int32.reduceToInt] at g_2 g_4 ⊢; omega)).symm, trivial⟩, hS.F ht⟩) hS.2.2 dX6_draw_25
    · skip
      have g_4 := k_ft hpr_3 c_4
      refine lv_aload_n hx hb dX6_draw_15 rfl (lv_at hl 0 rfl) ?_
      refine lv_iload_n hx hb dX6_draw_16 rfl (lv_at hl 1 rfl) ?_
      refine lv_iload_n hx hb dX6_draw_17 rfl (lv_at hl 2 rfl) ?_
      refine gc_R (ci := 6) ⟨hx, hb, hml, hown, hts⟩ (m_drawOf l dC dI K L f rt hC I_tick x y) 2 wm_34 wm_35 wm_36 wm_8 wm_37 (by decide +kernel) ⟨Nat.le_of_ble_eq_true rfl, Nat.le_of_ble_eq_true rfl⟩ hK rfl (hC.1.1 51 (by decide)) F_m rfl hl.1 rfl (Nat.le_of_ble_eq_true rfl) dX6_draw_18 ⟨Nat.le_of_ble_eq_true rfl, Nat.le_of_ble_eq_true rfl⟩ hS hP (fun r_5 H locs hpr_5 hP hS => ?_)
      refine lv_goto (tgt := 25) hx hb dX6_draw_21 (by decide) ?_
      exact W.iret (v := r_5) hx hb hr (fun t ht hW => ⟨⟨r_5, (), rfl, (hpr_5.trans (if_pos (by simp only [Int32.lt_iff_toInt_lt, Int32.le_iff_toInt_le, ← Int32.toInt_inj, Int32.reduceToInt] at g_2 g_4 ⊢; omega)).symm), trivial⟩, hS.F ht⟩) hS.2.2 dX6_draw_25
set_option maxHeartbeats 4000000 in
set_option maxRecDepth 100000 in
theorem m_income (l : Launch) (dC : Nat → ClassId) (dI : Nat → Nat → Nat) (K : Nat → ClassId) (L : List Nat) (f : Nat → va_E) (rt : Nat → Nat) {fm : List Value} (hC : mC rt L f fm) {g_salePage : Nat → Int32} (F_salePage : f (rt 28) = .inl (K 0, 1000, .inl g_salePage)) {g_state : Nat → Int32} (F_state : f (rt 32) = .inl (K 0, 1000, .inl g_state)) {g_saleOf : Nat → Int32} (F_saleOf : f (rt 30) = .inl (K 0, 1000, .inl g_saleOf)) {g_pays : Nat → Int32} (F_pays : f (rt 11) = .inl (K 0, 40, .inl g_pays)) {g_price : Nat → Int32} (F_price : f (rt 31) = .inl (K 0, 1000, .inl g_price)) {np ns : Nat} (I_pages : fm[5]? = some (.int (nI np))) (I_sales : fm[25]? = some (.int (nI ns))) (x : Int32) (hns : ns ≤ 1000) (hso : ∀ j, j < ns → vp_in (g_saleOf j) 40) : gR l yX6_income cX6_income 4 .int 2 (dC, dI) K L f [.ref (rt 51), .int x] (fun _ => True) := by
  refine Met.ofW (cc := cX6_income) (maxL := 4) (ret := some .int) (by decide) rfl ?_
  intro p e s m args below meth c s₁ B hml hv
  obtain ⟨rfl, hP, hK⟩ := hv
  have F_m := hC.2.1
  have hx := B.exec
  have hb := B.bytes
  have hr := B.returns
  have hlocks := B.notSynchronized
  have hts0 := atoms_spec (ws := Cond.code yX6_income cX6_income 4 (some .int) :: lw_B) B.pre
  have hts : ∀ w ∈ lw_B, w.before _ s = true := fun w h => hts0 w (List.mem_cons_of_mem _ h)
  have hown : s.vm.findClass RX6 = some m.cls := findClass_of_methodNamed B.named
  have hS : va_S (fun _ => False) s.heap s.heap [] := va_S.rf
  have hl := lv_entry ([.ref (rt 51), .int x]) (n := 4) (Nat.le_of_ble_eq_true rfl)
  rw [lg_entry_eq]
  generalize (lg_sl ([.ref (rt 51), .int x]) ++ List.replicate (4 - (lg_sl ([.ref (rt 51), .int x])).length) Slot.unset).toArray = ls at hl ⊢
  have hl : lv_has ls 4 [(0, .ref (rt 51)), (1, .int x)] := hl
  refine lv_aload_n hx hb dX6_income_0 rfl (lv_at hl 0 rfl) ?_
  refine lv_iload_n hx hb dX6_income_1 rfl (lv_at hl 1 rfl) ?_
  refine gc_R (ci := 6) ⟨hx, hb, hml, hown, hts⟩ (m_isPage l dC dI K L f rt hC I_pages x) 1 wm_95 wm_96 wm_97 wm_8 wm_98 (by decide +kernel) ⟨Nat.le_of_ble_eq_true rfl, Nat.le_of_ble_eq_true rfl⟩ hK rfl (hC.1.1 51 (by decide)) F_m rfl hl.1 rfl (Nat.le_of_ble_eq_true rfl) dX6_income_2 ⟨Nat.le_of_ble_eq_true rfl, Nat.le_of_ble_eq_true rfl⟩ hS hP (fun r_1 H locs hpr_1 hP hS => ?_)
  refine lv_if_ne (tgt := 10) hx hb dX6_income_5 (by decide) (fun c_2 => ?_) (fun c_2 => ?_)
  · skip
    have g_2 := k_ft hpr_1 c_2
    refine lv_iconst (v := 0) hx hb dX6_income_10 (by decide) ?_
    refine lv_istore_n (lv' := [(2, .int 0), (0, .ref (rt 51)), (1, .int x)]) hx hb dX6_income_11 rfl hl (by decide) rfl (fun ls hl => ?_)
    refine lv_iconst (v := 0) hx hb dX6_income_12 (by decide) ?_
    refine lv_istore_n (lv' := [(3, .int 0), (2, .int 0), (0, .ref (rt 51)), (1, .int x)]) hx hb dX6_income_13 rfl hl (by decide) rfl (fun ls hl => ?_)
    refine k_lx (pcx := 51) (fun n H locs ls => ∃ (j : Nat) (acc : Int32), j + n = ns ∧ True ∧ va_P (dC, dI) vwCl (va_pl L f) H ∧ va_S (fun _ => False) s.heap H locs ∧ lv_has ls 4 [(0, .ref (rt 51)), (1, .int x), (2, .int acc), (3, .int (nI j))]) (fun H locs ls => ∃ (j : Nat) (acc : Int32), j = ns ∧ True ∧ va_P (dC, dI) vwCl (va_pl L f) H ∧ va_S (fun _ => False) s.heap H locs ∧ lv_has ls 4 [(0, .ref (rt 51)), (1, .int x), (2, .int acc), (3, .int (nI j))]) (fun H locs ls hI => ?_) (fun n H locs ls hI hE ih => ?_) ns _ _ _ ⟨0, _, by omega, trivial, hP, hS, lv_sub hl [2, 3, 1, 0] rfl⟩
    · skip
      obtain ⟨j, acc, hj, hacc, hP, hS, hl⟩ := hI
      refine lv_iload_n hx hb dX6_income_51 rfl (lv_at hl 2 rfl) ?_
      exact W.iret (v := acc) hx hb hr (fun t ht hW => ⟨⟨acc, (), rfl, trivial, trivial⟩, hS.F ht⟩) hS.2.2 dX6_income_52
    · skip
      obtain ⟨j, acc, hj, hacc, hP, hS, hl⟩ := hI
      refine lv_iload_n hx hb dX6_income_14 rfl (lv_at hl 3 rfl) ?_
      refine lv_aload_n hx hb dX6_income_15 rfl (lv_at hl 0 rfl) ?_
      refine g_get (ci := 6) (v := .int (nI ns)) (C := RX6) (T := TX6) (N := 51) hx hb hts uB6 hown hK hP (hC.1.1 51 (by decide)) F_m rfl 25 (by decide) wm_4 I_sales dX6_income_16 ?_
      refine lv_icmp_ge (tgt := 51) hx hb dX6_income_19 (by decide) (fun c_3 => ?_) (fun c_3 => ?_)
      · skip
        have hjn : j = ns := by have := (nI_leI (a := ns) (b := j) (by omega) (by omega)).mp c_3; omega
        exact hE _ _ _ ⟨j, _, by omega, hacc, hP, hS, lv_sub hl [0, 1, 2, 3] rfl⟩
      · skip
        have hjn : j < ns := by rcases Nat.lt_or_ge j ns with q | q; exact q; exact absurd (nI_le q (by omega)) c_3
        refine lv_iload_n hx hb dX6_income_22 rfl (lv_at hl 2 rfl) ?_
        refine lv_aload_n hx hb dX6_income_23 rfl (lv_at hl 0 rfl) ?_
        refine g_get (ci := 6) (v := .ref (rt 28)) (C := RX6) (T := TX6) (N := 51) hx hb hts uB6 hown hK hP (hC.1.1 51 (by decide)) F_m rfl 28 (by decide) wm_48 (hC.2.2.2 28 (by decide)) dX6_income_24 ?_
        refine lv_iload_n hx hb dX6_income_27 rfl (lv_at hl 3 rfl) ?_
        refine g_iald hx hb hK hP (hC.1.1 28 (by decide)) F_salePage (vp_in_nI (by omega) (by decide)) dX6_income_28 ?_
        refine lv_topi (fun x_4 ex_4 => ?_)
        rw [nI_clamp (by omega)] at ex_4
        refine lv_iload_n hx hb dX6_income_29 rfl (lv_at hl 1 rfl) ?_
        refine lv_icmp_ne (tgt := 42) hx hb dX6_income_30 (by decide) (fun c_5 => ?_) (fun c_5 => ?_)
        · skip
          refine lv_iconst (v := 0) hx hb dX6_income_42 (by decide) ?_
          refine lv_iadd hx hb dX6_income_43 ?_
          refine lv_topi (fun x_6 ex_6 => ?_)
          refine lv_istore_n (lv' := [(2, .int x_6), (0, .ref (rt 51)), (1, .int x), (3, .int (nI j))]) hx hb dX6_income_44 rfl hl (by decide) rfl (fun ls hl => ?_)
          obtain ⟨x_7, ex_7⟩ : ∃ y : Int32, y = (nI j) + 1 := ⟨_, rfl⟩
          refine lv_iinc (v := x_7) (lv' := [(3, .int x_7), (2, .int x_6), (0, .ref (rt 51)), (1, .int x)]) hx hb dX6_income_45 hl (k := 3) rfl (by rw [ex_7]; rfl) (by decide) rfl (fun ls hl => ?_)
          refine lv_goto (tgt := 14) hx hb dX6_income_48 (by decide) ?_
          obtain rfl : x_7 = nI (j + 1) := ex_7.trans (nI_1 j)
          exact ih (n - 1) (by omega) _ _ _ ⟨j + 1, _, by omega, trivial, hP, hS, lv_sub hl [2, 3, 1, 0] rfl⟩
        · skip
          refine lv_aload_n hx hb dX6_income_33 rfl (lv_at hl 0 rfl) ?_
          refine lv_iload_n hx hb dX6_income_34 rfl (lv_at hl 3 rfl) ?_
          refine lv_iconst (v := 0) hx hb dX6_income_35 (by decide) ?_
          refine gc_R (ci := 6) ⟨hx, hb, hml, hown, hts⟩ (m_coins l dC dI K L f rt hC F_state F_saleOf F_pays F_price j 0 hns hso hjn) 2 wm_5 wm_6 wm_7 wm_8 wm_9 (by decide +kernel) ⟨Nat.le_of_ble_eq_true rfl, Nat.le_of_ble_eq_true rfl⟩ hK rfl (hC.1.1 51 (by decide)) F_m rfl hl.1 rfl (Nat.le_of_ble_eq_true rfl) dX6_income_36 ⟨Nat.le_of_ble_eq_true rfl, Nat.le_of_ble_eq_true rfl⟩ hS hP (fun r_8 H locs hpr_8 hP hS => ?_)
          refine lv_goto (tgt := 43) hx hb dX6_income_39 (by decide) ?_
          refine lv_iadd hx hb dX6_income_43 ?_
          refine lv_topi (fun x_9 ex_9 => ?_)
          refine lv_istore_n (lv' := [(2, .int x_9), (0, .ref (rt 51)), (1, .int x), (3, .int (nI j))]) hx hb dX6_income_44 rfl hl (by decide) rfl (fun ls hl => ?_)
          obtain ⟨x_10, ex_10⟩ : ∃ y : Int32, y = (nI j) + 1 := ⟨_, rfl⟩
          refine lv_iinc (v := x_10) (lv' := [(3, .int x_10), (2, .int x_9), (0, .ref (rt 51)), (1, .int x)]) hx hb dX6_income_45 hl (k := 3) rfl (by rw [ex_10]; rfl) (by decide) rfl (fun ls hl => ?_)
          refine lv_goto (tgt := 14) hx hb dX6_income_48 (by decide) ?_
          obtain rfl : x_10 = nI (j + 1) := ex_10.trans (nI_1 j)
          exact ih (n - 1) (by omega) _ _ _ ⟨j + 1, _, by omega, trivial, hP, hS, lv_sub hl [2, 3, 1, 0] rfl⟩
  · skip
    have g_2 := k_ff hpr_1 c_2
    refine lv_iconst (v := (-1)) hx hb dX6_income_8 (by decide) ?_
    exact W.iret (v := (-1)) hx hb hr (fun t ht hW => ⟨⟨(-1), (), rfl, trivial, trivial⟩, hS.F ht⟩) hS.2.2 dX6_income_9
set_option maxHeartbeats 4000000 in
set_option maxRecDepth 100000 in
theorem m_why (l : Launch) (dC : Nat → ClassId) (dI : Nat → Nat → Nat) (K : Nat → ClassId) (L : List Nat) (f : Nat → va_E) (rt : Nat → Nat) {fm : List Value} (hC : mC rt L f fm) {g_stopped : Nat → Int32} (F_stopped : f (rt 20) = .inl (K 2, 40, .inl g_stopped)) {g_marks : Nat → Int32} (F_marks : f (rt 8) = .inl (K 0, 100, .inl g_marks)) {g_must : Nat → Int32} (F_must : f (rt 12) = .inl (K 0, 40, .inl g_must)) {g_never : Nat → Int32} (F_never : f (rt 13) = .inl (K 0, 40, .inl g_never)) {g_saleOf : Nat → Int32} (F_saleOf : f (rt 30) = .inl (K 0, 1000, .inl g_saleOf)) {g_saleReader : Nat → Int32} (F_saleReader : f (rt 27) = .inl (K 0, 1000, .inl g_saleReader)) {g_saleTick : Nat → Int32} (F_saleTick : f (rt 26) = .inl (K 0, 1000, .inl g_saleTick)) {g_salePage : Nat → Int32} (F_salePage : f (rt 28) = .inl (K 0, 1000, .inl g_salePage)) {g_state : Nat → Int32} (F_state : f (rt 32) = .inl (K 0, 1000, .inl g_state)) {g_span : Nat → Int32} (F_span : f (rt 18) = .inl (K 0, 40, .inl g_span)) {g_apart : Nat → Int32} (F_apart : f (rt 21) = .inl (K 2, 1600, .inl g_apart)) {g_cap : Nat → Int32} (F_cap : f (rt 17) = .inl (K 0, 40, .inl g_cap)) {g_sort : Nat → Int32} (F_sort : f (rt 10) = .inl (K 0, 40, .inl g_sort)) {g_bid : Nat → Int32} (F_bid : f (rt 14) = .inl (K 0, 40, .inl g_bid)) {g_throttle : Nat → Int32} (F_throttle : f (rt 19) = .inl (K 0, 40, .inl g_throttle)) {g_dayBudget : Nat → Int32} (F_dayBudget : f (rt 15) = .inl (K 0, 40, .inl g_dayBudget)) {g_allBudget : Nat → Int32} (F_allBudget : f (rt 16) = .inl (K 0, 40, .inl g_allBudget)) {g_pays : Nat → Int32} (F_pays : f (rt 11) = .inl (K 0, 40, .inl g_pays)) {g_price : Nat → Int32} (F_price : f (rt 31) = .inl (K 0, 1000, .inl g_price)) {nc np ns : Nat} {t : Int32} (I_campaigns : fm[9]? = some (.int (nI nc))) (I_pages : fm[5]? = some (.int (nI np))) (I_sales : fm[25]? = some (.int (nI ns))) (I_tick : fm[1]? = some (.int t)) (x : Int32) (y : Int32) (z : Int32) (hnc : nc ≤ 40) (hns : ns ≤ 1000) (hso : ∀ j, j < ns → vp_in (g_saleOf j) 40) : gR l yX6_why cX6_why 4 .int 4 (dC, dI) K L f [.ref (rt 51), .int x, .int y, .int z] (fun _ => True) := by
  refine Met.ofW (cc := cX6_why) (maxL := 4) (ret := some .int) (by decide) rfl ?_
  intro p e s m args below meth c s₁ B hml hv
  obtain ⟨rfl, hP, hK⟩ := hv
  have F_m := hC.2.1
  have hx := B.exec
  have hb := B.bytes
  have hr := B.returns
  have hlocks := B.notSynchronized
  have hts0 := atoms_spec (ws := Cond.code yX6_why cX6_why 4 (some .int) :: lw_B) B.pre
  have hts : ∀ w ∈ lw_B, w.before _ s = true := fun w h => hts0 w (List.mem_cons_of_mem _ h)
  have hown : s.vm.findClass RX6 = some m.cls := findClass_of_methodNamed B.named
  have hS : va_S (fun _ => False) s.heap s.heap [] := va_S.rf
  have hl := lv_entry ([.ref (rt 51), .int x, .int y, .int z]) (n := 4) (Nat.le_of_ble_eq_true rfl)
  rw [lg_entry_eq]
  generalize (lg_sl ([.ref (rt 51), .int x, .int y, .int z]) ++ List.replicate (4 - (lg_sl ([.ref (rt 51), .int x, .int y, .int z])).length) Slot.unset).toArray = ls at hl ⊢
  have hl : lv_has ls 4 [(0, .ref (rt 51)), (1, .int x), (2, .int y), (3, .int z)] := hl
  refine lv_aload_n hx hb dX6_why_0 rfl (lv_at hl 0 rfl) ?_
  refine lv_iload_n hx hb dX6_why_1 rfl (lv_at hl 1 rfl) ?_
  refine gc_R (ci := 6) ⟨hx, hb, hml, hown, hts⟩ (m_isCampaign l dC dI K L f rt hC I_campaigns x) 1 wm_81 wm_82 wm_83 wm_8 wm_84 (by decide +kernel) ⟨Nat.le_of_ble_eq_true rfl, Nat.le_of_ble_eq_true rfl⟩ hK rfl (hC.1.1 51 (by decide)) F_m rfl hl.1 rfl (Nat.le_of_ble_eq_true rfl) dX6_why_2 ⟨Nat.le_of_ble_eq_true rfl, Nat.le_of_ble_eq_true rfl⟩ hS hP (fun r_1 H locs hpr_1 hP hS => ?_)
  refine lv_if_eq (tgt := 33) hx hb dX6_why_5 (by decide) (fun c_2 => ?_) (fun c_2 => ?_)
  · skip
    have g_2 := k_ff hpr_1 c_2
    refine lv_iconst (v := (-1)) hx hb dX6_why_33 (by decide) ?_
    exact W.iret (v := (-1)) hx hb hr (fun t ht hW => ⟨⟨(-1), (), rfl, trivial, trivial⟩, hS.F ht⟩) hS.2.2 dX6_why_34
  · skip
    have g_2 := k_ft hpr_1 c_2
    have hcd_cn := g_2
    obtain ⟨cn, hcn, rfl⟩ := k_ix g_2 (by omega)
    refine lv_iload_n hx hb dX6_why_8 rfl (lv_at hl 2 rfl) ?_
    refine k_S ⟨hx, hb, hml, hown, hts⟩ (c_mReader l y) 1 wm_92 wm_93 wm_8 wm_94 (by decide +kernel) ⟨Nat.le_of_ble_eq_true rfl, Nat.le_of_ble_eq_true rfl⟩ rfl hl.1 rfl (Nat.le_of_ble_eq_true rfl) dX6_why_9 ⟨Nat.le_of_ble_eq_true rfl, Nat.le_of_ble_eq_true rfl⟩ hS hP (fun r_3 H locs hpr_3 hP hS => ?_)
    refine lv_if_eq (tgt := 33) hx hb dX6_why_12 (by decide) (fun c_4 => ?_) (fun c_4 => ?_)
    · skip
      have g_4 := k_ff hpr_3 c_4
      refine lv_iconst (v := (-1)) hx hb dX6_why_33 (by decide) ?_
      exact W.iret (v := (-1)) hx hb hr (fun t ht hW => ⟨⟨(-1), (), rfl, trivial, trivial⟩, hS.F ht⟩) hS.2.2 dX6_why_34
    · skip
      have g_4 := k_ft hpr_3 c_4
      obtain ⟨rd, hrd, rfl⟩ := k_ix (n := 100) (x := y) g_4 (by omega)
      refine lv_aload_n hx hb dX6_why_15 rfl (lv_at hl 0 rfl) ?_
      refine lv_iload_n hx hb dX6_why_16 rfl (lv_at hl 3 rfl) ?_
      refine gc_R (ci := 6) ⟨hx, hb, hml, hown, hts⟩ (m_isPage l dC dI K L f rt hC I_pages z) 1 wm_95 wm_96 wm_97 wm_8 wm_98 (by decide +kernel) ⟨Nat.le_of_ble_eq_true rfl, Nat.le_of_ble_eq_true rfl⟩ hK rfl (hC.1.1 51 (by decide)) F_m rfl hl.1 rfl (Nat.le_of_ble_eq_true rfl) dX6_why_17 ⟨Nat.le_of_ble_eq_true rfl, Nat.le_of_ble_eq_true rfl⟩ hS hP (fun r_5 H locs hpr_5 hP hS => ?_)
      refine lv_if_eq (tgt := 33) hx hb dX6_why_20 (by decide) (fun c_6 => ?_) (fun c_6 => ?_)
      · skip
        have g_6 := k_ff hpr_5 c_6
        refine lv_iconst (v := (-1)) hx hb dX6_why_33 (by decide) ?_
        exact W.iret (v := (-1)) hx hb hr (fun t ht hW => ⟨⟨(-1), (), rfl, trivial, trivial⟩, hS.F ht⟩) hS.2.2 dX6_why_34
      · skip
        have g_6 := k_ft hpr_5 c_6
        refine lv_aload_n hx hb dX6_why_23 rfl (lv_at hl 0 rfl) ?_
        refine lv_iload_n hx hb dX6_why_24 rfl (lv_at hl 1 rfl) ?_
        refine lv_iload_n hx hb dX6_why_25 rfl (lv_at hl 2 rfl) ?_
        refine lv_iload_n hx hb dX6_why_26 rfl (lv_at hl 3 rfl) ?_
        refine gc_R (ci := 6) ⟨hx, hb, hml, hown, hts⟩ (m_hinders l dC dI K L f rt hC F_stopped F_marks F_must F_never F_saleOf F_saleReader F_saleTick F_salePage F_state F_span F_apart F_cap F_sort F_bid F_throttle F_dayBudget F_allBudget F_pays F_price I_sales I_tick cn rd z hns hso (by omega) (by omega)) 3 wm_118 wm_119 wm_120 wm_8 wm_121 (by decide +kernel) ⟨Nat.le_of_ble_eq_true rfl, Nat.le_of_ble_eq_true rfl⟩ hK rfl (hC.1.1 51 (by decide)) F_m rfl hl.1 rfl (Nat.le_of_ble_eq_true rfl) dX6_why_27 ⟨Nat.le_of_ble_eq_true rfl, Nat.le_of_ble_eq_true rfl⟩ hS hP (fun r_7 H locs hpr_7 hP hS => ?_)
        refine lv_goto (tgt := 34) hx hb dX6_why_30 (by decide) ?_
        exact W.iret (v := r_7) hx hb hr (fun t ht hW => ⟨⟨r_7, (), rfl, trivial, trivial⟩, hS.F ht⟩) hS.2.2 dX6_why_34
end
section
set_option maxHeartbeats 4000000 in
set_option maxRecDepth 100000 in
theorem m_count (l : Launch) (dC : Nat → ClassId) (dI : Nat → Nat → Nat) (K : Nat → ClassId) (L : List Nat) (f : Nat → va_E) (rt : Nat → Nat) {fm : List Value} (hC : mC rt L f fm) {g_state : Nat → Int32} (F_state : f (rt 32) = .inl (K 0, 1000, .inl g_state)) {g_saleOf : Nat → Int32} (F_saleOf : f (rt 30) = .inl (K 0, 1000, .inl g_saleOf)) {g_pays : Nat → Int32} (F_pays : f (rt 11) = .inl (K 0, 40, .inl g_pays)) {g_price : Nat → Int32} (F_price : f (rt 31) = .inl (K 0, 1000, .inl g_price)) {np nc ns : Nat} {tk9 : Int32} (I_pages : fm[5]? = some (.int (nI np))) (I_campaigns : fm[9]? = some (.int (nI nc))) (I_sales : fm[25]? = some (.int (nI ns))) (I_tick : fm[1]? = some (.int tk9)) (x : Int32) (hns : ns ≤ 1000) (hso : ∀ j, j < ns → vp_in (g_saleOf j) 40) : gR l yX6_count cX6_count 4 .int 1 (dC, dI) K L f [.ref (rt 51), .int x] (fun _ => True) := by
  refine Met.ofW (cc := cX6_count) (maxL := 4) (ret := some .int) (by decide) rfl ?_
  intro p e s m args below meth c s₁ B hml hv
  obtain ⟨rfl, hP, hK⟩ := hv
  have F_m := hC.2.1
  have hx := B.exec
  have hb := B.bytes
  have hr := B.returns
  have hlocks := B.notSynchronized
  have hts0 := atoms_spec (ws := Cond.code yX6_count cX6_count 4 (some .int) :: lw_B) B.pre
  have hts : ∀ w ∈ lw_B, w.before _ s = true := fun w h => hts0 w (List.mem_cons_of_mem _ h)
  have hown : s.vm.findClass RX6 = some m.cls := findClass_of_methodNamed B.named
  have hS : va_S (fun _ => False) s.heap s.heap [] := va_S.rf
  have hl := lv_entry ([.ref (rt 51), .int x]) (n := 4) (Nat.le_of_ble_eq_true rfl)
  rw [lg_entry_eq]
  generalize (lg_sl ([.ref (rt 51), .int x]) ++ List.replicate (4 - (lg_sl ([.ref (rt 51), .int x])).length) Slot.unset).toArray = ls at hl ⊢
  have hl : lv_has ls 4 [(0, .ref (rt 51)), (1, .int x)] := hl
  refine lv_iconst (v := 0) hx hb dX6_count_0 (by decide) ?_
  refine lv_istore_n (lv' := [(2, .int 0), (0, .ref (rt 51)), (1, .int x)]) hx hb dX6_count_1 rfl hl (by decide) rfl (fun ls hl => ?_)
  refine lv_iload_n hx hb dX6_count_2 rfl (lv_at hl 2 rfl) ?_
  rcases k_sw5 x with h9 | rfl | rfl | rfl | rfl | rfl | rfl
  · skip
    refine lv_tableOut (tgt := 123) hx hb dX6_count_3 h9 (by decide) ?_
    refine lv_iconst (v := (-1)) hx hb dX6_count_123 (by decide) ?_
    exact W.iret (v := (-1)) hx hb hr (fun t ht hW => ⟨⟨(-1), (), rfl, trivial, trivial⟩, hS.F ht⟩) hS.2.2 dX6_count_124
  · skip
    refine lv_tableIn (off := 37) (tgt := 40) hx hb dX6_count_3 (by decide) (by decide) rfl (by decide) ?_
    refine lv_aload_n hx hb dX6_count_40 rfl (lv_at hl 1 rfl) ?_
    refine g_get (ci := 6) (v := .int (nI np)) (C := RX6) (T := TX6) (N := 51) hx hb hts uB6 hown hK hP (hC.1.1 51 (by decide)) F_m rfl 5 (by decide) wm_75 I_pages dX6_count_41 ?_
    exact W.iret (v := nI np) hx hb hr (fun t ht hW => ⟨⟨nI np, (), rfl, trivial, trivial⟩, hS.F ht⟩) hS.2.2 dX6_count_44
  · skip
    refine lv_tableIn (off := 42) (tgt := 45) hx hb dX6_count_3 (by decide) (by decide) rfl (by decide) ?_
    refine lv_aload_n hx hb dX6_count_45 rfl (lv_at hl 1 rfl) ?_
    refine g_get (ci := 6) (v := .int (nI nc)) (C := RX6) (T := TX6) (N := 51) hx hb hts uB6 hown hK hP (hC.1.1 51 (by decide)) F_m rfl 9 (by decide) wm_76 I_campaigns dX6_count_46 ?_
    exact W.iret (v := nI nc) hx hb hr (fun t ht hW => ⟨⟨nI nc, (), rfl, trivial, trivial⟩, hS.F ht⟩) hS.2.2 dX6_count_49
  · skip
    refine lv_tableIn (off := 47) (tgt := 50) hx hb dX6_count_3 (by decide) (by decide) rfl (by decide) ?_
    refine lv_aload_n hx hb dX6_count_50 rfl (lv_at hl 1 rfl) ?_
    refine g_get (ci := 6) (v := .int (nI ns)) (C := RX6) (T := TX6) (N := 51) hx hb hts uB6 hown hK hP (hC.1.1 51 (by decide)) F_m rfl 25 (by decide) wm_4 I_sales dX6_count_51 ?_
    exact W.iret (v := nI ns) hx hb hr (fun t ht hW => ⟨⟨nI ns, (), rfl, trivial, trivial⟩, hS.F ht⟩) hS.2.2 dX6_count_54
  · skip
    refine lv_tableIn (off := 52) (tgt := 55) hx hb dX6_count_3 (by decide) (by decide) rfl (by decide) ?_
    refine lv_aload_n hx hb dX6_count_55 rfl (lv_at hl 1 rfl) ?_
    refine g_get (ci := 6) (v := .int tk9) (C := RX6) (T := TX6) (N := 51) hx hb hts uB6 hown hK hP (hC.1.1 51 (by decide)) F_m rfl 1 (by decide) wm_13 I_tick dX6_count_56 ?_
    exact W.iret (v := tk9) hx hb hr (fun t ht hW => ⟨⟨tk9, (), rfl, trivial, trivial⟩, hS.F ht⟩) hS.2.2 dX6_count_59
  · skip
    refine lv_tableIn (off := 57) (tgt := 60) hx hb dX6_count_3 (by decide) (by decide) rfl (by decide) ?_
    refine lv_iconst (v := 0) hx hb dX6_count_60 (by decide) ?_
    refine lv_istore_n (lv' := [(3, .int 0), (2, .int 0), (0, .ref (rt 51)), (1, .int 4)]) hx hb dX6_count_61 rfl hl (by decide) rfl (fun ls hl => ?_)
    refine k_lx (pcx := 94) (fun n H locs ls => ∃ (j : Nat) (acc : Int32), j + n = ns ∧ True ∧ va_P (dC, dI) vwCl (va_pl L f) H ∧ va_S (fun _ => False) s.heap H locs ∧ lv_has ls 4 [(0, .ref (rt 51)), (1, .int 4), (2, .int acc), (3, .int (nI j))]) (fun H locs ls => ∃ (j : Nat) (acc : Int32), j = ns ∧ True ∧ va_P (dC, dI) vwCl (va_pl L f) H ∧ va_S (fun _ => False) s.heap H locs ∧ lv_has ls 4 [(0, .ref (rt 51)), (1, .int 4), (2, .int acc), (3, .int (nI j))]) (fun H locs ls hI => ?_) (fun n H locs ls hI hE ih => ?_) ns _ _ _ ⟨0, _, by omega, trivial, hP, hS, lv_sub hl [2, 3, 1, 0] rfl⟩
    · skip
      obtain ⟨j, acc, hj, hacc, hP, hS, hl⟩ := hI
      refine lv_iload_n hx hb dX6_count_94 rfl (lv_at hl 2 rfl) ?_
      exact W.iret (v := acc) hx hb hr (fun t ht hW => ⟨⟨acc, (), rfl, trivial, trivial⟩, hS.F ht⟩) hS.2.2 dX6_count_95
    · skip
      obtain ⟨j, acc, hj, hacc, hP, hS, hl⟩ := hI
      refine lv_iload_n hx hb dX6_count_62 rfl (lv_at hl 3 rfl) ?_
      refine lv_aload_n hx hb dX6_count_63 rfl (lv_at hl 0 rfl) ?_
      refine g_get (ci := 6) (v := .int (nI ns)) (C := RX6) (T := TX6) (N := 51) hx hb hts uB6 hown hK hP (hC.1.1 51 (by decide)) F_m rfl 25 (by decide) wm_4 I_sales dX6_count_64 ?_
      refine lv_icmp_ge (tgt := 94) hx hb dX6_count_67 (by decide) (fun c_1 => ?_) (fun c_1 => ?_)
      · skip
        have hjn : j = ns := by have := (nI_leI (a := ns) (b := j) (by omega) (by omega)).mp c_1; omega
        exact hE _ _ _ ⟨j, _, by omega, hacc, hP, hS, lv_sub hl [0, 1, 2, 3] rfl⟩
      · skip
        have hjn : j < ns := by rcases Nat.lt_or_ge j ns with q | q; exact q; exact absurd (nI_le q (by omega)) c_1
        refine lv_iload_n hx hb dX6_count_70 rfl (lv_at hl 2 rfl) ?_
        refine lv_aload_n hx hb dX6_count_71 rfl (lv_at hl 0 rfl) ?_
        refine g_get (ci := 6) (v := .ref (rt 32)) (C := RX6) (T := TX6) (N := 51) hx hb hts uB6 hown hK hP (hC.1.1 51 (by decide)) F_m rfl 32 (by decide) wm_0 (hC.2.2.2 32 (by decide)) dX6_count_72 ?_
        refine lv_iload_n hx hb dX6_count_75 rfl (lv_at hl 3 rfl) ?_
        refine g_iald hx hb hK hP (hC.1.1 32 (by decide)) F_state (vp_in_nI (by omega) (by decide)) dX6_count_76 ?_
        refine lv_topi (fun x_2 ex_2 => ?_)
        rw [nI_clamp (by omega)] at ex_2
        refine lv_iconst (v := 3) hx hb dX6_count_77 (by decide) ?_
        refine lv_icmp_ne (tgt := 85) hx hb dX6_count_78 (by decide) (fun c_3 => ?_) (fun c_3 => ?_)
        · skip
          refine lv_iconst (v := 0) hx hb dX6_count_85 (by decide) ?_
          refine lv_iadd hx hb dX6_count_86 ?_
          refine lv_topi (fun x_4 ex_4 => ?_)
          refine lv_istore_n (lv' := [(2, .int x_4), (0, .ref (rt 51)), (1, .int 4), (3, .int (nI j))]) hx hb dX6_count_87 rfl hl (by decide) rfl (fun ls hl => ?_)
          obtain ⟨x_5, ex_5⟩ : ∃ y : Int32, y = (nI j) + 1 := ⟨_, rfl⟩
          refine lv_iinc (v := x_5) (lv' := [(3, .int x_5), (2, .int x_4), (0, .ref (rt 51)), (1, .int 4)]) hx hb dX6_count_88 hl (k := 3) rfl (by rw [ex_5]; rfl) (by decide) rfl (fun ls hl => ?_)
          refine lv_goto (tgt := 62) hx hb dX6_count_91 (by decide) ?_
          obtain rfl : x_5 = nI (j + 1) := ex_5.trans (nI_1 j)
          exact ih (n - 1) (by omega) _ _ _ ⟨j + 1, _, by omega, trivial, hP, hS, lv_sub hl [2, 3, 1, 0] rfl⟩
        · skip
          refine lv_iconst (v := 1) hx hb dX6_count_81 (by decide) ?_
          refine lv_goto (tgt := 86) hx hb dX6_count_82 (by decide) ?_
          refine lv_iadd hx hb dX6_count_86 ?_
          refine lv_topi (fun x_6 ex_6 => ?_)
          refine lv_istore_n (lv' := [(2, .int x_6), (0, .ref (rt 51)), (1, .int 4), (3, .int (nI j))]) hx hb dX6_count_87 rfl hl (by decide) rfl (fun ls hl => ?_)
          obtain ⟨x_7, ex_7⟩ : ∃ y : Int32, y = (nI j) + 1 := ⟨_, rfl⟩
          refine lv_iinc (v := x_7) (lv' := [(3, .int x_7), (2, .int x_6), (0, .ref (rt 51)), (1, .int 4)]) hx hb dX6_count_88 hl (k := 3) rfl (by rw [ex_7]; rfl) (by decide) rfl (fun ls hl => ?_)
          refine lv_goto (tgt := 62) hx hb dX6_count_91 (by decide) ?_
          obtain rfl : x_7 = nI (j + 1) := ex_7.trans (nI_1 j)
          exact ih (n - 1) (by omega) _ _ _ ⟨j + 1, _, by omega, trivial, hP, hS, lv_sub hl [2, 3, 1, 0] rfl⟩
  · skip
    refine lv_tableIn (off := 93) (tgt := 96) hx hb dX6_count_3 (by decide) (by decide) rfl (by decide) ?_
    refine lv_iconst (v := 0) hx hb dX6_count_96 (by decide) ?_
    refine lv_istore_n (lv' := [(3, .int 0), (2, .int 0), (0, .ref (rt 51)), (1, .int 5)]) hx hb dX6_count_97 rfl hl (by decide) rfl (fun ls hl => ?_)
    refine k_lx (pcx := 121) (fun n H locs ls => ∃ (j : Nat) (acc : Int32), j + n = ns ∧ True ∧ va_P (dC, dI) vwCl (va_pl L f) H ∧ va_S (fun _ => False) s.heap H locs ∧ lv_has ls 4 [(0, .ref (rt 51)), (1, .int 5), (2, .int acc), (3, .int (nI j))]) (fun H locs ls => ∃ (j : Nat) (acc : Int32), j = ns ∧ True ∧ va_P (dC, dI) vwCl (va_pl L f) H ∧ va_S (fun _ => False) s.heap H locs ∧ lv_has ls 4 [(0, .ref (rt 51)), (1, .int 5), (2, .int acc), (3, .int (nI j))]) (fun H locs ls hI => ?_) (fun n H locs ls hI hE ih => ?_) ns _ _ _ ⟨0, _, by omega, trivial, hP, hS, lv_sub hl [2, 3, 1, 0] rfl⟩
    · skip
      obtain ⟨j, acc, hj, hacc, hP, hS, hl⟩ := hI
      refine lv_iload_n hx hb dX6_count_121 rfl (lv_at hl 2 rfl) ?_
      exact W.iret (v := acc) hx hb hr (fun t ht hW => ⟨⟨acc, (), rfl, trivial, trivial⟩, hS.F ht⟩) hS.2.2 dX6_count_122
    · skip
      obtain ⟨j, acc, hj, hacc, hP, hS, hl⟩ := hI
      refine lv_iload_n hx hb dX6_count_98 rfl (lv_at hl 3 rfl) ?_
      refine lv_aload_n hx hb dX6_count_99 rfl (lv_at hl 0 rfl) ?_
      refine g_get (ci := 6) (v := .int (nI ns)) (C := RX6) (T := TX6) (N := 51) hx hb hts uB6 hown hK hP (hC.1.1 51 (by decide)) F_m rfl 25 (by decide) wm_4 I_sales dX6_count_100 ?_
      refine lv_icmp_ge (tgt := 121) hx hb dX6_count_103 (by decide) (fun c_8 => ?_) (fun c_8 => ?_)
      · skip
        have hjn : j = ns := by have := (nI_leI (a := ns) (b := j) (by omega) (by omega)).mp c_8; omega
        exact hE _ _ _ ⟨j, _, by omega, hacc, hP, hS, lv_sub hl [0, 1, 2, 3] rfl⟩
      · skip
        have hjn : j < ns := by rcases Nat.lt_or_ge j ns with q | q; exact q; exact absurd (nI_le q (by omega)) c_8
        refine lv_iload_n hx hb dX6_count_106 rfl (lv_at hl 2 rfl) ?_
        refine lv_aload_n hx hb dX6_count_107 rfl (lv_at hl 0 rfl) ?_
        refine lv_iload_n hx hb dX6_count_108 rfl (lv_at hl 3 rfl) ?_
        refine lv_iconst (v := 0) hx hb dX6_count_109 (by decide) ?_
        refine gc_R (ci := 6) ⟨hx, hb, hml, hown, hts⟩ (m_coins l dC dI K L f rt hC F_state F_saleOf F_pays F_price j 0 hns hso hjn) 2 wm_5 wm_6 wm_7 wm_8 wm_9 (by decide +kernel) ⟨Nat.le_of_ble_eq_true rfl, Nat.le_of_ble_eq_true rfl⟩ hK rfl (hC.1.1 51 (by decide)) F_m rfl hl.1 rfl (Nat.le_of_ble_eq_true rfl) dX6_count_110 ⟨Nat.le_of_ble_eq_true rfl, Nat.le_of_ble_eq_true rfl⟩ hS hP (fun r_9 H locs hpr_9 hP hS => ?_)
        refine lv_iadd hx hb dX6_count_113 ?_
        refine lv_topi (fun x_10 ex_10 => ?_)
        refine lv_istore_n (lv' := [(2, .int x_10), (0, .ref (rt 51)), (1, .int 5), (3, .int (nI j))]) hx hb dX6_count_114 rfl hl (by decide) rfl (fun ls hl => ?_)
        obtain ⟨x_11, ex_11⟩ : ∃ y : Int32, y = (nI j) + 1 := ⟨_, rfl⟩
        refine lv_iinc (v := x_11) (lv' := [(3, .int x_11), (2, .int x_10), (0, .ref (rt 51)), (1, .int 5)]) hx hb dX6_count_115 hl (k := 3) rfl (by rw [ex_11]; rfl) (by decide) rfl (fun ls hl => ?_)
        refine lv_goto (tgt := 98) hx hb dX6_count_118 (by decide) ?_
        obtain rfl : x_11 = nI (j + 1) := ex_11.trans (nI_1 j)
        exact ih (n - 1) (by omega) _ _ _ ⟨j + 1, _, by omega, trivial, hP, hS, lv_sub hl [2, 3, 1, 0] rfl⟩
set_option maxHeartbeats 4000000 in
set_option maxRecDepth 100000 in
theorem um_press (l : Launch) (dC : Nat → ClassId) (dI : Nat → Nat → Nat) (K : Nat → ClassId) (L : List Nat) (f : Nat → va_E) (rt : Nat → Nat) {fm : List Value} (hC : mC rt L f fm) {g_pays : Nat → Int32} (F_pays : f (rt 11) = .inl (K 0, 40, .inl g_pays)) {g_saleOf : Nat → Int32} (F_saleOf : f (rt 30) = .inl (K 0, 1000, .inl g_saleOf)) {g_state : Nat → Int32} (F_state : f (rt 32) = .inl (K 0, 1000, .inl g_state)) {g_saleTick : Nat → Int32} (F_saleTick : f (rt 26) = .inl (K 0, 1000, .inl g_saleTick)) {g_saleWait : Nat → Int32} (F_saleWait : f (rt 33) = .inl (K 0, 1000, .inl g_saleWait)) {g_pressTick : Nat → Int32} (F_pressTick : f (rt 34) = .inl (K 0, 1000, .inl g_pressTick)) {ns : Nat} {t : Int32} (I_sales : fm[25]? = some (.int (nI ns))) (I_tick : fm[1]? = some (.int t)) (x : Int32) (hns : ns ≤ 1000) (hso : ∀ j, j < ns → vp_in (g_saleOf j) 40) (hLn : gN L) : gMi l yX6_press cX6_press 3 2 (dC, dI) K L f [.ref (rt 51), .int x] (fun _ f' => f' = f ∨ ∃ g1 g2 : Nat → Int32, f' = va_up (va_up f (rt 32) (.inl (K 0, 1000, .inl g1))) (rt 34) (.inl (K 0, 1000, .inl g2))) := by
  refine Met.ofW (cc := cX6_press) (maxL := 3) (ret := (some .int)) (by decide) rfl ?_
  intro p e s m args below meth c s₁ B hml hv
  obtain ⟨rfl, hP, hK⟩ := hv
  have F_m := hC.2.1
  have hD : va_D (fun q : Nat => q ∈ L) (va_pl L f) := g_D hLn (fun a h => h) f
  generalize hAe : (fun q : Nat => q ∈ L) = A at hD ⊢
  have hx := B.exec
  have hb := B.bytes
  have hr := B.returns
  have hlocks := B.notSynchronized
  have hts0 := atoms_spec (ws := Cond.code yX6_press cX6_press 3 (some .int) :: lw_B) B.pre
  have hts : ∀ w ∈ lw_B, w.before _ s = true := fun w h => hts0 w (List.mem_cons_of_mem _ h)
  have hown : s.vm.findClass RX6 = some m.cls := findClass_of_methodNamed B.named
  have hS : va_S A s.heap s.heap [] := va_S.rf
  have hl := lv_entry ([.ref (rt 51), .int x]) (n := 3) (Nat.le_of_ble_eq_true rfl)
  rw [lg_entry_eq]
  generalize (lg_sl ([.ref (rt 51), .int x]) ++ List.replicate (3 - (lg_sl ([.ref (rt 51), .int x])).length) Slot.unset).toArray = ls at hl ⊢
  have hl : lv_has ls 3 [(0, .ref (rt 51)), (1, .int x)] := hl
  refine lv_aload_n hx hb dX6_press_0 rfl (lv_at hl 0 rfl) ?_
  refine lv_iload_n hx hb dX6_press_1 rfl (lv_at hl 1 rfl) ?_
  refine gc_R (ci := 6) ⟨hx, hb, hml, hown, hts⟩ (m_isSale l dC dI K L f rt hC I_sales x) 1 wm_105 wm_106 wm_107 wm_8 wm_108 (by decide +kernel) ⟨Nat.le_of_ble_eq_true rfl, Nat.le_of_ble_eq_true rfl⟩ hK rfl (hC.1.1 51 (by decide)) F_m rfl hl.1 rfl (Nat.le_of_ble_eq_true rfl) dX6_press_2 ⟨Nat.le_of_ble_eq_true rfl, Nat.le_of_ble_eq_true rfl⟩ hS hP (fun r_1 H locs hpr_1 hP hS => ?_)
  refine lv_if_ne (tgt := 10) hx hb dX6_press_5 (by decide) (fun c_2 => ?_) (fun c_2 => ?_)
  · skip
    have g_2 := k_ft hpr_1 c_2
    have hcd_sn := g_2
    obtain ⟨sn, hsn, rfl⟩ := k_ix g_2 (by omega)
    refine lv_aload_n hx hb dX6_press_10 rfl (lv_at hl 0 rfl) ?_
    refine g_get (ci := 6) (v := .ref (rt 11)) (C := RX6) (T := TX6) (N := 51) hx hb hts uB6 hown hK hP (hC.1.1 51 (by decide)) F_m rfl 11 (by decide) wm_1 (hC.2.2.2 11 (by decide)) dX6_press_11 ?_
    refine lv_aload_n hx hb dX6_press_14 rfl (lv_at hl 0 rfl) ?_
    refine g_get (ci := 6) (v := .ref (rt 30)) (C := RX6) (T := TX6) (N := 51) hx hb hts uB6 hown hK hP (hC.1.1 51 (by decide)) F_m rfl 30 (by decide) wm_2 (hC.2.2.2 30 (by decide)) dX6_press_15 ?_
    refine lv_iload_n hx hb dX6_press_18 rfl (lv_at hl 1 rfl) ?_
    refine g_iald hx hb hK hP (hC.1.1 30 (by decide)) F_saleOf (vp_in_nI (by omega) (by decide)) dX6_press_19 ?_
    refine lv_topi (fun x_3 ex_3 => ?_)
    rw [nI_clamp (by omega)] at ex_3
    refine g_iald hx hb hK hP (hC.1.1 11 (by decide)) F_pays (by rw [ex_3]; exact hso sn hsn) dX6_press_20 ?_
    refine lv_topi (fun x_4 ex_4 => ?_)
    refine lv_iconst (v := 1) hx hb dX6_press_21 (by decide) ?_
    refine lv_icmp_ne (tgt := 43) hx hb dX6_press_22 (by decide) (fun c_5 => ?_) (fun c_5 => ?_)
    · skip
      refine lv_aload_n hx hb dX6_press_43 rfl (lv_at hl 0 rfl) ?_
      refine g_get (ci := 6) (v := .ref (rt 32)) (C := RX6) (T := TX6) (N := 51) hx hb hts uB6 hown hK hP (hC.1.1 51 (by decide)) F_m rfl 32 (by decide) wm_0 (hC.2.2.2 32 (by decide)) dX6_press_44 ?_
      refine lv_iload_n hx hb dX6_press_47 rfl (lv_at hl 1 rfl) ?_
      refine g_iald hx hb hK hP (hC.1.1 32 (by decide)) F_state (vp_in_nI (by omega) (by decide)) dX6_press_48 ?_
      refine lv_topi (fun x_6 ex_6 => ?_)
      rw [nI_clamp (by omega)] at ex_6
      refine lv_if_ne (tgt := 76) hx hb dX6_press_49 (by decide) (fun c_7 => ?_) (fun c_7 => ?_)
      · skip
        refine lv_iconst (v := 0) hx hb dX6_press_76 (by decide) ?_
        refine lv_istore_n (lv' := [(2, .int 0), (0, .ref (rt 51)), (1, .int (nI sn))]) hx hb dX6_press_77 rfl hl (by decide) rfl (fun ls hl => ?_)
        refine lv_iload_n hx hb dX6_press_78 rfl (lv_at hl 0 rfl) ?_
        refine lv_if_ne (tgt := 85) hx hb dX6_press_79 (by decide) (fun h9 => absurd (by decide) h9) (fun _ => ?_)
        refine lv_bipush (v := (-2)) hx hb dX6_press_82 (by decide) ?_
        exact W.iret (v := (-2)) hx hb hr (fun t ht hW => ⟨⟨(-2), f, rfl, (Or.inl rfl), by show va_P (dC, dI) vwCl (va_pl L f) t.heap; rw [ht]; exact hP⟩, hS.F ht⟩) hS.2.2 dX6_press_84
      · skip
        refine lv_aload_n hx hb dX6_press_52 rfl (lv_at hl 0 rfl) ?_
        refine g_get (ci := 6) (v := .int t) (C := RX6) (T := TX6) (N := 51) hx hb hts uB6 hown hK hP (hC.1.1 51 (by decide)) F_m rfl 1 (by decide) wm_13 I_tick dX6_press_53 ?_
        refine lv_aload_n hx hb dX6_press_56 rfl (lv_at hl 0 rfl) ?_
        refine g_get (ci := 6) (v := .ref (rt 26)) (C := RX6) (T := TX6) (N := 51) hx hb hts uB6 hown hK hP (hC.1.1 51 (by decide)) F_m rfl 26 (by decide) wm_10 (hC.2.2.2 26 (by decide)) dX6_press_57 ?_
        refine lv_iload_n hx hb dX6_press_60 rfl (lv_at hl 1 rfl) ?_
        refine g_iald hx hb hK hP (hC.1.1 26 (by decide)) F_saleTick (vp_in_nI (by omega) (by decide)) dX6_press_61 ?_
        refine lv_topi (fun x_8 ex_8 => ?_)
        rw [nI_clamp (by omega)] at ex_8
        refine lv_aload_n hx hb dX6_press_62 rfl (lv_at hl 0 rfl) ?_
        refine g_get (ci := 6) (v := .ref (rt 33)) (C := RX6) (T := TX6) (N := 51) hx hb hts uB6 hown hK hP (hC.1.1 51 (by decide)) F_m rfl 33 (by decide) wm_122 (hC.2.2.2 33 (by decide)) dX6_press_63 ?_
        refine lv_iload_n hx hb dX6_press_66 rfl (lv_at hl 1 rfl) ?_
        refine g_iald hx hb hK hP (hC.1.1 33 (by decide)) F_saleWait (vp_in_nI (by omega) (by decide)) dX6_press_67 ?_
        refine lv_topi (fun x_9 ex_9 => ?_)
        rw [nI_clamp (by omega)] at ex_9
        refine lv_iadd hx hb dX6_press_68 ?_
        refine lv_topi (fun x_10 ex_10 => ?_)
        refine lv_icmp_gt (tgt := 76) hx hb dX6_press_69 (by decide) (fun c_11 => ?_) (fun c_11 => ?_)
        · skip
          refine lv_iconst (v := 0) hx hb dX6_press_76 (by decide) ?_
          refine lv_istore_n (lv' := [(2, .int 0), (0, .ref (rt 51)), (1, .int (nI sn))]) hx hb dX6_press_77 rfl hl (by decide) rfl (fun ls hl => ?_)
          refine lv_iload_n hx hb dX6_press_78 rfl (lv_at hl 0 rfl) ?_
          refine lv_if_ne (tgt := 85) hx hb dX6_press_79 (by decide) (fun h9 => absurd (by decide) h9) (fun _ => ?_)
          refine lv_bipush (v := (-2)) hx hb dX6_press_82 (by decide) ?_
          exact W.iret (v := (-2)) hx hb hr (fun t ht hW => ⟨⟨(-2), f, rfl, (Or.inl rfl), by show va_P (dC, dI) vwCl (va_pl L f) t.heap; rw [ht]; exact hP⟩, hS.F ht⟩) hS.2.2 dX6_press_84
        · skip
          refine lv_iconst (v := 1) hx hb dX6_press_72 (by decide) ?_
          refine lv_goto (tgt := 77) hx hb dX6_press_73 (by decide) ?_
          refine lv_istore_n (lv' := [(2, .int 1), (0, .ref (rt 51)), (1, .int (nI sn))]) hx hb dX6_press_77 rfl hl (by decide) rfl (fun ls hl => ?_)
          refine lv_iload_n hx hb dX6_press_78 rfl (lv_at hl 0 rfl) ?_
          refine lv_if_ne (tgt := 85) hx hb dX6_press_79 (by decide) (fun _ => ?_) (fun h9 => absurd h9 (by decide))
          refine lv_aload_n hx hb dX6_press_85 rfl (lv_at hl 1 rfl) ?_
          refine g_get (ci := 6) (v := .ref (rt 32)) (C := RX6) (T := TX6) (N := 51) hx hb hts uB6 hown hK hP (hC.1.1 51 (by decide)) F_m rfl 32 (by decide) wm_0 (hC.2.2.2 32 (by decide)) dX6_press_86 ?_
          refine lv_iload_n hx hb dX6_press_89 rfl (lv_at hl 2 rfl) ?_
          refine lv_iconst (v := 2) hx hb dX6_press_90 (by decide) ?_
          refine g_iast hx hb hK hP hD hS (hC.1.1 32 (by decide)) F_state (vp_in_nI (by omega) (by decide)) dX6_press_91 (fun H locs hP hD hS => ?_)
          obtain ⟨g_12, eg_12⟩ : ∃ z9, z9 = upd g_state (Int32.toNatClampNeg (nI sn)) 2 := ⟨_, rfl⟩
          rw [← eg_12] at hP hD
          obtain ⟨f_13, ef_13⟩ : ∃ z9, z9 = va_up f (rt 32) (.inl (K 0, 1000, .inl g_12)) := ⟨_, rfl⟩
          have hP : va_P (dC, dI) vwCl (va_pl L f_13) H := by rw [ef_13]; exact hP
          have hD : va_D A (va_pl L f_13) := by rw [ef_13]; exact hD
          have F_m_ : f_13 (rt 51) = .inr (6, fm) := by rw [ef_13, va_up_ne _ _ (fun q => absurd (hC.1.2 51 (by decide) 32 (by decide) q) (by decide))]; exact F_m
          have F_pays_ : f_13 (rt 11) = .inl (K 0, 40, .inl g_pays) := by rw [ef_13, va_up_ne _ _ (fun q => absurd (hC.1.2 11 (by decide) 32 (by decide) q) (by decide))]; exact F_pays
          have F_saleOf_ : f_13 (rt 30) = .inl (K 0, 1000, .inl g_saleOf) := by rw [ef_13, va_up_ne _ _ (fun q => absurd (hC.1.2 30 (by decide) 32 (by decide) q) (by decide))]; exact F_saleOf
          have F_saleTick_ : f_13 (rt 26) = .inl (K 0, 1000, .inl g_saleTick) := by rw [ef_13, va_up_ne _ _ (fun q => absurd (hC.1.2 26 (by decide) 32 (by decide) q) (by decide))]; exact F_saleTick
          have F_saleWait_ : f_13 (rt 33) = .inl (K 0, 1000, .inl g_saleWait) := by rw [ef_13, va_up_ne _ _ (fun q => absurd (hC.1.2 33 (by decide) 32 (by decide) q) (by decide))]; exact F_saleWait
          have F_pressTick_ : f_13 (rt 34) = .inl (K 0, 1000, .inl g_pressTick) := by rw [ef_13, va_up_ne _ _ (fun q => absurd (hC.1.2 34 (by decide) 32 (by decide) q) (by decide))]; exact F_pressTick
          have F_m := F_m_
          have F_pays := F_pays_
          have F_saleOf := F_saleOf_
          have F_saleTick := F_saleTick_
          have F_saleWait := F_saleWait_
          have F_pressTick := F_pressTick_
          have F_state : f_13 (rt 32) = .inl (K 0, 1000, .inl g_12) := by rw [ef_13, va_up_self]
          have hC : mC rt L f_13 fm := ⟨hC.1, F_m, hC.2.2.1, hC.2.2.2⟩
          refine lv_aload_n hx hb dX6_press_92 rfl (lv_at hl 1 rfl) ?_
          refine g_get (ci := 6) (v := .ref (rt 34)) (C := RX6) (T := TX6) (N := 51) hx hb hts uB6 hown hK hP (hC.1.1 51 (by decide)) F_m rfl 34 (by decide) wm_11 (hC.2.2.2 34 (by decide)) dX6_press_93 ?_
          refine lv_iload_n hx hb dX6_press_96 rfl (lv_at hl 2 rfl) ?_
          refine lv_aload_n hx hb dX6_press_97 rfl (lv_at hl 1 rfl) ?_
          refine g_get (ci := 6) (v := .int t) (C := RX6) (T := TX6) (N := 51) hx hb hts uB6 hown hK hP (hC.1.1 51 (by decide)) F_m rfl 1 (by decide) wm_13 I_tick dX6_press_98 ?_
          refine g_iast hx hb hK hP hD hS (hC.1.1 34 (by decide)) F_pressTick (vp_in_nI (by omega) (by decide)) dX6_press_101 (fun H locs hP hD hS => ?_)
          obtain ⟨g_14, eg_14⟩ : ∃ z9, z9 = upd g_pressTick (Int32.toNatClampNeg (nI sn)) t := ⟨_, rfl⟩
          rw [← eg_14] at hP hD
          obtain ⟨f_15, ef_15⟩ : ∃ z9, z9 = va_up f_13 (rt 34) (.inl (K 0, 1000, .inl g_14)) := ⟨_, rfl⟩
          have hP : va_P (dC, dI) vwCl (va_pl L f_15) H := by rw [ef_15]; exact hP
          have hD : va_D A (va_pl L f_15) := by rw [ef_15]; exact hD
          have F_m_ : f_15 (rt 51) = .inr (6, fm) := by rw [ef_15, va_up_ne _ _ (fun q => absurd (hC.1.2 51 (by decide) 34 (by decide) q) (by decide))]; exact F_m
          have F_pays_ : f_15 (rt 11) = .inl (K 0, 40, .inl g_pays) := by rw [ef_15, va_up_ne _ _ (fun q => absurd (hC.1.2 11 (by decide) 34 (by decide) q) (by decide))]; exact F_pays
          have F_saleOf_ : f_15 (rt 30) = .inl (K 0, 1000, .inl g_saleOf) := by rw [ef_15, va_up_ne _ _ (fun q => absurd (hC.1.2 30 (by decide) 34 (by decide) q) (by decide))]; exact F_saleOf
          have F_state_ : f_15 (rt 32) = .inl (K 0, 1000, .inl g_12) := by rw [ef_15, va_up_ne _ _ (fun q => absurd (hC.1.2 32 (by decide) 34 (by decide) q) (by decide))]; exact F_state
          have F_saleTick_ : f_15 (rt 26) = .inl (K 0, 1000, .inl g_saleTick) := by rw [ef_15, va_up_ne _ _ (fun q => absurd (hC.1.2 26 (by decide) 34 (by decide) q) (by decide))]; exact F_saleTick
          have F_saleWait_ : f_15 (rt 33) = .inl (K 0, 1000, .inl g_saleWait) := by rw [ef_15, va_up_ne _ _ (fun q => absurd (hC.1.2 33 (by decide) 34 (by decide) q) (by decide))]; exact F_saleWait
          have F_m := F_m_
          have F_pays := F_pays_
          have F_saleOf := F_saleOf_
          have F_state := F_state_
          have F_saleTick := F_saleTick_
          have F_saleWait := F_saleWait_
          have F_pressTick : f_15 (rt 34) = .inl (K 0, 1000, .inl g_14) := by rw [ef_15, va_up_self]
          have hC : mC rt L f_15 fm := ⟨hC.1, F_m, hC.2.2.1, hC.2.2.2⟩
          refine lv_iconst (v := 1) hx hb dX6_press_102 (by decide) ?_
          exact W.iret (v := 1) hx hb hr (fun t ht hW => ⟨⟨1, f_15, rfl, (Or.inr ⟨_, _, by rw [ef_15, ef_13]⟩), by show va_P (dC, dI) vwCl (va_pl L f_15) t.heap; rw [ht]; exact hP⟩, hS.F ht⟩) hS.2.2 dX6_press_103
    · skip
      refine lv_aload_n hx hb dX6_press_25 rfl (lv_at hl 0 rfl) ?_
      refine g_get (ci := 6) (v := .ref (rt 32)) (C := RX6) (T := TX6) (N := 51) hx hb hts uB6 hown hK hP (hC.1.1 51 (by decide)) F_m rfl 32 (by decide) wm_0 (hC.2.2.2 32 (by decide)) dX6_press_26 ?_
      refine lv_iload_n hx hb dX6_press_29 rfl (lv_at hl 1 rfl) ?_
      refine g_iald hx hb hK hP (hC.1.1 32 (by decide)) F_state (vp_in_nI (by omega) (by decide)) dX6_press_30 ?_
      refine lv_topi (fun x_16 ex_16 => ?_)
      rw [nI_clamp (by omega)] at ex_16
      refine lv_iconst (v := 1) hx hb dX6_press_31 (by decide) ?_
      refine lv_icmp_ne (tgt := 39) hx hb dX6_press_32 (by decide) (fun c_17 => ?_) (fun c_17 => ?_)
      · skip
        refine lv_iconst (v := 0) hx hb dX6_press_39 (by decide) ?_
        refine lv_goto (tgt := 77) hx hb dX6_press_40 (by decide) ?_
        refine lv_istore_n (lv' := [(2, .int 0), (0, .ref (rt 51)), (1, .int (nI sn))]) hx hb dX6_press_77 rfl hl (by decide) rfl (fun ls hl => ?_)
        refine lv_iload_n hx hb dX6_press_78 rfl (lv_at hl 0 rfl) ?_
        refine lv_if_ne (tgt := 85) hx hb dX6_press_79 (by decide) (fun h9 => absurd (by decide) h9) (fun _ => ?_)
        refine lv_bipush (v := (-2)) hx hb dX6_press_82 (by decide) ?_
        exact W.iret (v := (-2)) hx hb hr (fun t ht hW => ⟨⟨(-2), f, rfl, (Or.inl rfl), by show va_P (dC, dI) vwCl (va_pl L f) t.heap; rw [ht]; exact hP⟩, hS.F ht⟩) hS.2.2 dX6_press_84
      · skip
        refine lv_iconst (v := 1) hx hb dX6_press_35 (by decide) ?_
        refine lv_goto (tgt := 77) hx hb dX6_press_36 (by decide) ?_
        refine lv_istore_n (lv' := [(2, .int 1), (0, .ref (rt 51)), (1, .int (nI sn))]) hx hb dX6_press_77 rfl hl (by decide) rfl (fun ls hl => ?_)
        refine lv_iload_n hx hb dX6_press_78 rfl (lv_at hl 0 rfl) ?_
        refine lv_if_ne (tgt := 85) hx hb dX6_press_79 (by decide) (fun _ => ?_) (fun h9 => absurd h9 (by decide))
        refine lv_aload_n hx hb dX6_press_85 rfl (lv_at hl 1 rfl) ?_
        refine g_get (ci := 6) (v := .ref (rt 32)) (C := RX6) (T := TX6) (N := 51) hx hb hts uB6 hown hK hP (hC.1.1 51 (by decide)) F_m rfl 32 (by decide) wm_0 (hC.2.2.2 32 (by decide)) dX6_press_86 ?_
        refine lv_iload_n hx hb dX6_press_89 rfl (lv_at hl 2 rfl) ?_
        refine lv_iconst (v := 2) hx hb dX6_press_90 (by decide) ?_
        refine g_iast hx hb hK hP hD hS (hC.1.1 32 (by decide)) F_state (vp_in_nI (by omega) (by decide)) dX6_press_91 (fun H locs hP hD hS => ?_)
        obtain ⟨g_18, eg_18⟩ : ∃ z9, z9 = upd g_state (Int32.toNatClampNeg (nI sn)) 2 := ⟨_, rfl⟩
        rw [← eg_18] at hP hD
        obtain ⟨f_19, ef_19⟩ : ∃ z9, z9 = va_up f (rt 32) (.inl (K 0, 1000, .inl g_18)) := ⟨_, rfl⟩
        have hP : va_P (dC, dI) vwCl (va_pl L f_19) H := by rw [ef_19]; exact hP
        have hD : va_D A (va_pl L f_19) := by rw [ef_19]; exact hD
        have F_m_ : f_19 (rt 51) = .inr (6, fm) := by rw [ef_19, va_up_ne _ _ (fun q => absurd (hC.1.2 51 (by decide) 32 (by decide) q) (by decide))]; exact F_m
        have F_pays_ : f_19 (rt 11) = .inl (K 0, 40, .inl g_pays) := by rw [ef_19, va_up_ne _ _ (fun q => absurd (hC.1.2 11 (by decide) 32 (by decide) q) (by decide))]; exact F_pays
        have F_saleOf_ : f_19 (rt 30) = .inl (K 0, 1000, .inl g_saleOf) := by rw [ef_19, va_up_ne _ _ (fun q => absurd (hC.1.2 30 (by decide) 32 (by decide) q) (by decide))]; exact F_saleOf
        have F_saleTick_ : f_19 (rt 26) = .inl (K 0, 1000, .inl g_saleTick) := by rw [ef_19, va_up_ne _ _ (fun q => absurd (hC.1.2 26 (by decide) 32 (by decide) q) (by decide))]; exact F_saleTick
        have F_saleWait_ : f_19 (rt 33) = .inl (K 0, 1000, .inl g_saleWait) := by rw [ef_19, va_up_ne _ _ (fun q => absurd (hC.1.2 33 (by decide) 32 (by decide) q) (by decide))]; exact F_saleWait
        have F_pressTick_ : f_19 (rt 34) = .inl (K 0, 1000, .inl g_pressTick) := by rw [ef_19, va_up_ne _ _ (fun q => absurd (hC.1.2 34 (by decide) 32 (by decide) q) (by decide))]; exact F_pressTick
        have F_m := F_m_
        have F_pays := F_pays_
        have F_saleOf := F_saleOf_
        have F_saleTick := F_saleTick_
        have F_saleWait := F_saleWait_
        have F_pressTick := F_pressTick_
        have F_state : f_19 (rt 32) = .inl (K 0, 1000, .inl g_18) := by rw [ef_19, va_up_self]
        have hC : mC rt L f_19 fm := ⟨hC.1, F_m, hC.2.2.1, hC.2.2.2⟩
        refine lv_aload_n hx hb dX6_press_92 rfl (lv_at hl 1 rfl) ?_
        refine g_get (ci := 6) (v := .ref (rt 34)) (C := RX6) (T := TX6) (N := 51) hx hb hts uB6 hown hK hP (hC.1.1 51 (by decide)) F_m rfl 34 (by decide) wm_11 (hC.2.2.2 34 (by decide)) dX6_press_93 ?_
        refine lv_iload_n hx hb dX6_press_96 rfl (lv_at hl 2 rfl) ?_
        refine lv_aload_n hx hb dX6_press_97 rfl (lv_at hl 1 rfl) ?_
        refine g_get (ci := 6) (v := .int t) (C := RX6) (T := TX6) (N := 51) hx hb hts uB6 hown hK hP (hC.1.1 51 (by decide)) F_m rfl 1 (by decide) wm_13 I_tick dX6_press_98 ?_
        refine g_iast hx hb hK hP hD hS (hC.1.1 34 (by decide)) F_pressTick (vp_in_nI (by omega) (by decide)) dX6_press_101 (fun H locs hP hD hS => ?_)
        obtain ⟨g_20, eg_20⟩ : ∃ z9, z9 = upd g_pressTick (Int32.toNatClampNeg (nI sn)) t := ⟨_, rfl⟩
        rw [← eg_20] at hP hD
        obtain ⟨f_21, ef_21⟩ : ∃ z9, z9 = va_up f_19 (rt 34) (.inl (K 0, 1000, .inl g_20)) := ⟨_, rfl⟩
        have hP : va_P (dC, dI) vwCl (va_pl L f_21) H := by rw [ef_21]; exact hP
        have hD : va_D A (va_pl L f_21) := by rw [ef_21]; exact hD
        have F_m_ : f_21 (rt 51) = .inr (6, fm) := by rw [ef_21, va_up_ne _ _ (fun q => absurd (hC.1.2 51 (by decide) 34 (by decide) q) (by decide))]; exact F_m
        have F_pays_ : f_21 (rt 11) = .inl (K 0, 40, .inl g_pays) := by rw [ef_21, va_up_ne _ _ (fun q => absurd (hC.1.2 11 (by decide) 34 (by decide) q) (by decide))]; exact F_pays
        have F_saleOf_ : f_21 (rt 30) = .inl (K 0, 1000, .inl g_saleOf) := by rw [ef_21, va_up_ne _ _ (fun q => absurd (hC.1.2 30 (by decide) 34 (by decide) q) (by decide))]; exact F_saleOf
        have F_state_ : f_21 (rt 32) = .inl (K 0, 1000, .inl g_18) := by rw [ef_21, va_up_ne _ _ (fun q => absurd (hC.1.2 32 (by decide) 34 (by decide) q) (by decide))]; exact F_state
        have F_saleTick_ : f_21 (rt 26) = .inl (K 0, 1000, .inl g_saleTick) := by rw [ef_21, va_up_ne _ _ (fun q => absurd (hC.1.2 26 (by decide) 34 (by decide) q) (by decide))]; exact F_saleTick
        have F_saleWait_ : f_21 (rt 33) = .inl (K 0, 1000, .inl g_saleWait) := by rw [ef_21, va_up_ne _ _ (fun q => absurd (hC.1.2 33 (by decide) 34 (by decide) q) (by decide))]; exact F_saleWait
        have F_m := F_m_
        have F_pays := F_pays_
        have F_saleOf := F_saleOf_
        have F_state := F_state_
        have F_saleTick := F_saleTick_
        have F_saleWait := F_saleWait_
        have F_pressTick : f_21 (rt 34) = .inl (K 0, 1000, .inl g_20) := by rw [ef_21, va_up_self]
        have hC : mC rt L f_21 fm := ⟨hC.1, F_m, hC.2.2.1, hC.2.2.2⟩
        refine lv_iconst (v := 1) hx hb dX6_press_102 (by decide) ?_
        exact W.iret (v := 1) hx hb hr (fun t ht hW => ⟨⟨1, f_21, rfl, (Or.inr ⟨_, _, by rw [ef_21, ef_19]⟩), by show va_P (dC, dI) vwCl (va_pl L f_21) t.heap; rw [ht]; exact hP⟩, hS.F ht⟩) hS.2.2 dX6_press_103
  · skip
    have g_2 := k_ff hpr_1 c_2
    refine lv_iconst (v := (-1)) hx hb dX6_press_8 (by decide) ?_
    exact W.iret (v := (-1)) hx hb hr (fun t ht hW => ⟨⟨(-1), f, rfl, (Or.inl rfl), by show va_P (dC, dI) vwCl (va_pl L f) t.heap; rw [ht]; exact hP⟩, hS.F ht⟩) hS.2.2 dX6_press_9
set_option maxHeartbeats 4000000 in
set_option maxRecDepth 100000 in
theorem um_refund (l : Launch) (dC : Nat → ClassId) (dI : Nat → Nat → Nat) (K : Nat → ClassId) (L : List Nat) (f : Nat → va_E) (rt : Nat → Nat) {fm : List Value} (hC : mC rt L f fm) {g_state : Nat → Int32} (F_state : f (rt 32) = .inl (K 0, 1000, .inl g_state)) {g_saleOf : Nat → Int32} (F_saleOf : f (rt 30) = .inl (K 0, 1000, .inl g_saleOf)) {g_pays : Nat → Int32} (F_pays : f (rt 11) = .inl (K 0, 40, .inl g_pays)) {g_price : Nat → Int32} (F_price : f (rt 31) = .inl (K 0, 1000, .inl g_price)) {ns : Nat} (I_sales : fm[25]? = some (.int (nI ns))) (x : Int32) (hns : ns ≤ 1000) (hso : ∀ j, j < ns → vp_in (g_saleOf j) 40) (hLn : gN L) : gMi l yX6_refund cX6_refund 3 2 (dC, dI) K L f [.ref (rt 51), .int x] (fun _ f' => f' = f ∨ ∃ g1 : Nat → Int32, f' = va_up f (rt 32) (.inl (K 0, 1000, .inl g1))) := by
  refine Met.ofW (cc := cX6_refund) (maxL := 3) (ret := (some .int)) (by decide) rfl ?_
  intro p e s m args below meth c s₁ B hml hv
  obtain ⟨rfl, hP, hK⟩ := hv
  have F_m := hC.2.1
  have hD : va_D (fun q : Nat => q ∈ L) (va_pl L f) := g_D hLn (fun a h => h) f
  generalize hAe : (fun q : Nat => q ∈ L) = A at hD ⊢
  have hx := B.exec
  have hb := B.bytes
  have hr := B.returns
  have hlocks := B.notSynchronized
  have hts0 := atoms_spec (ws := Cond.code yX6_refund cX6_refund 3 (some .int) :: lw_B) B.pre
  have hts : ∀ w ∈ lw_B, w.before _ s = true := fun w h => hts0 w (List.mem_cons_of_mem _ h)
  have hown : s.vm.findClass RX6 = some m.cls := findClass_of_methodNamed B.named
  have hS : va_S A s.heap s.heap [] := va_S.rf
  have hl := lv_entry ([.ref (rt 51), .int x]) (n := 3) (Nat.le_of_ble_eq_true rfl)
  rw [lg_entry_eq]
  generalize (lg_sl ([.ref (rt 51), .int x]) ++ List.replicate (3 - (lg_sl ([.ref (rt 51), .int x])).length) Slot.unset).toArray = ls at hl ⊢
  have hl : lv_has ls 3 [(0, .ref (rt 51)), (1, .int x)] := hl
  refine lv_aload_n hx hb dX6_refund_0 rfl (lv_at hl 0 rfl) ?_
  refine lv_iload_n hx hb dX6_refund_1 rfl (lv_at hl 1 rfl) ?_
  refine gc_R (ci := 6) ⟨hx, hb, hml, hown, hts⟩ (m_isSale l dC dI K L f rt hC I_sales x) 1 wm_105 wm_106 wm_107 wm_8 wm_108 (by decide +kernel) ⟨Nat.le_of_ble_eq_true rfl, Nat.le_of_ble_eq_true rfl⟩ hK rfl (hC.1.1 51 (by decide)) F_m rfl hl.1 rfl (Nat.le_of_ble_eq_true rfl) dX6_refund_2 ⟨Nat.le_of_ble_eq_true rfl, Nat.le_of_ble_eq_true rfl⟩ hS hP (fun r_1 H locs hpr_1 hP hS => ?_)
  refine lv_if_ne (tgt := 10) hx hb dX6_refund_5 (by decide) (fun c_2 => ?_) (fun c_2 => ?_)
  · skip
    have g_2 := k_ft hpr_1 c_2
    have hcd_sn := g_2
    obtain ⟨sn, hsn, rfl⟩ := k_ix g_2 (by omega)
    refine lv_aload_n hx hb dX6_refund_10 rfl (lv_at hl 0 rfl) ?_
    refine g_get (ci := 6) (v := .ref (rt 32)) (C := RX6) (T := TX6) (N := 51) hx hb hts uB6 hown hK hP (hC.1.1 51 (by decide)) F_m rfl 32 (by decide) wm_0 (hC.2.2.2 32 (by decide)) dX6_refund_11 ?_
    refine lv_iload_n hx hb dX6_refund_14 rfl (lv_at hl 1 rfl) ?_
    refine g_iald hx hb hK hP (hC.1.1 32 (by decide)) F_state (vp_in_nI (by omega) (by decide)) dX6_refund_15 ?_
    refine lv_topi (fun x_3 ex_3 => ?_)
    rw [nI_clamp (by omega)] at ex_3
    refine lv_iconst (v := 3) hx hb dX6_refund_16 (by decide) ?_
    refine lv_icmp_ne (tgt := 23) hx hb dX6_refund_17 (by decide) (fun c_4 => ?_) (fun c_4 => ?_)
    · skip
      refine lv_aload_n hx hb dX6_refund_23 rfl (lv_at hl 0 rfl) ?_
      refine lv_iload_n hx hb dX6_refund_24 rfl (lv_at hl 1 rfl) ?_
      refine lv_iconst (v := 0) hx hb dX6_refund_25 (by decide) ?_
      refine gc_R (ci := 6) ⟨hx, hb, hml, hown, hts⟩ (m_coins l dC dI K L f rt hC F_state F_saleOf F_pays F_price sn 0 hns hso hsn) 2 wm_5 wm_6 wm_7 wm_8 wm_9 (by decide +kernel) ⟨Nat.le_of_ble_eq_true rfl, Nat.le_of_ble_eq_true rfl⟩ hK rfl (hC.1.1 51 (by decide)) F_m rfl hl.1 rfl (Nat.le_of_ble_eq_true rfl) dX6_refund_26 ⟨Nat.le_of_ble_eq_true rfl, Nat.le_of_ble_eq_true rfl⟩ hS hP (fun r_5 H locs hpr_5 hP hS => ?_)
      refine lv_istore_n (lv' := [(2, .int r_5), (0, .ref (rt 51)), (1, .int (nI sn))]) hx hb dX6_refund_29 rfl hl (by decide) rfl (fun ls hl => ?_)
      refine lv_aload_n hx hb dX6_refund_30 rfl (lv_at hl 1 rfl) ?_
      refine g_get (ci := 6) (v := .ref (rt 32)) (C := RX6) (T := TX6) (N := 51) hx hb hts uB6 hown hK hP (hC.1.1 51 (by decide)) F_m rfl 32 (by decide) wm_0 (hC.2.2.2 32 (by decide)) dX6_refund_31 ?_
      refine lv_iload_n hx hb dX6_refund_34 rfl (lv_at hl 2 rfl) ?_
      refine lv_iconst (v := 3) hx hb dX6_refund_35 (by decide) ?_
      refine g_iast hx hb hK hP hD hS (hC.1.1 32 (by decide)) F_state (vp_in_nI (by omega) (by decide)) dX6_refund_36 (fun H locs hP hD hS => ?_)
      obtain ⟨g_6, eg_6⟩ : ∃ z9, z9 = upd g_state (Int32.toNatClampNeg (nI sn)) 3 := ⟨_, rfl⟩
      rw [← eg_6] at hP hD
      obtain ⟨f_7, ef_7⟩ : ∃ z9, z9 = va_up f (rt 32) (.inl (K 0, 1000, .inl g_6)) := ⟨_, rfl⟩
      have hP : va_P (dC, dI) vwCl (va_pl L f_7) H := by rw [ef_7]; exact hP
      have hD : va_D A (va_pl L f_7) := by rw [ef_7]; exact hD
      have F_m_ : f_7 (rt 51) = .inr (6, fm) := by rw [ef_7, va_up_ne _ _ (fun q => absurd (hC.1.2 51 (by decide) 32 (by decide) q) (by decide))]; exact F_m
      have F_saleOf_ : f_7 (rt 30) = .inl (K 0, 1000, .inl g_saleOf) := by rw [ef_7, va_up_ne _ _ (fun q => absurd (hC.1.2 30 (by decide) 32 (by decide) q) (by decide))]; exact F_saleOf
      have F_pays_ : f_7 (rt 11) = .inl (K 0, 40, .inl g_pays) := by rw [ef_7, va_up_ne _ _ (fun q => absurd (hC.1.2 11 (by decide) 32 (by decide) q) (by decide))]; exact F_pays
      have F_price_ : f_7 (rt 31) = .inl (K 0, 1000, .inl g_price) := by rw [ef_7, va_up_ne _ _ (fun q => absurd (hC.1.2 31 (by decide) 32 (by decide) q) (by decide))]; exact F_price
      have F_m := F_m_
      have F_saleOf := F_saleOf_
      have F_pays := F_pays_
      have F_price := F_price_
      have F_state : f_7 (rt 32) = .inl (K 0, 1000, .inl g_6) := by rw [ef_7, va_up_self]
      have hC : mC rt L f_7 fm := ⟨hC.1, F_m, hC.2.2.1, hC.2.2.2⟩
      refine lv_iload_n hx hb dX6_refund_37 rfl (lv_at hl 0 rfl) ?_
      exact W.iret (v := r_5) hx hb hr (fun t ht hW => ⟨⟨r_5, f_7, rfl, (Or.inr ⟨_, by rw [ef_7]⟩), by show va_P (dC, dI) vwCl (va_pl L f_7) t.heap; rw [ht]; exact hP⟩, hS.F ht⟩) hS.2.2 dX6_refund_38
    · skip
      refine lv_bipush (v := (-2)) hx hb dX6_refund_20 (by decide) ?_
      exact W.iret (v := (-2)) hx hb hr (fun t ht hW => ⟨⟨(-2), f, rfl, (Or.inl rfl), by show va_P (dC, dI) vwCl (va_pl L f) t.heap; rw [ht]; exact hP⟩, hS.F ht⟩) hS.2.2 dX6_refund_22
  · skip
    have g_2 := k_ff hpr_1 c_2
    refine lv_iconst (v := (-1)) hx hb dX6_refund_8 (by decide) ?_
    exact W.iret (v := (-1)) hx hb hr (fun t ht hW => ⟨⟨(-1), f, rfl, (Or.inl rfl), by show va_P (dC, dI) vwCl (va_pl L f) t.heap; rw [ht]; exact hP⟩, hS.F ht⟩) hS.2.2 dX6_refund_9
end
section
set_option maxHeartbeats 4000000 in
set_option maxRecDepth 100000 in
theorem um_goesBy (l : Launch) (dC : Nat → ClassId) (dI : Nat → Nat → Nat) (K : Nat → ClassId) (L : List Nat) (f : Nat → va_E) (rt : Nat → Nat) {fm : List Value} (hC : mC rt L f fm) {g_state : Nat → Int32} (F_state : f (rt 32) = .inl (K 0, 1000, .inl g_state)) {g_saleTick : Nat → Int32} (F_saleTick : f (rt 26) = .inl (K 0, 1000, .inl g_saleTick)) {g_saleWait : Nat → Int32} (F_saleWait : f (rt 33) = .inl (K 0, 1000, .inl g_saleWait)) {g_sort : Nat → Int32} (F_sort : f (rt 10) = .inl (K 0, 40, .inl g_sort)) {g_dayBudget : Nat → Int32} (F_dayBudget : f (rt 15) = .inl (K 0, 40, .inl g_dayBudget)) {g_throttle : Nat → Int32} (F_throttle : f (rt 19) = .inl (K 0, 40, .inl g_throttle)) {g_saleOf : Nat → Int32} (F_saleOf : f (rt 30) = .inl (K 0, 1000, .inl g_saleOf)) {g_pays : Nat → Int32} (F_pays : f (rt 11) = .inl (K 0, 40, .inl g_pays)) {g_price : Nat → Int32} (F_price : f (rt 31) = .inl (K 0, 1000, .inl g_price)) {ns nc tk : Nat} {pc9 : Int32} (I_sales : fm[25]? = some (.int (nI ns))) (I_campaigns : fm[9]? = some (.int (nI nc))) (I_tick : fm[1]? = some (.int (nI tk))) (I_pace : fm[3]? = some (.int pc9)) (hns : ns ≤ 1000) (hso : ∀ j, j < ns → vp_in (g_saleOf j) 40) (hnc : nc ≤ 40) (hLn : gN L) : gMv l yX6_goesBy cX6_goesBy 6 2 (dC, dI) K L f [.ref (rt 51)] (fun f' => (∃ g1 : Nat → Int32, f' = va_up (va_up f (rt 51) (.inr (6, List.set fm 1 (.int (nI (tk + 1)))))) (rt 32) (.inl (K 0, 1000, .inl g1))) ∨ (∃ g1 g2 : Nat → Int32, f' = va_up (va_up (va_up f (rt 51) (.inr (6, List.set fm 1 (.int (nI (tk + 1)))))) (rt 32) (.inl (K 0, 1000, .inl g1))) (rt 19) (.inl (K 0, 40, .inl g2)))) := by
  refine Met.ofW (cc := cX6_goesBy) (maxL := 6) (ret := none) (by decide) rfl ?_
  intro p e s m args below meth c s₁ B hml hv
  obtain ⟨rfl, hP, hK⟩ := hv
  have F_m := hC.2.1
  have hD : va_D (fun q : Nat => q ∈ L) (va_pl L f) := g_D hLn (fun a h => h) f
  generalize hAe : (fun q : Nat => q ∈ L) = A at hD ⊢
  have hx := B.exec
  have hb := B.bytes
  have hr := B.returns
  have hlocks := B.notSynchronized
  have hts0 := atoms_spec (ws := Cond.code yX6_goesBy cX6_goesBy 6 none :: lw_B) B.pre
  have hts : ∀ w ∈ lw_B, w.before _ s = true := fun w h => hts0 w (List.mem_cons_of_mem _ h)
  have hown : s.vm.findClass RX6 = some m.cls := findClass_of_methodNamed B.named
  have hS : va_S A s.heap s.heap [] := va_S.rf
  have hl := lv_entry ([.ref (rt 51)]) (n := 6) (Nat.le_of_ble_eq_true rfl)
  rw [lg_entry_eq]
  generalize (lg_sl ([.ref (rt 51)]) ++ List.replicate (6 - (lg_sl ([.ref (rt 51)])).length) Slot.unset).toArray = ls at hl ⊢
  have hl : lv_has ls 6 [(0, .ref (rt 51))] := hl
  refine lv_aload_n hx hb dX6_goesBy_0 rfl (lv_at hl 0 rfl) ?_
  refine lv_dup hx hb dX6_goesBy_1 rfl ?_
  refine g_get (ci := 6) (v := .int (nI tk)) (C := RX6) (T := TX6) (N := 51) hx hb hts uB6 hown hK hP (hC.1.1 51 (by decide)) F_m rfl 1 (by decide) wm_13 I_tick dX6_goesBy_2 ?_
  refine lv_iconst (v := 1) hx hb dX6_goesBy_5 (by decide) ?_
  refine lv_iadd hx hb dX6_goesBy_6 ?_
  refine lv_topi (fun x_1 ex_1 => ?_)
  obtain rfl : x_1 = nI (tk + 1) := ex_1.trans (nI_1 tk)
  refine g_put (ci := 6) (v := .int (nI (tk + 1))) (ty := .int) (C := RX6) (T := TX6) (N := 51) hx hb hts uB6 tyX6 tyX6_ok nmX6 hown hK hP hD hS (hC.1.1 51 (by decide)) F_m rfl 1 (by decide) wm_13 rfl (by decide +kernel) rfl rfl (by rw [hC.2.2.1]; decide) dX6_goesBy_7 (fun H locs hP hD hS => ?_)
  obtain ⟨fs_2, efs_2⟩ : ∃ z9, z9 = List.set fm 1 (.int (nI (tk + 1))) := ⟨_, rfl⟩
  rw [← efs_2] at hP hD
  have hlen_ : fs_2.length = 51 := by rw [efs_2, List.length_set]; exact hC.2.2.1
  have I_sales : fs_2[25]? = some (.int (nI ns)) := by rw [efs_2, List.getElem?_set_ne (by decide)]; exact I_sales
  have I_campaigns : fs_2[9]? = some (.int (nI nc)) := by rw [efs_2, List.getElem?_set_ne (by decide)]; exact I_campaigns
  have I_pace : fs_2[3]? = some (.int pc9) := by rw [efs_2, List.getElem?_set_ne (by decide)]; exact I_pace
  have I_tick : fs_2[1]? = some (.int (nI (tk + 1))) := by rw [efs_2]; exact List.getElem?_set_self (by rw [hC.2.2.1]; decide)
  have hmr_ : ∀ k ∈ mArr, fs_2[k]? = some (.ref (rt k)) := fun k h => by rw [efs_2, List.getElem?_set_ne (fun q => by rw [← q] at h; exact absurd h (by decide))]; exact hC.2.2.2 k h
  obtain ⟨f_3, ef_3⟩ : ∃ z9, z9 = va_up f (rt 51) (.inr (6, fs_2)) := ⟨_, rfl⟩
  have hP : va_P (dC, dI) vwCl (va_pl L f_3) H := by rw [ef_3]; exact hP
  have hD : va_D A (va_pl L f_3) := by rw [ef_3]; exact hD
  have F_state_ : f_3 (rt 32) = .inl (K 0, 1000, .inl g_state) := by rw [ef_3, va_up_ne _ _ (fun q => absurd (hC.1.2 32 (by decide) 51 (by decide) q) (by decide))]; exact F_state
  have F_saleTick_ : f_3 (rt 26) = .inl (K 0, 1000, .inl g_saleTick) := by rw [ef_3, va_up_ne _ _ (fun q => absurd (hC.1.2 26 (by decide) 51 (by decide) q) (by decide))]; exact F_saleTick
  have F_saleWait_ : f_3 (rt 33) = .inl (K 0, 1000, .inl g_saleWait) := by rw [ef_3, va_up_ne _ _ (fun q => absurd (hC.1.2 33 (by decide) 51 (by decide) q) (by decide))]; exact F_saleWait
  have F_sort_ : f_3 (rt 10) = .inl (K 0, 40, .inl g_sort) := by rw [ef_3, va_up_ne _ _ (fun q => absurd (hC.1.2 10 (by decide) 51 (by decide) q) (by decide))]; exact F_sort
  have F_dayBudget_ : f_3 (rt 15) = .inl (K 0, 40, .inl g_dayBudget) := by rw [ef_3, va_up_ne _ _ (fun q => absurd (hC.1.2 15 (by decide) 51 (by decide) q) (by decide))]; exact F_dayBudget
  have F_throttle_ : f_3 (rt 19) = .inl (K 0, 40, .inl g_throttle) := by rw [ef_3, va_up_ne _ _ (fun q => absurd (hC.1.2 19 (by decide) 51 (by decide) q) (by decide))]; exact F_throttle
  have F_saleOf_ : f_3 (rt 30) = .inl (K 0, 1000, .inl g_saleOf) := by rw [ef_3, va_up_ne _ _ (fun q => absurd (hC.1.2 30 (by decide) 51 (by decide) q) (by decide))]; exact F_saleOf
  have F_pays_ : f_3 (rt 11) = .inl (K 0, 40, .inl g_pays) := by rw [ef_3, va_up_ne _ _ (fun q => absurd (hC.1.2 11 (by decide) 51 (by decide) q) (by decide))]; exact F_pays
  have F_price_ : f_3 (rt 31) = .inl (K 0, 1000, .inl g_price) := by rw [ef_3, va_up_ne _ _ (fun q => absurd (hC.1.2 31 (by decide) 51 (by decide) q) (by decide))]; exact F_price
  have F_state := F_state_
  have F_saleTick := F_saleTick_
  have F_saleWait := F_saleWait_
  have F_sort := F_sort_
  have F_dayBudget := F_dayBudget_
  have F_throttle := F_throttle_
  have F_saleOf := F_saleOf_
  have F_pays := F_pays_
  have F_price := F_price_
  have F_m : f_3 (rt 51) = .inr (6, fs_2) := by rw [ef_3, va_up_self]
  have hC : mC rt L f_3 fs_2 := ⟨hC.1, F_m, hlen_, hmr_⟩
  refine lv_iconst (v := 0) hx hb dX6_goesBy_10 (by decide) ?_
  refine lv_istore_n (lv' := [(1, .int 0), (0, .ref (rt 51))]) hx hb dX6_goesBy_11 rfl hl (by decide) rfl (fun ls hl => ?_)
  refine k_lx (pcx := 63) (fun n H locs ls => ∃ (j : Nat) (fv : Nat → va_E) (gv : Nat → Int32), j + n = ns ∧ fv = va_up f_3 (rt 32) (.inl (K 0, 1000, .inl gv)) ∧ va_P (dC, dI) vwCl (va_pl L fv) H ∧ va_D A (va_pl L fv) ∧ va_S A s.heap H locs ∧ lv_has ls 6 [(0, .ref (rt 51)), (1, .int (nI j))]) (fun H locs ls => ∃ (j : Nat) (fv : Nat → va_E) (gv : Nat → Int32), j = ns ∧ fv = va_up f_3 (rt 32) (.inl (K 0, 1000, .inl gv)) ∧ va_P (dC, dI) vwCl (va_pl L fv) H ∧ va_D A (va_pl L fv) ∧ va_S A s.heap H locs ∧ lv_has ls 6 [(0, .ref (rt 51)), (1, .int (nI j))]) (fun H locs ls hI => ?_) (fun n H locs ls hI hE ih => ?_) ns _ _ _ ⟨0, _, _, by omega, g_upself F_state, hP, hD, hS, lv_sub hl [1, 0] rfl⟩
  · skip
    obtain ⟨j, f_4, g_5, hj, ef_6, hP, hD, hS, hl⟩ := hI
    have F_m_ : f_4 (rt 51) = .inr (6, fs_2) := by rw [ef_6, va_up_ne _ _ (fun q => absurd (hC.1.2 51 (by decide) 32 (by decide) q) (by decide))]; exact F_m
    have F_saleTick_ : f_4 (rt 26) = .inl (K 0, 1000, .inl g_saleTick) := by rw [ef_6, va_up_ne _ _ (fun q => absurd (hC.1.2 26 (by decide) 32 (by decide) q) (by decide))]; exact F_saleTick
    have F_saleWait_ : f_4 (rt 33) = .inl (K 0, 1000, .inl g_saleWait) := by rw [ef_6, va_up_ne _ _ (fun q => absurd (hC.1.2 33 (by decide) 32 (by decide) q) (by decide))]; exact F_saleWait
    have F_sort_ : f_4 (rt 10) = .inl (K 0, 40, .inl g_sort) := by rw [ef_6, va_up_ne _ _ (fun q => absurd (hC.1.2 10 (by decide) 32 (by decide) q) (by decide))]; exact F_sort
    have F_dayBudget_ : f_4 (rt 15) = .inl (K 0, 40, .inl g_dayBudget) := by rw [ef_6, va_up_ne _ _ (fun q => absurd (hC.1.2 15 (by decide) 32 (by decide) q) (by decide))]; exact F_dayBudget
    have F_throttle_ : f_4 (rt 19) = .inl (K 0, 40, .inl g_throttle) := by rw [ef_6, va_up_ne _ _ (fun q => absurd (hC.1.2 19 (by decide) 32 (by decide) q) (by decide))]; exact F_throttle
    have F_saleOf_ : f_4 (rt 30) = .inl (K 0, 1000, .inl g_saleOf) := by rw [ef_6, va_up_ne _ _ (fun q => absurd (hC.1.2 30 (by decide) 32 (by decide) q) (by decide))]; exact F_saleOf
    have F_pays_ : f_4 (rt 11) = .inl (K 0, 40, .inl g_pays) := by rw [ef_6, va_up_ne _ _ (fun q => absurd (hC.1.2 11 (by decide) 32 (by decide) q) (by decide))]; exact F_pays
    have F_price_ : f_4 (rt 31) = .inl (K 0, 1000, .inl g_price) := by rw [ef_6, va_up_ne _ _ (fun q => absurd (hC.1.2 31 (by decide) 32 (by decide) q) (by decide))]; exact F_price
    have F_m := F_m_
    have F_saleTick := F_saleTick_
    have F_saleWait := F_saleWait_
    have F_sort := F_sort_
    have F_dayBudget := F_dayBudget_
    have F_throttle := F_throttle_
    have F_saleOf := F_saleOf_
    have F_pays := F_pays_
    have F_price := F_price_
    have F_state : f_4 (rt 32) = .inl (K 0, 1000, .inl g_5) := by rw [ef_6, va_up_self]
    have hC : mC rt L f_4 fs_2 := ⟨hC.1, F_m, hC.2.2.1, hC.2.2.2⟩
    refine lv_aload_n hx hb dX6_goesBy_63 rfl (lv_at hl 0 rfl) ?_
    refine g_get (ci := 6) (v := .int pc9) (C := RX6) (T := TX6) (N := 51) hx hb hts uB6 hown hK hP (hC.1.1 51 (by decide)) F_m rfl 3 (by decide) wm_113 I_pace dX6_goesBy_64 ?_
    refine lv_if_eq (tgt := 92) hx hb dX6_goesBy_67 (by decide) (fun c_7 => ?_) (fun c_7 => ?_)
    · skip
      exact W.vret hx hb hr (fun t ht hW => ⟨⟨f_4, rfl, (Or.inl ⟨_, by rw [ef_6, ef_3, efs_2]⟩), by show va_P (dC, dI) vwCl (va_pl L f_4) t.heap; rw [ht]; exact hP⟩, hS.F ht⟩) hS.2.2 dX6_goesBy_92
    · skip
      have hpc9 := c_7
      refine lv_aload_n hx hb dX6_goesBy_70 rfl (lv_at hl 0 rfl) ?_
      refine g_get (ci := 6) (v := .int (nI (tk + 1))) (C := RX6) (T := TX6) (N := 51) hx hb hts uB6 hown hK hP (hC.1.1 51 (by decide)) F_m rfl 1 (by decide) wm_13 I_tick dX6_goesBy_71 ?_
      refine lv_aload_n hx hb dX6_goesBy_74 rfl (lv_at hl 0 rfl) ?_
      refine g_get (ci := 6) (v := .int pc9) (C := RX6) (T := TX6) (N := 51) hx hb hts uB6 hown hK hP (hC.1.1 51 (by decide)) F_m rfl 3 (by decide) wm_113 I_pace dX6_goesBy_75 ?_
      refine lv_irem hx hb dX6_goesBy_78 hpc9 ?_
      refine lv_topi (fun x_8 ex_8 => ?_)
      refine lv_if_ne (tgt := 92) hx hb dX6_goesBy_79 (by decide) (fun c_9 => ?_) (fun c_9 => ?_)
      · skip
        exact W.vret hx hb hr (fun t ht hW => ⟨⟨f_4, rfl, (Or.inl ⟨_, by rw [ef_6, ef_3, efs_2]⟩), by show va_P (dC, dI) vwCl (va_pl L f_4) t.heap; rw [ht]; exact hP⟩, hS.F ht⟩) hS.2.2 dX6_goesBy_92
      · skip
        refine lv_aload_n hx hb dX6_goesBy_82 rfl (lv_at hl 0 rfl) ?_
        refine g_get (ci := 6) (v := .int (nI (tk + 1))) (C := RX6) (T := TX6) (N := 51) hx hb hts uB6 hown hK hP (hC.1.1 51 (by decide)) F_m rfl 1 (by decide) wm_13 I_tick dX6_goesBy_83 ?_
        refine lv_bipush (v := 100) hx hb dX6_goesBy_86 (by decide) ?_
        refine lv_irem hx hb dX6_goesBy_88 (by decide) ?_
        refine lv_topi (fun x_10 ex_10 => ?_)
        refine lv_if_ne (tgt := 93) hx hb dX6_goesBy_89 (by decide) (fun c_11 => ?_) (fun c_11 => ?_)
        · skip
          refine lv_iconst (v := 0) hx hb dX6_goesBy_93 (by decide) ?_
          refine lv_istore_n (lv' := [(1, .int 0), (0, .ref (rt 51))]) hx hb dX6_goesBy_94 rfl hl (by decide) rfl (fun ls hl => ?_)
          refine k_lx (pcx := 257) (fun n H locs ls => ∃ (j : Nat) (fv : Nat → va_E) (gv : Nat → Int32), j + n = nc ∧ fv = va_up f_4 (rt 19) (.inl (K 0, 40, .inl gv)) ∧ va_P (dC, dI) vwCl (va_pl L fv) H ∧ va_D A (va_pl L fv) ∧ va_S A s.heap H locs ∧ lv_has ls 6 [(0, .ref (rt 51)), (1, .int (nI j))]) (fun H locs ls => ∃ (j : Nat) (fv : Nat → va_E) (gv : Nat → Int32), j = nc ∧ fv = va_up f_4 (rt 19) (.inl (K 0, 40, .inl gv)) ∧ va_P (dC, dI) vwCl (va_pl L fv) H ∧ va_D A (va_pl L fv) ∧ va_S A s.heap H locs ∧ lv_has ls 6 [(0, .ref (rt 51)), (1, .int (nI j))]) (fun H locs ls hI => ?_) (fun n H locs ls hI hE ih => ?_) nc _ _ _ ⟨0, _, _, by omega, g_upself F_throttle, hP, hD, hS, lv_sub hl [1, 0] rfl⟩
          · skip
            obtain ⟨j, f_12, g_13, hj, ef_14, hP, hD, hS, hl⟩ := hI
            have F_m_ : f_12 (rt 51) = .inr (6, fs_2) := by rw [ef_14, va_up_ne _ _ (fun q => absurd (hC.1.2 51 (by decide) 19 (by decide) q) (by decide))]; exact F_m
            have F_state_ : f_12 (rt 32) = .inl (K 0, 1000, .inl g_5) := by rw [ef_14, va_up_ne _ _ (fun q => absurd (hC.1.2 32 (by decide) 19 (by decide) q) (by decide))]; exact F_state
            have F_saleTick_ : f_12 (rt 26) = .inl (K 0, 1000, .inl g_saleTick) := by rw [ef_14, va_up_ne _ _ (fun q => absurd (hC.1.2 26 (by decide) 19 (by decide) q) (by decide))]; exact F_saleTick
            have F_saleWait_ : f_12 (rt 33) = .inl (K 0, 1000, .inl g_saleWait) := by rw [ef_14, va_up_ne _ _ (fun q => absurd (hC.1.2 33 (by decide) 19 (by decide) q) (by decide))]; exact F_saleWait
            have F_sort_ : f_12 (rt 10) = .inl (K 0, 40, .inl g_sort) := by rw [ef_14, va_up_ne _ _ (fun q => absurd (hC.1.2 10 (by decide) 19 (by decide) q) (by decide))]; exact F_sort
            have F_dayBudget_ : f_12 (rt 15) = .inl (K 0, 40, .inl g_dayBudget) := by rw [ef_14, va_up_ne _ _ (fun q => absurd (hC.1.2 15 (by decide) 19 (by decide) q) (by decide))]; exact F_dayBudget
            have F_saleOf_ : f_12 (rt 30) = .inl (K 0, 1000, .inl g_saleOf) := by rw [ef_14, va_up_ne _ _ (fun q => absurd (hC.1.2 30 (by decide) 19 (by decide) q) (by decide))]; exact F_saleOf
            have F_pays_ : f_12 (rt 11) = .inl (K 0, 40, .inl g_pays) := by rw [ef_14, va_up_ne _ _ (fun q => absurd (hC.1.2 11 (by decide) 19 (by decide) q) (by decide))]; exact F_pays
            have F_price_ : f_12 (rt 31) = .inl (K 0, 1000, .inl g_price) := by rw [ef_14, va_up_ne _ _ (fun q => absurd (hC.1.2 31 (by decide) 19 (by decide) q) (by decide))]; exact F_price
            have F_m := F_m_
            have F_state := F_state_
            have F_saleTick := F_saleTick_
            have F_saleWait := F_saleWait_
            have F_sort := F_sort_
            have F_dayBudget := F_dayBudget_
            have F_saleOf := F_saleOf_
            have F_pays := F_pays_
            have F_price := F_price_
            have F_throttle : f_12 (rt 19) = .inl (K 0, 40, .inl g_13) := by rw [ef_14, va_up_self]
            have hC : mC rt L f_12 fs_2 := ⟨hC.1, F_m, hC.2.2.1, hC.2.2.2⟩
            exact W.vret hx hb hr (fun t ht hW => ⟨⟨f_12, rfl, (Or.inr ⟨_, _, by rw [ef_14, ef_6, ef_3, efs_2]⟩), by show va_P (dC, dI) vwCl (va_pl L f_12) t.heap; rw [ht]; exact hP⟩, hS.F ht⟩) hS.2.2 dX6_goesBy_257
          · skip
            obtain ⟨j, f_15, g_16, hj, ef_17, hP, hD, hS, hl⟩ := hI
            have F_m_ : f_15 (rt 51) = .inr (6, fs_2) := by rw [ef_17, va_up_ne _ _ (fun q => absurd (hC.1.2 51 (by decide) 19 (by decide) q) (by decide))]; exact F_m
            have F_state_ : f_15 (rt 32) = .inl (K 0, 1000, .inl g_5) := by rw [ef_17, va_up_ne _ _ (fun q => absurd (hC.1.2 32 (by decide) 19 (by decide) q) (by decide))]; exact F_state
            have F_saleTick_ : f_15 (rt 26) = .inl (K 0, 1000, .inl g_saleTick) := by rw [ef_17, va_up_ne _ _ (fun q => absurd (hC.1.2 26 (by decide) 19 (by decide) q) (by decide))]; exact F_saleTick
            have F_saleWait_ : f_15 (rt 33) = .inl (K 0, 1000, .inl g_saleWait) := by rw [ef_17, va_up_ne _ _ (fun q => absurd (hC.1.2 33 (by decide) 19 (by decide) q) (by decide))]; exact F_saleWait
            have F_sort_ : f_15 (rt 10) = .inl (K 0, 40, .inl g_sort) := by rw [ef_17, va_up_ne _ _ (fun q => absurd (hC.1.2 10 (by decide) 19 (by decide) q) (by decide))]; exact F_sort
            have F_dayBudget_ : f_15 (rt 15) = .inl (K 0, 40, .inl g_dayBudget) := by rw [ef_17, va_up_ne _ _ (fun q => absurd (hC.1.2 15 (by decide) 19 (by decide) q) (by decide))]; exact F_dayBudget
            have F_saleOf_ : f_15 (rt 30) = .inl (K 0, 1000, .inl g_saleOf) := by rw [ef_17, va_up_ne _ _ (fun q => absurd (hC.1.2 30 (by decide) 19 (by decide) q) (by decide))]; exact F_saleOf
            have F_pays_ : f_15 (rt 11) = .inl (K 0, 40, .inl g_pays) := by rw [ef_17, va_up_ne _ _ (fun q => absurd (hC.1.2 11 (by decide) 19 (by decide) q) (by decide))]; exact F_pays
            have F_price_ : f_15 (rt 31) = .inl (K 0, 1000, .inl g_price) := by rw [ef_17, va_up_ne _ _ (fun q => absurd (hC.1.2 31 (by decide) 19 (by decide) q) (by decide))]; exact F_price
            have F_m := F_m_
            have F_state := F_state_
            have F_saleTick := F_saleTick_
            have F_saleWait := F_saleWait_
            have F_sort := F_sort_
            have F_dayBudget := F_dayBudget_
            have F_saleOf := F_saleOf_
            have F_pays := F_pays_
            have F_price := F_price_
            have F_throttle : f_15 (rt 19) = .inl (K 0, 40, .inl g_16) := by rw [ef_17, va_up_self]
            have hC : mC rt L f_15 fs_2 := ⟨hC.1, F_m, hC.2.2.1, hC.2.2.2⟩
            refine lv_iload_n hx hb dX6_goesBy_95 rfl (lv_at hl 1 rfl) ?_
            refine lv_aload_n hx hb dX6_goesBy_96 rfl (lv_at hl 0 rfl) ?_
            refine g_get (ci := 6) (v := .int (nI nc)) (C := RX6) (T := TX6) (N := 51) hx hb hts uB6 hown hK hP (hC.1.1 51 (by decide)) F_m rfl 9 (by decide) wm_76 I_campaigns dX6_goesBy_97 ?_
            refine lv_icmp_ge (tgt := 257) hx hb dX6_goesBy_100 (by decide) (fun c_18 => ?_) (fun c_18 => ?_)
            · skip
              have hjn : j = nc := by have := (nI_leI (a := nc) (b := j) (by omega) (by omega)).mp c_18; omega
              exact hE _ _ _ ⟨j, f_15, _, by omega, ef_17, hP, hD, hS, lv_sub hl [0, 1] rfl⟩
            · skip
              have hjn : j < nc := by rcases Nat.lt_or_ge j nc with q | q; exact q; exact absurd (nI_le q (by omega)) c_18
              refine lv_aload_n hx hb dX6_goesBy_103 rfl (lv_at hl 0 rfl) ?_
              refine g_get (ci := 6) (v := .ref (rt 10)) (C := RX6) (T := TX6) (N := 51) hx hb hts uB6 hown hK hP (hC.1.1 51 (by decide)) F_m rfl 10 (by decide) wm_21 (hC.2.2.2 10 (by decide)) dX6_goesBy_104 ?_
              refine lv_iload_n hx hb dX6_goesBy_107 rfl (lv_at hl 1 rfl) ?_
              refine g_iald hx hb hK hP (hC.1.1 10 (by decide)) F_sort (vp_in_nI (by omega) (by decide)) dX6_goesBy_108 ?_
              refine lv_topi (fun x_19 ex_19 => ?_)
              rw [nI_clamp (by omega)] at ex_19
              refine lv_if_eq (tgt := 115) hx hb dX6_goesBy_109 (by decide) (fun c_20 => ?_) (fun c_20 => ?_)
              · skip
                refine lv_aload_n hx hb dX6_goesBy_115 rfl (lv_at hl 0 rfl) ?_
                refine lv_iload_n hx hb dX6_goesBy_116 rfl (lv_at hl 1 rfl) ?_
                refine lv_aload_n hx hb dX6_goesBy_117 rfl (lv_at hl 0 rfl) ?_
                refine g_get (ci := 6) (v := .int (nI (tk + 1))) (C := RX6) (T := TX6) (N := 51) hx hb hts uB6 hown hK hP (hC.1.1 51 (by decide)) F_m rfl 1 (by decide) wm_13 I_tick dX6_goesBy_118 ?_
                refine lv_bipush (v := 100) hx hb dX6_goesBy_121 (by decide) ?_
                refine lv_idiv hx hb dX6_goesBy_123 (by decide) ?_
                refine lv_topi (fun x_21 ex_21 => ?_)
                refine lv_iconst (v := 1) hx hb dX6_goesBy_124 (by decide) ?_
                refine lv_iconst (v := 1) hx hb dX6_goesBy_125 (by decide) ?_
                refine gc_R (ci := 6) ⟨hx, hb, hml, hown, hts⟩ (m_sum l dC dI K L f_15 rt hC F_saleOf F_saleTick F_state F_pays F_price I_sales (nI j) x_21 1 1 hns hso) 4 wm_14 wm_15 wm_16 wm_8 wm_17 (by decide +kernel) ⟨Nat.le_of_ble_eq_true rfl, Nat.le_of_ble_eq_true rfl⟩ hK rfl (hC.1.1 51 (by decide)) F_m rfl hl.1 rfl (Nat.le_of_ble_eq_true rfl) dX6_goesBy_126 ⟨Nat.le_of_ble_eq_true rfl, Nat.le_of_ble_eq_true rfl⟩ hS hP (fun r_22 H locs hpr_22 hP hS => ?_)
                refine lv_i2l hx hb dX6_goesBy_129 rfl ?_
                refine lv_topl (fun x_23 ex_23 => ?_)
                refine lv_ldc2 (v := 100) hx hb hown (hts _ wm_123) dX6_goesBy_130 ?_
                refine lv_lmul hx hb dX6_goesBy_133 ?_
                refine lv_topl (fun x_24 ex_24 => ?_)
                refine lv_lstore_n (lv' := [(2, .long x_24), (0, .ref (rt 51)), (1, .int (nI j))]) hx hb dX6_goesBy_134 rfl hl (by decide) rfl (fun ls hl => ?_)
                refine lv_aload_n hx hb dX6_goesBy_135 rfl (lv_at hl 1 rfl) ?_
                refine g_get (ci := 6) (v := .ref (rt 15)) (C := RX6) (T := TX6) (N := 51) hx hb hts uB6 hown hK hP (hC.1.1 51 (by decide)) F_m rfl 15 (by decide) wm_12 (hC.2.2.2 15 (by decide)) dX6_goesBy_136 ?_
                refine lv_iload_n hx hb dX6_goesBy_139 rfl (lv_at hl 2 rfl) ?_
                refine g_iald hx hb hK hP (hC.1.1 15 (by decide)) F_dayBudget (vp_in_nI (by omega) (by decide)) dX6_goesBy_140 ?_
                refine lv_topi (fun x_25 ex_25 => ?_)
                rw [nI_clamp (by omega)] at ex_25
                refine lv_i2l hx hb dX6_goesBy_141 rfl ?_
                refine lv_topl (fun x_26 ex_26 => ?_)
                refine lv_aload_n hx hb dX6_goesBy_142 rfl (lv_at hl 1 rfl) ?_
                refine g_get (ci := 6) (v := .int (nI (tk + 1))) (C := RX6) (T := TX6) (N := 51) hx hb hts uB6 hown hK hP (hC.1.1 51 (by decide)) F_m rfl 1 (by decide) wm_13 I_tick dX6_goesBy_143 ?_
                refine lv_bipush (v := 100) hx hb dX6_goesBy_146 (by decide) ?_
                refine lv_irem hx hb dX6_goesBy_148 (by decide) ?_
                refine lv_topi (fun x_27 ex_27 => ?_)
                refine lv_i2l hx hb dX6_goesBy_149 rfl ?_
                refine lv_topl (fun x_28 ex_28 => ?_)
                refine lv_lmul hx hb dX6_goesBy_150 ?_
                refine lv_topl (fun x_29 ex_29 => ?_)
                refine lv_lstore (lv' := [(4, .long x_29), (2, .long x_24), (0, .ref (rt 51)), (1, .int (nI j))]) hx hb dX6_goesBy_151 hl (by decide) rfl (fun ls hl => ?_)
                refine lv_lload_n hx hb dX6_goesBy_153 rfl (lv_at hl 1 rfl) ?_
                refine lv_lload hx hb dX6_goesBy_154 (lv_at hl 0 rfl) ?_
                refine W.lcmp hx hb dX6_goesBy_156 ?_
                refine lv_topi (fun x_30 ex_30 => ?_)
                refine lv_if_le (tgt := 198) hx hb dX6_goesBy_157 (by decide) (fun c_31 => ?_) (fun c_31 => ?_)
                · skip
                  refine lv_lload_n hx hb dX6_goesBy_198 rfl (lv_at hl 1 rfl) ?_
                  refine lv_lload hx hb dX6_goesBy_199 (lv_at hl 0 rfl) ?_
                  refine W.lcmp hx hb dX6_goesBy_201 ?_
                  refine lv_topi (fun x_32 ex_32 => ?_)
                  refine lv_if_ge (tgt := 251) hx hb dX6_goesBy_202 (by decide) (fun c_33 => ?_) (fun c_33 => ?_)
                  · skip
                    obtain ⟨x_34, ex_34⟩ : ∃ y : Int32, y = (nI j) + 1 := ⟨_, rfl⟩
                    refine lv_iinc (v := x_34) (lv' := [(1, .int x_34), (4, .long x_29), (2, .long x_24), (0, .ref (rt 51))]) hx hb dX6_goesBy_251 hl (k := 3) rfl (by rw [ex_34]; rfl) (by decide) rfl (fun ls hl => ?_)
                    refine lv_goto (tgt := 95) hx hb dX6_goesBy_254 (by decide) ?_
                    obtain rfl : x_34 = nI (j + 1) := ex_34.trans (nI_1 j)
                    exact ih (n - 1) (by omega) _ _ _ ⟨j + 1, f_15, _, by omega, ef_17, hP, hD, hS, lv_sub hl [3, 0] rfl⟩
                  · skip
                    refine lv_aload_n hx hb dX6_goesBy_205 rfl (lv_at hl 2 rfl) ?_
                    refine g_get (ci := 6) (v := .ref (rt 19)) (C := RX6) (T := TX6) (N := 51) hx hb hts uB6 hown hK hP (hC.1.1 51 (by decide)) F_m rfl 19 (by decide) wm_38 (hC.2.2.2 19 (by decide)) dX6_goesBy_206 ?_
                    refine lv_iload_n hx hb dX6_goesBy_209 rfl (lv_at hl 3 rfl) ?_
                    refine lv_aload_n hx hb dX6_goesBy_210 rfl (lv_at hl 2 rfl) ?_
                    refine g_get (ci := 6) (v := .ref (rt 19)) (C := RX6) (T := TX6) (N := 51) hx hb hts uB6 hown hK hP (hC.1.1 51 (by decide)) F_m rfl 19 (by decide) wm_38 (hC.2.2.2 19 (by decide)) dX6_goesBy_211 ?_
                    refine lv_iload_n hx hb dX6_goesBy_214 rfl (lv_at hl 3 rfl) ?_
                    refine g_iald hx hb hK hP (hC.1.1 19 (by decide)) F_throttle (vp_in_nI (by omega) (by decide)) dX6_goesBy_215 ?_
                    refine lv_topi (fun x_35 ex_35 => ?_)
                    rw [nI_clamp (by omega)] at ex_35
                    refine lv_bipush (v := 11) hx hb dX6_goesBy_216 (by decide) ?_
                    refine lv_imul hx hb dX6_goesBy_218 ?_
                    refine lv_topi (fun x_36 ex_36 => ?_)
                    refine lv_bipush (v := 10) hx hb dX6_goesBy_219 (by decide) ?_
                    refine lv_idiv hx hb dX6_goesBy_221 (by decide) ?_
                    refine lv_topi (fun x_37 ex_37 => ?_)
                    refine lv_iconst (v := 1) hx hb dX6_goesBy_222 (by decide) ?_
                    refine lv_iadd hx hb dX6_goesBy_223 ?_
                    refine lv_topi (fun x_38 ex_38 => ?_)
                    refine lv_sipush (v := 1000) hx hb dX6_goesBy_224 (by decide) ?_
                    refine lv_icmp_le (tgt := 236) hx hb dX6_goesBy_227 (by decide) (fun c_39 => ?_) (fun c_39 => ?_)
                    · skip
                      refine lv_aload_n hx hb dX6_goesBy_236 rfl (lv_at hl 2 rfl) ?_
                      refine g_get (ci := 6) (v := .ref (rt 19)) (C := RX6) (T := TX6) (N := 51) hx hb hts uB6 hown hK hP (hC.1.1 51 (by decide)) F_m rfl 19 (by decide) wm_38 (hC.2.2.2 19 (by decide)) dX6_goesBy_237 ?_
                      refine lv_iload_n hx hb dX6_goesBy_240 rfl (lv_at hl 3 rfl) ?_
                      refine g_iald hx hb hK hP (hC.1.1 19 (by decide)) F_throttle (vp_in_nI (by omega) (by decide)) dX6_goesBy_241 ?_
                      refine lv_topi (fun x_40 ex_40 => ?_)
                      rw [nI_clamp (by omega)] at ex_40
                      refine lv_bipush (v := 11) hx hb dX6_goesBy_242 (by decide) ?_
                      refine lv_imul hx hb dX6_goesBy_244 ?_
                      refine lv_topi (fun x_41 ex_41 => ?_)
                      refine lv_bipush (v := 10) hx hb dX6_goesBy_245 (by decide) ?_
                      refine lv_idiv hx hb dX6_goesBy_247 (by decide) ?_
                      refine lv_topi (fun x_42 ex_42 => ?_)
                      refine lv_iconst (v := 1) hx hb dX6_goesBy_248 (by decide) ?_
                      refine lv_iadd hx hb dX6_goesBy_249 ?_
                      refine lv_topi (fun x_43 ex_43 => ?_)
                      refine g_iast hx hb hK hP hD hS (hC.1.1 19 (by decide)) F_throttle (vp_in_nI (by omega) (by decide)) dX6_goesBy_250 (fun H locs hP hD hS => ?_)
                      obtain ⟨g_44, eg_44⟩ : ∃ z9, z9 = upd g_16 (Int32.toNatClampNeg (nI j)) x_43 := ⟨_, rfl⟩
                      rw [← eg_44] at hP hD
                      obtain ⟨f_45, ef_45⟩ : ∃ z9, z9 = va_up f_15 (rt 19) (.inl (K 0, 40, .inl g_44)) := ⟨_, rfl⟩
                      have hP : va_P (dC, dI) vwCl (va_pl L f_45) H := by rw [ef_45]; exact hP
                      have hD : va_D A (va_pl L f_45) := by rw [ef_45]; exact hD
                      have F_m_ : f_45 (rt 51) = .inr (6, fs_2) := by rw [ef_45, va_up_ne _ _ (fun q => absurd (hC.1.2 51 (by decide) 19 (by decide) q) (by decide))]; exact F_m
                      have F_state_ : f_45 (rt 32) = .inl (K 0, 1000, .inl g_5) := by rw [ef_45, va_up_ne _ _ (fun q => absurd (hC.1.2 32 (by decide) 19 (by decide) q) (by decide))]; exact F_state
                      have F_saleTick_ : f_45 (rt 26) = .inl (K 0, 1000, .inl g_saleTick) := by rw [ef_45, va_up_ne _ _ (fun q => absurd (hC.1.2 26 (by decide) 19 (by decide) q) (by decide))]; exact F_saleTick
                      have F_saleWait_ : f_45 (rt 33) = .inl (K 0, 1000, .inl g_saleWait) := by rw [ef_45, va_up_ne _ _ (fun q => absurd (hC.1.2 33 (by decide) 19 (by decide) q) (by decide))]; exact F_saleWait
                      have F_sort_ : f_45 (rt 10) = .inl (K 0, 40, .inl g_sort) := by rw [ef_45, va_up_ne _ _ (fun q => absurd (hC.1.2 10 (by decide) 19 (by decide) q) (by decide))]; exact F_sort
                      have F_dayBudget_ : f_45 (rt 15) = .inl (K 0, 40, .inl g_dayBudget) := by rw [ef_45, va_up_ne _ _ (fun q => absurd (hC.1.2 15 (by decide) 19 (by decide) q) (by decide))]; exact F_dayBudget
                      have F_saleOf_ : f_45 (rt 30) = .inl (K 0, 1000, .inl g_saleOf) := by rw [ef_45, va_up_ne _ _ (fun q => absurd (hC.1.2 30 (by decide) 19 (by decide) q) (by decide))]; exact F_saleOf
                      have F_pays_ : f_45 (rt 11) = .inl (K 0, 40, .inl g_pays) := by rw [ef_45, va_up_ne _ _ (fun q => absurd (hC.1.2 11 (by decide) 19 (by decide) q) (by decide))]; exact F_pays
                      have F_price_ : f_45 (rt 31) = .inl (K 0, 1000, .inl g_price) := by rw [ef_45, va_up_ne _ _ (fun q => absurd (hC.1.2 31 (by decide) 19 (by decide) q) (by decide))]; exact F_price
                      have F_m := F_m_
                      have F_state := F_state_
                      have F_saleTick := F_saleTick_
                      have F_saleWait := F_saleWait_
                      have F_sort := F_sort_
                      have F_dayBudget := F_dayBudget_
                      have F_saleOf := F_saleOf_
                      have F_pays := F_pays_
                      have F_price := F_price_
                      have F_throttle : f_45 (rt 19) = .inl (K 0, 40, .inl g_44) := by rw [ef_45, va_up_self]
                      have hC : mC rt L f_45 fs_2 := ⟨hC.1, F_m, hC.2.2.1, hC.2.2.2⟩
                      obtain ⟨x_46, ex_46⟩ : ∃ y : Int32, y = (nI j) + 1 := ⟨_, rfl⟩
                      refine lv_iinc (v := x_46) (lv' := [(1, .int x_46), (4, .long x_29), (2, .long x_24), (0, .ref (rt 51))]) hx hb dX6_goesBy_251 hl (k := 3) rfl (by rw [ex_46]; rfl) (by decide) rfl (fun ls hl => ?_)
                      refine lv_goto (tgt := 95) hx hb dX6_goesBy_254 (by decide) ?_
                      obtain rfl : x_46 = nI (j + 1) := ex_46.trans (nI_1 j)
                      exact ih (n - 1) (by omega) _ _ _ ⟨j + 1, f_45, _, by omega, by rw [ef_45, ef_17, bx_uu], hP, hD, hS, lv_sub hl [3, 0] rfl⟩
                    · skip
                      refine lv_sipush (v := 1000) hx hb dX6_goesBy_230 (by decide) ?_
                      refine lv_goto (tgt := 250) hx hb dX6_goesBy_233 (by decide) ?_
                      refine g_iast hx hb hK hP hD hS (hC.1.1 19 (by decide)) F_throttle (vp_in_nI (by omega) (by decide)) dX6_goesBy_250 (fun H locs hP hD hS => ?_)
                      obtain ⟨g_47, eg_47⟩ : ∃ z9, z9 = upd g_16 (Int32.toNatClampNeg (nI j)) 1000 := ⟨_, rfl⟩
                      rw [← eg_47] at hP hD
                      obtain ⟨f_48, ef_48⟩ : ∃ z9, z9 = va_up f_15 (rt 19) (.inl (K 0, 40, .inl g_47)) := ⟨_, rfl⟩
                      have hP : va_P (dC, dI) vwCl (va_pl L f_48) H := by rw [ef_48]; exact hP
                      have hD : va_D A (va_pl L f_48) := by rw [ef_48]; exact hD
                      have F_m_ : f_48 (rt 51) = .inr (6, fs_2) := by rw [ef_48, va_up_ne _ _ (fun q => absurd (hC.1.2 51 (by decide) 19 (by decide) q) (by decide))]; exact F_m
                      have F_state_ : f_48 (rt 32) = .inl (K 0, 1000, .inl g_5) := by rw [ef_48, va_up_ne _ _ (fun q => absurd (hC.1.2 32 (by decide) 19 (by decide) q) (by decide))]; exact F_state
                      have F_saleTick_ : f_48 (rt 26) = .inl (K 0, 1000, .inl g_saleTick) := by rw [ef_48, va_up_ne _ _ (fun q => absurd (hC.1.2 26 (by decide) 19 (by decide) q) (by decide))]; exact F_saleTick
                      have F_saleWait_ : f_48 (rt 33) = .inl (K 0, 1000, .inl g_saleWait) := by rw [ef_48, va_up_ne _ _ (fun q => absurd (hC.1.2 33 (by decide) 19 (by decide) q) (by decide))]; exact F_saleWait
                      have F_sort_ : f_48 (rt 10) = .inl (K 0, 40, .inl g_sort) := by rw [ef_48, va_up_ne _ _ (fun q => absurd (hC.1.2 10 (by decide) 19 (by decide) q) (by decide))]; exact F_sort
                      have F_dayBudget_ : f_48 (rt 15) = .inl (K 0, 40, .inl g_dayBudget) := by rw [ef_48, va_up_ne _ _ (fun q => absurd (hC.1.2 15 (by decide) 19 (by decide) q) (by decide))]; exact F_dayBudget
                      have F_saleOf_ : f_48 (rt 30) = .inl (K 0, 1000, .inl g_saleOf) := by rw [ef_48, va_up_ne _ _ (fun q => absurd (hC.1.2 30 (by decide) 19 (by decide) q) (by decide))]; exact F_saleOf
                      have F_pays_ : f_48 (rt 11) = .inl (K 0, 40, .inl g_pays) := by rw [ef_48, va_up_ne _ _ (fun q => absurd (hC.1.2 11 (by decide) 19 (by decide) q) (by decide))]; exact F_pays
                      have F_price_ : f_48 (rt 31) = .inl (K 0, 1000, .inl g_price) := by rw [ef_48, va_up_ne _ _ (fun q => absurd (hC.1.2 31 (by decide) 19 (by decide) q) (by decide))]; exact F_price
                      have F_m := F_m_
                      have F_state := F_state_
                      have F_saleTick := F_saleTick_
                      have F_saleWait := F_saleWait_
                      have F_sort := F_sort_
                      have F_dayBudget := F_dayBudget_
                      have F_saleOf := F_saleOf_
                      have F_pays := F_pays_
                      have F_price := F_price_
                      have F_throttle : f_48 (rt 19) = .inl (K 0, 40, .inl g_47) := by rw [ef_48, va_up_self]
                      have hC : mC rt L f_48 fs_2 := ⟨hC.1, F_m, hC.2.2.1, hC.2.2.2⟩
                      obtain ⟨x_49, ex_49⟩ : ∃ y : Int32, y = (nI j) + 1 := ⟨_, rfl⟩
                      refine lv_iinc (v := x_49) (lv' := [(1, .int x_49), (4, .long x_29), (2, .long x_24), (0, .ref (rt 51))]) hx hb dX6_goesBy_251 hl (k := 3) rfl (by rw [ex_49]; rfl) (by decide) rfl (fun ls hl => ?_)
                      refine lv_goto (tgt := 95) hx hb dX6_goesBy_254 (by decide) ?_
                      obtain rfl : x_49 = nI (j + 1) := ex_49.trans (nI_1 j)
                      exact ih (n - 1) (by omega) _ _ _ ⟨j + 1, f_48, _, by omega, by rw [ef_48, ef_17, bx_uu], hP, hD, hS, lv_sub hl [3, 0] rfl⟩
                · skip
                  refine lv_aload_n hx hb dX6_goesBy_160 rfl (lv_at hl 2 rfl) ?_
                  refine g_get (ci := 6) (v := .ref (rt 19)) (C := RX6) (T := TX6) (N := 51) hx hb hts uB6 hown hK hP (hC.1.1 51 (by decide)) F_m rfl 19 (by decide) wm_38 (hC.2.2.2 19 (by decide)) dX6_goesBy_161 ?_
                  refine lv_iload_n hx hb dX6_goesBy_164 rfl (lv_at hl 3 rfl) ?_
                  refine lv_aload_n hx hb dX6_goesBy_165 rfl (lv_at hl 2 rfl) ?_
                  refine g_get (ci := 6) (v := .ref (rt 19)) (C := RX6) (T := TX6) (N := 51) hx hb hts uB6 hown hK hP (hC.1.1 51 (by decide)) F_m rfl 19 (by decide) wm_38 (hC.2.2.2 19 (by decide)) dX6_goesBy_166 ?_
                  refine lv_iload_n hx hb dX6_goesBy_169 rfl (lv_at hl 3 rfl) ?_
                  refine g_iald hx hb hK hP (hC.1.1 19 (by decide)) F_throttle (vp_in_nI (by omega) (by decide)) dX6_goesBy_170 ?_
                  refine lv_topi (fun x_50 ex_50 => ?_)
                  rw [nI_clamp (by omega)] at ex_50
                  refine lv_bipush (v := 9) hx hb dX6_goesBy_171 (by decide) ?_
                  refine lv_imul hx hb dX6_goesBy_173 ?_
                  refine lv_topi (fun x_51 ex_51 => ?_)
                  refine lv_bipush (v := 10) hx hb dX6_goesBy_174 (by decide) ?_
                  refine lv_idiv hx hb dX6_goesBy_176 (by decide) ?_
                  refine lv_topi (fun x_52 ex_52 => ?_)
                  refine lv_iconst (v := 1) hx hb dX6_goesBy_177 (by decide) ?_
                  refine lv_icmp_ge (tgt := 185) hx hb dX6_goesBy_178 (by decide) (fun c_53 => ?_) (fun c_53 => ?_)
                  · skip
                    refine lv_aload_n hx hb dX6_goesBy_185 rfl (lv_at hl 2 rfl) ?_
                    refine g_get (ci := 6) (v := .ref (rt 19)) (C := RX6) (T := TX6) (N := 51) hx hb hts uB6 hown hK hP (hC.1.1 51 (by decide)) F_m rfl 19 (by decide) wm_38 (hC.2.2.2 19 (by decide)) dX6_goesBy_186 ?_
                    refine lv_iload_n hx hb dX6_goesBy_189 rfl (lv_at hl 3 rfl) ?_
                    refine g_iald hx hb hK hP (hC.1.1 19 (by decide)) F_throttle (vp_in_nI (by omega) (by decide)) dX6_goesBy_190 ?_
                    refine lv_topi (fun x_54 ex_54 => ?_)
                    rw [nI_clamp (by omega)] at ex_54
                    refine lv_bipush (v := 9) hx hb dX6_goesBy_191 (by decide) ?_
                    refine lv_imul hx hb dX6_goesBy_193 ?_
                    refine lv_topi (fun x_55 ex_55 => ?_)
                    refine lv_bipush (v := 10) hx hb dX6_goesBy_194 (by decide) ?_
                    refine lv_idiv hx hb dX6_goesBy_196 (by decide) ?_
                    refine lv_topi (fun x_56 ex_56 => ?_)
                    refine g_iast hx hb hK hP hD hS (hC.1.1 19 (by decide)) F_throttle (vp_in_nI (by omega) (by decide)) dX6_goesBy_197 (fun H locs hP hD hS => ?_)
                    obtain ⟨g_57, eg_57⟩ : ∃ z9, z9 = upd g_16 (Int32.toNatClampNeg (nI j)) x_56 := ⟨_, rfl⟩
                    rw [← eg_57] at hP hD
                    obtain ⟨f_58, ef_58⟩ : ∃ z9, z9 = va_up f_15 (rt 19) (.inl (K 0, 40, .inl g_57)) := ⟨_, rfl⟩
                    have hP : va_P (dC, dI) vwCl (va_pl L f_58) H := by rw [ef_58]; exact hP
                    have hD : va_D A (va_pl L f_58) := by rw [ef_58]; exact hD
                    have F_m_ : f_58 (rt 51) = .inr (6, fs_2) := by rw [ef_58, va_up_ne _ _ (fun q => absurd (hC.1.2 51 (by decide) 19 (by decide) q) (by decide))]; exact F_m
                    have F_state_ : f_58 (rt 32) = .inl (K 0, 1000, .inl g_5) := by rw [ef_58, va_up_ne _ _ (fun q => absurd (hC.1.2 32 (by decide) 19 (by decide) q) (by decide))]; exact F_state
                    have F_saleTick_ : f_58 (rt 26) = .inl (K 0, 1000, .inl g_saleTick) := by rw [ef_58, va_up_ne _ _ (fun q => absurd (hC.1.2 26 (by decide) 19 (by decide) q) (by decide))]; exact F_saleTick
                    have F_saleWait_ : f_58 (rt 33) = .inl (K 0, 1000, .inl g_saleWait) := by rw [ef_58, va_up_ne _ _ (fun q => absurd (hC.1.2 33 (by decide) 19 (by decide) q) (by decide))]; exact F_saleWait
                    have F_sort_ : f_58 (rt 10) = .inl (K 0, 40, .inl g_sort) := by rw [ef_58, va_up_ne _ _ (fun q => absurd (hC.1.2 10 (by decide) 19 (by decide) q) (by decide))]; exact F_sort
                    have F_dayBudget_ : f_58 (rt 15) = .inl (K 0, 40, .inl g_dayBudget) := by rw [ef_58, va_up_ne _ _ (fun q => absurd (hC.1.2 15 (by decide) 19 (by decide) q) (by decide))]; exact F_dayBudget
                    have F_saleOf_ : f_58 (rt 30) = .inl (K 0, 1000, .inl g_saleOf) := by rw [ef_58, va_up_ne _ _ (fun q => absurd (hC.1.2 30 (by decide) 19 (by decide) q) (by decide))]; exact F_saleOf
                    have F_pays_ : f_58 (rt 11) = .inl (K 0, 40, .inl g_pays) := by rw [ef_58, va_up_ne _ _ (fun q => absurd (hC.1.2 11 (by decide) 19 (by decide) q) (by decide))]; exact F_pays
                    have F_price_ : f_58 (rt 31) = .inl (K 0, 1000, .inl g_price) := by rw [ef_58, va_up_ne _ _ (fun q => absurd (hC.1.2 31 (by decide) 19 (by decide) q) (by decide))]; exact F_price
                    have F_m := F_m_
                    have F_state := F_state_
                    have F_saleTick := F_saleTick_
                    have F_saleWait := F_saleWait_
                    have F_sort := F_sort_
                    have F_dayBudget := F_dayBudget_
                    have F_saleOf := F_saleOf_
                    have F_pays := F_pays_
                    have F_price := F_price_
                    have F_throttle : f_58 (rt 19) = .inl (K 0, 40, .inl g_57) := by rw [ef_58, va_up_self]
                    have hC : mC rt L f_58 fs_2 := ⟨hC.1, F_m, hC.2.2.1, hC.2.2.2⟩
                    refine lv_lload_n hx hb dX6_goesBy_198 rfl (lv_at hl 1 rfl) ?_
                    refine lv_lload hx hb dX6_goesBy_199 (lv_at hl 0 rfl) ?_
                    refine W.lcmp hx hb dX6_goesBy_201 ?_
                    refine lv_topi (fun x_59 ex_59 => ?_)
                    refine lv_if_ge (tgt := 251) hx hb dX6_goesBy_202 (by decide) (fun c_60 => ?_) (fun c_60 => ?_)
                    · skip
                      obtain ⟨x_61, ex_61⟩ : ∃ y : Int32, y = (nI j) + 1 := ⟨_, rfl⟩
                      refine lv_iinc (v := x_61) (lv' := [(1, .int x_61), (4, .long x_29), (2, .long x_24), (0, .ref (rt 51))]) hx hb dX6_goesBy_251 hl (k := 3) rfl (by rw [ex_61]; rfl) (by decide) rfl (fun ls hl => ?_)
                      refine lv_goto (tgt := 95) hx hb dX6_goesBy_254 (by decide) ?_
                      obtain rfl : x_61 = nI (j + 1) := ex_61.trans (nI_1 j)
                      exact ih (n - 1) (by omega) _ _ _ ⟨j + 1, f_58, _, by omega, by rw [ef_58, ef_17, bx_uu], hP, hD, hS, lv_sub hl [3, 0] rfl⟩
                    · skip
                      refine lv_aload_n hx hb dX6_goesBy_205 rfl (lv_at hl 2 rfl) ?_
                      refine g_get (ci := 6) (v := .ref (rt 19)) (C := RX6) (T := TX6) (N := 51) hx hb hts uB6 hown hK hP (hC.1.1 51 (by decide)) F_m rfl 19 (by decide) wm_38 (hC.2.2.2 19 (by decide)) dX6_goesBy_206 ?_
                      refine lv_iload_n hx hb dX6_goesBy_209 rfl (lv_at hl 3 rfl) ?_
                      refine lv_aload_n hx hb dX6_goesBy_210 rfl (lv_at hl 2 rfl) ?_
                      refine g_get (ci := 6) (v := .ref (rt 19)) (C := RX6) (T := TX6) (N := 51) hx hb hts uB6 hown hK hP (hC.1.1 51 (by decide)) F_m rfl 19 (by decide) wm_38 (hC.2.2.2 19 (by decide)) dX6_goesBy_211 ?_
                      refine lv_iload_n hx hb dX6_goesBy_214 rfl (lv_at hl 3 rfl) ?_
                      refine g_iald hx hb hK hP (hC.1.1 19 (by decide)) F_throttle (vp_in_nI (by omega) (by decide)) dX6_goesBy_215 ?_
                      refine lv_topi (fun x_62 ex_62 => ?_)
                      rw [nI_clamp (by omega)] at ex_62
                      refine lv_bipush (v := 11) hx hb dX6_goesBy_216 (by decide) ?_
                      refine lv_imul hx hb dX6_goesBy_218 ?_
                      refine lv_topi (fun x_63 ex_63 => ?_)
                      refine lv_bipush (v := 10) hx hb dX6_goesBy_219 (by decide) ?_
                      refine lv_idiv hx hb dX6_goesBy_221 (by decide) ?_
                      refine lv_topi (fun x_64 ex_64 => ?_)
                      refine lv_iconst (v := 1) hx hb dX6_goesBy_222 (by decide) ?_
                      refine lv_iadd hx hb dX6_goesBy_223 ?_
                      refine lv_topi (fun x_65 ex_65 => ?_)
                      refine lv_sipush (v := 1000) hx hb dX6_goesBy_224 (by decide) ?_
                      refine lv_icmp_le (tgt := 236) hx hb dX6_goesBy_227 (by decide) (fun c_66 => ?_) (fun c_66 => ?_)
                      · skip
                        refine lv_aload_n hx hb dX6_goesBy_236 rfl (lv_at hl 2 rfl) ?_
                        refine g_get (ci := 6) (v := .ref (rt 19)) (C := RX6) (T := TX6) (N := 51) hx hb hts uB6 hown hK hP (hC.1.1 51 (by decide)) F_m rfl 19 (by decide) wm_38 (hC.2.2.2 19 (by decide)) dX6_goesBy_237 ?_
                        refine lv_iload_n hx hb dX6_goesBy_240 rfl (lv_at hl 3 rfl) ?_
                        refine g_iald hx hb hK hP (hC.1.1 19 (by decide)) F_throttle (vp_in_nI (by omega) (by decide)) dX6_goesBy_241 ?_
                        refine lv_topi (fun x_67 ex_67 => ?_)
                        rw [nI_clamp (by omega)] at ex_67
                        refine lv_bipush (v := 11) hx hb dX6_goesBy_242 (by decide) ?_
                        refine lv_imul hx hb dX6_goesBy_244 ?_
                        refine lv_topi (fun x_68 ex_68 => ?_)
                        refine lv_bipush (v := 10) hx hb dX6_goesBy_245 (by decide) ?_
                        refine lv_idiv hx hb dX6_goesBy_247 (by decide) ?_
                        refine lv_topi (fun x_69 ex_69 => ?_)
                        refine lv_iconst (v := 1) hx hb dX6_goesBy_248 (by decide) ?_
                        refine lv_iadd hx hb dX6_goesBy_249 ?_
                        refine lv_topi (fun x_70 ex_70 => ?_)
                        refine g_iast hx hb hK hP hD hS (hC.1.1 19 (by decide)) F_throttle (vp_in_nI (by omega) (by decide)) dX6_goesBy_250 (fun H locs hP hD hS => ?_)
                        obtain ⟨g_71, eg_71⟩ : ∃ z9, z9 = upd g_57 (Int32.toNatClampNeg (nI j)) x_70 := ⟨_, rfl⟩
                        rw [← eg_71] at hP hD
                        obtain ⟨f_72, ef_72⟩ : ∃ z9, z9 = va_up f_58 (rt 19) (.inl (K 0, 40, .inl g_71)) := ⟨_, rfl⟩
                        have hP : va_P (dC, dI) vwCl (va_pl L f_72) H := by rw [ef_72]; exact hP
                        have hD : va_D A (va_pl L f_72) := by rw [ef_72]; exact hD
                        have F_m_ : f_72 (rt 51) = .inr (6, fs_2) := by rw [ef_72, va_up_ne _ _ (fun q => absurd (hC.1.2 51 (by decide) 19 (by decide) q) (by decide))]; exact F_m
                        have F_state_ : f_72 (rt 32) = .inl (K 0, 1000, .inl g_5) := by rw [ef_72, va_up_ne _ _ (fun q => absurd (hC.1.2 32 (by decide) 19 (by decide) q) (by decide))]; exact F_state
                        have F_saleTick_ : f_72 (rt 26) = .inl (K 0, 1000, .inl g_saleTick) := by rw [ef_72, va_up_ne _ _ (fun q => absurd (hC.1.2 26 (by decide) 19 (by decide) q) (by decide))]; exact F_saleTick
                        have F_saleWait_ : f_72 (rt 33) = .inl (K 0, 1000, .inl g_saleWait) := by rw [ef_72, va_up_ne _ _ (fun q => absurd (hC.1.2 33 (by decide) 19 (by decide) q) (by decide))]; exact F_saleWait
                        have F_sort_ : f_72 (rt 10) = .inl (K 0, 40, .inl g_sort) := by rw [ef_72, va_up_ne _ _ (fun q => absurd (hC.1.2 10 (by decide) 19 (by decide) q) (by decide))]; exact F_sort
                        have F_dayBudget_ : f_72 (rt 15) = .inl (K 0, 40, .inl g_dayBudget) := by rw [ef_72, va_up_ne _ _ (fun q => absurd (hC.1.2 15 (by decide) 19 (by decide) q) (by decide))]; exact F_dayBudget
                        have F_saleOf_ : f_72 (rt 30) = .inl (K 0, 1000, .inl g_saleOf) := by rw [ef_72, va_up_ne _ _ (fun q => absurd (hC.1.2 30 (by decide) 19 (by decide) q) (by decide))]; exact F_saleOf
                        have F_pays_ : f_72 (rt 11) = .inl (K 0, 40, .inl g_pays) := by rw [ef_72, va_up_ne _ _ (fun q => absurd (hC.1.2 11 (by decide) 19 (by decide) q) (by decide))]; exact F_pays
                        have F_price_ : f_72 (rt 31) = .inl (K 0, 1000, .inl g_price) := by rw [ef_72, va_up_ne _ _ (fun q => absurd (hC.1.2 31 (by decide) 19 (by decide) q) (by decide))]; exact F_price
                        have F_m := F_m_
                        have F_state := F_state_
                        have F_saleTick := F_saleTick_
                        have F_saleWait := F_saleWait_
                        have F_sort := F_sort_
                        have F_dayBudget := F_dayBudget_
                        have F_saleOf := F_saleOf_
                        have F_pays := F_pays_
                        have F_price := F_price_
                        have F_throttle : f_72 (rt 19) = .inl (K 0, 40, .inl g_71) := by rw [ef_72, va_up_self]
                        have hC : mC rt L f_72 fs_2 := ⟨hC.1, F_m, hC.2.2.1, hC.2.2.2⟩
                        obtain ⟨x_73, ex_73⟩ : ∃ y : Int32, y = (nI j) + 1 := ⟨_, rfl⟩
                        refine lv_iinc (v := x_73) (lv' := [(1, .int x_73), (4, .long x_29), (2, .long x_24), (0, .ref (rt 51))]) hx hb dX6_goesBy_251 hl (k := 3) rfl (by rw [ex_73]; rfl) (by decide) rfl (fun ls hl => ?_)
                        refine lv_goto (tgt := 95) hx hb dX6_goesBy_254 (by decide) ?_
                        obtain rfl : x_73 = nI (j + 1) := ex_73.trans (nI_1 j)
                        exact ih (n - 1) (by omega) _ _ _ ⟨j + 1, f_72, _, by omega, by rw [ef_72, ef_58, ef_17, bx_uu, bx_uu], hP, hD, hS, lv_sub hl [3, 0] rfl⟩
                      · skip
                        refine lv_sipush (v := 1000) hx hb dX6_goesBy_230 (by decide) ?_
                        refine lv_goto (tgt := 250) hx hb dX6_goesBy_233 (by decide) ?_
                        refine g_iast hx hb hK hP hD hS (hC.1.1 19 (by decide)) F_throttle (vp_in_nI (by omega) (by decide)) dX6_goesBy_250 (fun H locs hP hD hS => ?_)
                        obtain ⟨g_74, eg_74⟩ : ∃ z9, z9 = upd g_57 (Int32.toNatClampNeg (nI j)) 1000 := ⟨_, rfl⟩
                        rw [← eg_74] at hP hD
                        obtain ⟨f_75, ef_75⟩ : ∃ z9, z9 = va_up f_58 (rt 19) (.inl (K 0, 40, .inl g_74)) := ⟨_, rfl⟩
                        have hP : va_P (dC, dI) vwCl (va_pl L f_75) H := by rw [ef_75]; exact hP
                        have hD : va_D A (va_pl L f_75) := by rw [ef_75]; exact hD
                        have F_m_ : f_75 (rt 51) = .inr (6, fs_2) := by rw [ef_75, va_up_ne _ _ (fun q => absurd (hC.1.2 51 (by decide) 19 (by decide) q) (by decide))]; exact F_m
                        have F_state_ : f_75 (rt 32) = .inl (K 0, 1000, .inl g_5) := by rw [ef_75, va_up_ne _ _ (fun q => absurd (hC.1.2 32 (by decide) 19 (by decide) q) (by decide))]; exact F_state
                        have F_saleTick_ : f_75 (rt 26) = .inl (K 0, 1000, .inl g_saleTick) := by rw [ef_75, va_up_ne _ _ (fun q => absurd (hC.1.2 26 (by decide) 19 (by decide) q) (by decide))]; exact F_saleTick
                        have F_saleWait_ : f_75 (rt 33) = .inl (K 0, 1000, .inl g_saleWait) := by rw [ef_75, va_up_ne _ _ (fun q => absurd (hC.1.2 33 (by decide) 19 (by decide) q) (by decide))]; exact F_saleWait
                        have F_sort_ : f_75 (rt 10) = .inl (K 0, 40, .inl g_sort) := by rw [ef_75, va_up_ne _ _ (fun q => absurd (hC.1.2 10 (by decide) 19 (by decide) q) (by decide))]; exact F_sort
                        have F_dayBudget_ : f_75 (rt 15) = .inl (K 0, 40, .inl g_dayBudget) := by rw [ef_75, va_up_ne _ _ (fun q => absurd (hC.1.2 15 (by decide) 19 (by decide) q) (by decide))]; exact F_dayBudget
                        have F_saleOf_ : f_75 (rt 30) = .inl (K 0, 1000, .inl g_saleOf) := by rw [ef_75, va_up_ne _ _ (fun q => absurd (hC.1.2 30 (by decide) 19 (by decide) q) (by decide))]; exact F_saleOf
                        have F_pays_ : f_75 (rt 11) = .inl (K 0, 40, .inl g_pays) := by rw [ef_75, va_up_ne _ _ (fun q => absurd (hC.1.2 11 (by decide) 19 (by decide) q) (by decide))]; exact F_pays
                        have F_price_ : f_75 (rt 31) = .inl (K 0, 1000, .inl g_price) := by rw [ef_75, va_up_ne _ _ (fun q => absurd (hC.1.2 31 (by decide) 19 (by decide) q) (by decide))]; exact F_price
                        have F_m := F_m_
                        have F_state := F_state_
                        have F_saleTick := F_saleTick_
                        have F_saleWait := F_saleWait_
                        have F_sort := F_sort_
                        have F_dayBudget := F_dayBudget_
                        have F_saleOf := F_saleOf_
                        have F_pays := F_pays_
                        have F_price := F_price_
                        have F_throttle : f_75 (rt 19) = .inl (K 0, 40, .inl g_74) := by rw [ef_75, va_up_self]
                        have hC : mC rt L f_75 fs_2 := ⟨hC.1, F_m, hC.2.2.1, hC.2.2.2⟩
                        obtain ⟨x_76, ex_76⟩ : ∃ y : Int32, y = (nI j) + 1 := ⟨_, rfl⟩
                        refine lv_iinc (v := x_76) (lv' := [(1, .int x_76), (4, .long x_29), (2, .long x_24), (0, .ref (rt 51))]) hx hb dX6_goesBy_251 hl (k := 3) rfl (by rw [ex_76]; rfl) (by decide) rfl (fun ls hl => ?_)
                        refine lv_goto (tgt := 95) hx hb dX6_goesBy_254 (by decide) ?_
                        obtain rfl : x_76 = nI (j + 1) := ex_76.trans (nI_1 j)
                        exact ih (n - 1) (by omega) _ _ _ ⟨j + 1, f_75, _, by omega, by rw [ef_75, ef_58, ef_17, bx_uu, bx_uu], hP, hD, hS, lv_sub hl [3, 0] rfl⟩
                  · skip
                    refine lv_iconst (v := 1) hx hb dX6_goesBy_181 (by decide) ?_
                    refine lv_goto (tgt := 197) hx hb dX6_goesBy_182 (by decide) ?_
                    refine g_iast hx hb hK hP hD hS (hC.1.1 19 (by decide)) F_throttle (vp_in_nI (by omega) (by decide)) dX6_goesBy_197 (fun H locs hP hD hS => ?_)
                    obtain ⟨g_77, eg_77⟩ : ∃ z9, z9 = upd g_16 (Int32.toNatClampNeg (nI j)) 1 := ⟨_, rfl⟩
                    rw [← eg_77] at hP hD
                    obtain ⟨f_78, ef_78⟩ : ∃ z9, z9 = va_up f_15 (rt 19) (.inl (K 0, 40, .inl g_77)) := ⟨_, rfl⟩
                    have hP : va_P (dC, dI) vwCl (va_pl L f_78) H := by rw [ef_78]; exact hP
                    have hD : va_D A (va_pl L f_78) := by rw [ef_78]; exact hD
                    have F_m_ : f_78 (rt 51) = .inr (6, fs_2) := by rw [ef_78, va_up_ne _ _ (fun q => absurd (hC.1.2 51 (by decide) 19 (by decide) q) (by decide))]; exact F_m
                    have F_state_ : f_78 (rt 32) = .inl (K 0, 1000, .inl g_5) := by rw [ef_78, va_up_ne _ _ (fun q => absurd (hC.1.2 32 (by decide) 19 (by decide) q) (by decide))]; exact F_state
                    have F_saleTick_ : f_78 (rt 26) = .inl (K 0, 1000, .inl g_saleTick) := by rw [ef_78, va_up_ne _ _ (fun q => absurd (hC.1.2 26 (by decide) 19 (by decide) q) (by decide))]; exact F_saleTick
                    have F_saleWait_ : f_78 (rt 33) = .inl (K 0, 1000, .inl g_saleWait) := by rw [ef_78, va_up_ne _ _ (fun q => absurd (hC.1.2 33 (by decide) 19 (by decide) q) (by decide))]; exact F_saleWait
                    have F_sort_ : f_78 (rt 10) = .inl (K 0, 40, .inl g_sort) := by rw [ef_78, va_up_ne _ _ (fun q => absurd (hC.1.2 10 (by decide) 19 (by decide) q) (by decide))]; exact F_sort
                    have F_dayBudget_ : f_78 (rt 15) = .inl (K 0, 40, .inl g_dayBudget) := by rw [ef_78, va_up_ne _ _ (fun q => absurd (hC.1.2 15 (by decide) 19 (by decide) q) (by decide))]; exact F_dayBudget
                    have F_saleOf_ : f_78 (rt 30) = .inl (K 0, 1000, .inl g_saleOf) := by rw [ef_78, va_up_ne _ _ (fun q => absurd (hC.1.2 30 (by decide) 19 (by decide) q) (by decide))]; exact F_saleOf
                    have F_pays_ : f_78 (rt 11) = .inl (K 0, 40, .inl g_pays) := by rw [ef_78, va_up_ne _ _ (fun q => absurd (hC.1.2 11 (by decide) 19 (by decide) q) (by decide))]; exact F_pays
                    have F_price_ : f_78 (rt 31) = .inl (K 0, 1000, .inl g_price) := by rw [ef_78, va_up_ne _ _ (fun q => absurd (hC.1.2 31 (by decide) 19 (by decide) q) (by decide))]; exact F_price
                    have F_m := F_m_
                    have F_state := F_state_
                    have F_saleTick := F_saleTick_
                    have F_saleWait := F_saleWait_
                    have F_sort := F_sort_
                    have F_dayBudget := F_dayBudget_
                    have F_saleOf := F_saleOf_
                    have F_pays := F_pays_
                    have F_price := F_price_
                    have F_throttle : f_78 (rt 19) = .inl (K 0, 40, .inl g_77) := by rw [ef_78, va_up_self]
                    have hC : mC rt L f_78 fs_2 := ⟨hC.1, F_m, hC.2.2.1, hC.2.2.2⟩
                    refine lv_lload_n hx hb dX6_goesBy_198 rfl (lv_at hl 1 rfl) ?_
                    refine lv_lload hx hb dX6_goesBy_199 (lv_at hl 0 rfl) ?_
                    refine W.lcmp hx hb dX6_goesBy_201 ?_
                    refine lv_topi (fun x_79 ex_79 => ?_)
                    refine lv_if_ge (tgt := 251) hx hb dX6_goesBy_202 (by decide) (fun c_80 => ?_) (fun c_80 => ?_)
                    · skip
                      obtain ⟨x_81, ex_81⟩ : ∃ y : Int32, y = (nI j) + 1 := ⟨_, rfl⟩
                      refine lv_iinc (v := x_81) (lv' := [(1, .int x_81), (4, .long x_29), (2, .long x_24), (0, .ref (rt 51))]) hx hb dX6_goesBy_251 hl (k := 3) rfl (by rw [ex_81]; rfl) (by decide) rfl (fun ls hl => ?_)
                      refine lv_goto (tgt := 95) hx hb dX6_goesBy_254 (by decide) ?_
                      obtain rfl : x_81 = nI (j + 1) := ex_81.trans (nI_1 j)
                      exact ih (n - 1) (by omega) _ _ _ ⟨j + 1, f_78, _, by omega, by rw [ef_78, ef_17, bx_uu], hP, hD, hS, lv_sub hl [3, 0] rfl⟩
                    · skip
                      refine lv_aload_n hx hb dX6_goesBy_205 rfl (lv_at hl 2 rfl) ?_
                      refine g_get (ci := 6) (v := .ref (rt 19)) (C := RX6) (T := TX6) (N := 51) hx hb hts uB6 hown hK hP (hC.1.1 51 (by decide)) F_m rfl 19 (by decide) wm_38 (hC.2.2.2 19 (by decide)) dX6_goesBy_206 ?_
                      refine lv_iload_n hx hb dX6_goesBy_209 rfl (lv_at hl 3 rfl) ?_
                      refine lv_aload_n hx hb dX6_goesBy_210 rfl (lv_at hl 2 rfl) ?_
                      refine g_get (ci := 6) (v := .ref (rt 19)) (C := RX6) (T := TX6) (N := 51) hx hb hts uB6 hown hK hP (hC.1.1 51 (by decide)) F_m rfl 19 (by decide) wm_38 (hC.2.2.2 19 (by decide)) dX6_goesBy_211 ?_
                      refine lv_iload_n hx hb dX6_goesBy_214 rfl (lv_at hl 3 rfl) ?_
                      refine g_iald hx hb hK hP (hC.1.1 19 (by decide)) F_throttle (vp_in_nI (by omega) (by decide)) dX6_goesBy_215 ?_
                      refine lv_topi (fun x_82 ex_82 => ?_)
                      rw [nI_clamp (by omega)] at ex_82
                      refine lv_bipush (v := 11) hx hb dX6_goesBy_216 (by decide) ?_
                      refine lv_imul hx hb dX6_goesBy_218 ?_
                      refine lv_topi (fun x_83 ex_83 => ?_)
                      refine lv_bipush (v := 10) hx hb dX6_goesBy_219 (by decide) ?_
                      refine lv_idiv hx hb dX6_goesBy_221 (by decide) ?_
                      refine lv_topi (fun x_84 ex_84 => ?_)
                      refine lv_iconst (v := 1) hx hb dX6_goesBy_222 (by decide) ?_
                      refine lv_iadd hx hb dX6_goesBy_223 ?_
                      refine lv_topi (fun x_85 ex_85 => ?_)
                      refine lv_sipush (v := 1000) hx hb dX6_goesBy_224 (by decide) ?_
                      refine lv_icmp_le (tgt := 236) hx hb dX6_goesBy_227 (by decide) (fun c_86 => ?_) (fun c_86 => ?_)
                      · skip
                        refine lv_aload_n hx hb dX6_goesBy_236 rfl (lv_at hl 2 rfl) ?_
                        refine g_get (ci := 6) (v := .ref (rt 19)) (C := RX6) (T := TX6) (N := 51) hx hb hts uB6 hown hK hP (hC.1.1 51 (by decide)) F_m rfl 19 (by decide) wm_38 (hC.2.2.2 19 (by decide)) dX6_goesBy_237 ?_
                        refine lv_iload_n hx hb dX6_goesBy_240 rfl (lv_at hl 3 rfl) ?_
                        refine g_iald hx hb hK hP (hC.1.1 19 (by decide)) F_throttle (vp_in_nI (by omega) (by decide)) dX6_goesBy_241 ?_
                        refine lv_topi (fun x_87 ex_87 => ?_)
                        rw [nI_clamp (by omega)] at ex_87
                        refine lv_bipush (v := 11) hx hb dX6_goesBy_242 (by decide) ?_
                        refine lv_imul hx hb dX6_goesBy_244 ?_
                        refine lv_topi (fun x_88 ex_88 => ?_)
                        refine lv_bipush (v := 10) hx hb dX6_goesBy_245 (by decide) ?_
                        refine lv_idiv hx hb dX6_goesBy_247 (by decide) ?_
                        refine lv_topi (fun x_89 ex_89 => ?_)
                        refine lv_iconst (v := 1) hx hb dX6_goesBy_248 (by decide) ?_
                        refine lv_iadd hx hb dX6_goesBy_249 ?_
                        refine lv_topi (fun x_90 ex_90 => ?_)
                        refine g_iast hx hb hK hP hD hS (hC.1.1 19 (by decide)) F_throttle (vp_in_nI (by omega) (by decide)) dX6_goesBy_250 (fun H locs hP hD hS => ?_)
                        obtain ⟨g_91, eg_91⟩ : ∃ z9, z9 = upd g_77 (Int32.toNatClampNeg (nI j)) x_90 := ⟨_, rfl⟩
                        rw [← eg_91] at hP hD
                        obtain ⟨f_92, ef_92⟩ : ∃ z9, z9 = va_up f_78 (rt 19) (.inl (K 0, 40, .inl g_91)) := ⟨_, rfl⟩
                        have hP : va_P (dC, dI) vwCl (va_pl L f_92) H := by rw [ef_92]; exact hP
                        have hD : va_D A (va_pl L f_92) := by rw [ef_92]; exact hD
                        have F_m_ : f_92 (rt 51) = .inr (6, fs_2) := by rw [ef_92, va_up_ne _ _ (fun q => absurd (hC.1.2 51 (by decide) 19 (by decide) q) (by decide))]; exact F_m
                        have F_state_ : f_92 (rt 32) = .inl (K 0, 1000, .inl g_5) := by rw [ef_92, va_up_ne _ _ (fun q => absurd (hC.1.2 32 (by decide) 19 (by decide) q) (by decide))]; exact F_state
                        have F_saleTick_ : f_92 (rt 26) = .inl (K 0, 1000, .inl g_saleTick) := by rw [ef_92, va_up_ne _ _ (fun q => absurd (hC.1.2 26 (by decide) 19 (by decide) q) (by decide))]; exact F_saleTick
                        have F_saleWait_ : f_92 (rt 33) = .inl (K 0, 1000, .inl g_saleWait) := by rw [ef_92, va_up_ne _ _ (fun q => absurd (hC.1.2 33 (by decide) 19 (by decide) q) (by decide))]; exact F_saleWait
                        have F_sort_ : f_92 (rt 10) = .inl (K 0, 40, .inl g_sort) := by rw [ef_92, va_up_ne _ _ (fun q => absurd (hC.1.2 10 (by decide) 19 (by decide) q) (by decide))]; exact F_sort
                        have F_dayBudget_ : f_92 (rt 15) = .inl (K 0, 40, .inl g_dayBudget) := by rw [ef_92, va_up_ne _ _ (fun q => absurd (hC.1.2 15 (by decide) 19 (by decide) q) (by decide))]; exact F_dayBudget
                        have F_saleOf_ : f_92 (rt 30) = .inl (K 0, 1000, .inl g_saleOf) := by rw [ef_92, va_up_ne _ _ (fun q => absurd (hC.1.2 30 (by decide) 19 (by decide) q) (by decide))]; exact F_saleOf
                        have F_pays_ : f_92 (rt 11) = .inl (K 0, 40, .inl g_pays) := by rw [ef_92, va_up_ne _ _ (fun q => absurd (hC.1.2 11 (by decide) 19 (by decide) q) (by decide))]; exact F_pays
                        have F_price_ : f_92 (rt 31) = .inl (K 0, 1000, .inl g_price) := by rw [ef_92, va_up_ne _ _ (fun q => absurd (hC.1.2 31 (by decide) 19 (by decide) q) (by decide))]; exact F_price
                        have F_m := F_m_
                        have F_state := F_state_
                        have F_saleTick := F_saleTick_
                        have F_saleWait := F_saleWait_
                        have F_sort := F_sort_
                        have F_dayBudget := F_dayBudget_
                        have F_saleOf := F_saleOf_
                        have F_pays := F_pays_
                        have F_price := F_price_
                        have F_throttle : f_92 (rt 19) = .inl (K 0, 40, .inl g_91) := by rw [ef_92, va_up_self]
                        have hC : mC rt L f_92 fs_2 := ⟨hC.1, F_m, hC.2.2.1, hC.2.2.2⟩
                        obtain ⟨x_93, ex_93⟩ : ∃ y : Int32, y = (nI j) + 1 := ⟨_, rfl⟩
                        refine lv_iinc (v := x_93) (lv' := [(1, .int x_93), (4, .long x_29), (2, .long x_24), (0, .ref (rt 51))]) hx hb dX6_goesBy_251 hl (k := 3) rfl (by rw [ex_93]; rfl) (by decide) rfl (fun ls hl => ?_)
                        refine lv_goto (tgt := 95) hx hb dX6_goesBy_254 (by decide) ?_
                        obtain rfl : x_93 = nI (j + 1) := ex_93.trans (nI_1 j)
                        exact ih (n - 1) (by omega) _ _ _ ⟨j + 1, f_92, _, by omega, by rw [ef_92, ef_78, ef_17, bx_uu, bx_uu], hP, hD, hS, lv_sub hl [3, 0] rfl⟩
                      · skip
                        refine lv_sipush (v := 1000) hx hb dX6_goesBy_230 (by decide) ?_
                        refine lv_goto (tgt := 250) hx hb dX6_goesBy_233 (by decide) ?_
                        refine g_iast hx hb hK hP hD hS (hC.1.1 19 (by decide)) F_throttle (vp_in_nI (by omega) (by decide)) dX6_goesBy_250 (fun H locs hP hD hS => ?_)
                        obtain ⟨g_94, eg_94⟩ : ∃ z9, z9 = upd g_77 (Int32.toNatClampNeg (nI j)) 1000 := ⟨_, rfl⟩
                        rw [← eg_94] at hP hD
                        obtain ⟨f_95, ef_95⟩ : ∃ z9, z9 = va_up f_78 (rt 19) (.inl (K 0, 40, .inl g_94)) := ⟨_, rfl⟩
                        have hP : va_P (dC, dI) vwCl (va_pl L f_95) H := by rw [ef_95]; exact hP
                        have hD : va_D A (va_pl L f_95) := by rw [ef_95]; exact hD
                        have F_m_ : f_95 (rt 51) = .inr (6, fs_2) := by rw [ef_95, va_up_ne _ _ (fun q => absurd (hC.1.2 51 (by decide) 19 (by decide) q) (by decide))]; exact F_m
                        have F_state_ : f_95 (rt 32) = .inl (K 0, 1000, .inl g_5) := by rw [ef_95, va_up_ne _ _ (fun q => absurd (hC.1.2 32 (by decide) 19 (by decide) q) (by decide))]; exact F_state
                        have F_saleTick_ : f_95 (rt 26) = .inl (K 0, 1000, .inl g_saleTick) := by rw [ef_95, va_up_ne _ _ (fun q => absurd (hC.1.2 26 (by decide) 19 (by decide) q) (by decide))]; exact F_saleTick
                        have F_saleWait_ : f_95 (rt 33) = .inl (K 0, 1000, .inl g_saleWait) := by rw [ef_95, va_up_ne _ _ (fun q => absurd (hC.1.2 33 (by decide) 19 (by decide) q) (by decide))]; exact F_saleWait
                        have F_sort_ : f_95 (rt 10) = .inl (K 0, 40, .inl g_sort) := by rw [ef_95, va_up_ne _ _ (fun q => absurd (hC.1.2 10 (by decide) 19 (by decide) q) (by decide))]; exact F_sort
                        have F_dayBudget_ : f_95 (rt 15) = .inl (K 0, 40, .inl g_dayBudget) := by rw [ef_95, va_up_ne _ _ (fun q => absurd (hC.1.2 15 (by decide) 19 (by decide) q) (by decide))]; exact F_dayBudget
                        have F_saleOf_ : f_95 (rt 30) = .inl (K 0, 1000, .inl g_saleOf) := by rw [ef_95, va_up_ne _ _ (fun q => absurd (hC.1.2 30 (by decide) 19 (by decide) q) (by decide))]; exact F_saleOf
                        have F_pays_ : f_95 (rt 11) = .inl (K 0, 40, .inl g_pays) := by rw [ef_95, va_up_ne _ _ (fun q => absurd (hC.1.2 11 (by decide) 19 (by decide) q) (by decide))]; exact F_pays
                        have F_price_ : f_95 (rt 31) = .inl (K 0, 1000, .inl g_price) := by rw [ef_95, va_up_ne _ _ (fun q => absurd (hC.1.2 31 (by decide) 19 (by decide) q) (by decide))]; exact F_price
                        have F_m := F_m_
                        have F_state := F_state_
                        have F_saleTick := F_saleTick_
                        have F_saleWait := F_saleWait_
                        have F_sort := F_sort_
                        have F_dayBudget := F_dayBudget_
                        have F_saleOf := F_saleOf_
                        have F_pays := F_pays_
                        have F_price := F_price_
                        have F_throttle : f_95 (rt 19) = .inl (K 0, 40, .inl g_94) := by rw [ef_95, va_up_self]
                        have hC : mC rt L f_95 fs_2 := ⟨hC.1, F_m, hC.2.2.1, hC.2.2.2⟩
                        obtain ⟨x_96, ex_96⟩ : ∃ y : Int32, y = (nI j) + 1 := ⟨_, rfl⟩
                        refine lv_iinc (v := x_96) (lv' := [(1, .int x_96), (4, .long x_29), (2, .long x_24), (0, .ref (rt 51))]) hx hb dX6_goesBy_251 hl (k := 3) rfl (by rw [ex_96]; rfl) (by decide) rfl (fun ls hl => ?_)
                        refine lv_goto (tgt := 95) hx hb dX6_goesBy_254 (by decide) ?_
                        obtain rfl : x_96 = nI (j + 1) := ex_96.trans (nI_1 j)
                        exact ih (n - 1) (by omega) _ _ _ ⟨j + 1, f_95, _, by omega, by rw [ef_95, ef_78, ef_17, bx_uu, bx_uu], hP, hD, hS, lv_sub hl [3, 0] rfl⟩
              · skip
                refine lv_goto (tgt := 251) hx hb dX6_goesBy_112 (by decide) ?_
                obtain ⟨x_97, ex_97⟩ : ∃ y : Int32, y = (nI j) + 1 := ⟨_, rfl⟩
                refine lv_iinc (v := x_97) (lv' := [(1, .int x_97), (0, .ref (rt 51))]) hx hb dX6_goesBy_251 hl (k := 1) rfl (by rw [ex_97]; rfl) (by decide) rfl (fun ls hl => ?_)
                refine lv_goto (tgt := 95) hx hb dX6_goesBy_254 (by decide) ?_
                obtain rfl : x_97 = nI (j + 1) := ex_97.trans (nI_1 j)
                exact ih (n - 1) (by omega) _ _ _ ⟨j + 1, f_15, _, by omega, ef_17, hP, hD, hS, lv_sub hl [1, 0] rfl⟩
        · skip
          exact W.vret hx hb hr (fun t ht hW => ⟨⟨f_4, rfl, (Or.inl ⟨_, by rw [ef_6, ef_3, efs_2]⟩), by show va_P (dC, dI) vwCl (va_pl L f_4) t.heap; rw [ht]; exact hP⟩, hS.F ht⟩) hS.2.2 dX6_goesBy_92
  · skip
    obtain ⟨j, f_98, g_99, hj, ef_100, hP, hD, hS, hl⟩ := hI
    have F_m_ : f_98 (rt 51) = .inr (6, fs_2) := by rw [ef_100, va_up_ne _ _ (fun q => absurd (hC.1.2 51 (by decide) 32 (by decide) q) (by decide))]; exact F_m
    have F_saleTick_ : f_98 (rt 26) = .inl (K 0, 1000, .inl g_saleTick) := by rw [ef_100, va_up_ne _ _ (fun q => absurd (hC.1.2 26 (by decide) 32 (by decide) q) (by decide))]; exact F_saleTick
    have F_saleWait_ : f_98 (rt 33) = .inl (K 0, 1000, .inl g_saleWait) := by rw [ef_100, va_up_ne _ _ (fun q => absurd (hC.1.2 33 (by decide) 32 (by decide) q) (by decide))]; exact F_saleWait
    have F_sort_ : f_98 (rt 10) = .inl (K 0, 40, .inl g_sort) := by rw [ef_100, va_up_ne _ _ (fun q => absurd (hC.1.2 10 (by decide) 32 (by decide) q) (by decide))]; exact F_sort
    have F_dayBudget_ : f_98 (rt 15) = .inl (K 0, 40, .inl g_dayBudget) := by rw [ef_100, va_up_ne _ _ (fun q => absurd (hC.1.2 15 (by decide) 32 (by decide) q) (by decide))]; exact F_dayBudget
    have F_throttle_ : f_98 (rt 19) = .inl (K 0, 40, .inl g_throttle) := by rw [ef_100, va_up_ne _ _ (fun q => absurd (hC.1.2 19 (by decide) 32 (by decide) q) (by decide))]; exact F_throttle
    have F_saleOf_ : f_98 (rt 30) = .inl (K 0, 1000, .inl g_saleOf) := by rw [ef_100, va_up_ne _ _ (fun q => absurd (hC.1.2 30 (by decide) 32 (by decide) q) (by decide))]; exact F_saleOf
    have F_pays_ : f_98 (rt 11) = .inl (K 0, 40, .inl g_pays) := by rw [ef_100, va_up_ne _ _ (fun q => absurd (hC.1.2 11 (by decide) 32 (by decide) q) (by decide))]; exact F_pays
    have F_price_ : f_98 (rt 31) = .inl (K 0, 1000, .inl g_price) := by rw [ef_100, va_up_ne _ _ (fun q => absurd (hC.1.2 31 (by decide) 32 (by decide) q) (by decide))]; exact F_price
    have F_m := F_m_
    have F_saleTick := F_saleTick_
    have F_saleWait := F_saleWait_
    have F_sort := F_sort_
    have F_dayBudget := F_dayBudget_
    have F_throttle := F_throttle_
    have F_saleOf := F_saleOf_
    have F_pays := F_pays_
    have F_price := F_price_
    have F_state : f_98 (rt 32) = .inl (K 0, 1000, .inl g_99) := by rw [ef_100, va_up_self]
    have hC : mC rt L f_98 fs_2 := ⟨hC.1, F_m, hC.2.2.1, hC.2.2.2⟩
    refine lv_iload_n hx hb dX6_goesBy_12 rfl (lv_at hl 1 rfl) ?_
    refine lv_aload_n hx hb dX6_goesBy_13 rfl (lv_at hl 0 rfl) ?_
    refine g_get (ci := 6) (v := .int (nI ns)) (C := RX6) (T := TX6) (N := 51) hx hb hts uB6 hown hK hP (hC.1.1 51 (by decide)) F_m rfl 25 (by decide) wm_4 I_sales dX6_goesBy_14 ?_
    refine lv_icmp_ge (tgt := 63) hx hb dX6_goesBy_17 (by decide) (fun c_101 => ?_) (fun c_101 => ?_)
    · skip
      have hjn : j = ns := by have := (nI_leI (a := ns) (b := j) (by omega) (by omega)).mp c_101; omega
      exact hE _ _ _ ⟨j, f_98, _, by omega, ef_100, hP, hD, hS, lv_sub hl [0, 1] rfl⟩
    · skip
      have hjn : j < ns := by rcases Nat.lt_or_ge j ns with q | q; exact q; exact absurd (nI_le q (by omega)) c_101
      refine lv_aload_n hx hb dX6_goesBy_20 rfl (lv_at hl 0 rfl) ?_
      refine g_get (ci := 6) (v := .ref (rt 32)) (C := RX6) (T := TX6) (N := 51) hx hb hts uB6 hown hK hP (hC.1.1 51 (by decide)) F_m rfl 32 (by decide) wm_0 (hC.2.2.2 32 (by decide)) dX6_goesBy_21 ?_
      refine lv_iload_n hx hb dX6_goesBy_24 rfl (lv_at hl 1 rfl) ?_
      refine g_iald hx hb hK hP (hC.1.1 32 (by decide)) F_state (vp_in_nI (by omega) (by decide)) dX6_goesBy_25 ?_
      refine lv_topi (fun x_102 ex_102 => ?_)
      rw [nI_clamp (by omega)] at ex_102
      refine lv_iconst (v := 1) hx hb dX6_goesBy_26 (by decide) ?_
      refine lv_icmp_ne (tgt := 57) hx hb dX6_goesBy_27 (by decide) (fun c_103 => ?_) (fun c_103 => ?_)
      · skip
        obtain ⟨x_104, ex_104⟩ : ∃ y : Int32, y = (nI j) + 1 := ⟨_, rfl⟩
        refine lv_iinc (v := x_104) (lv' := [(1, .int x_104), (0, .ref (rt 51))]) hx hb dX6_goesBy_57 hl (k := 1) rfl (by rw [ex_104]; rfl) (by decide) rfl (fun ls hl => ?_)
        refine lv_goto (tgt := 12) hx hb dX6_goesBy_60 (by decide) ?_
        obtain rfl : x_104 = nI (j + 1) := ex_104.trans (nI_1 j)
        exact ih (n - 1) (by omega) _ _ _ ⟨j + 1, f_98, _, by omega, ef_100, hP, hD, hS, lv_sub hl [1, 0] rfl⟩
      · skip
        refine lv_aload_n hx hb dX6_goesBy_30 rfl (lv_at hl 0 rfl) ?_
        refine g_get (ci := 6) (v := .int (nI (tk + 1))) (C := RX6) (T := TX6) (N := 51) hx hb hts uB6 hown hK hP (hC.1.1 51 (by decide)) F_m rfl 1 (by decide) wm_13 I_tick dX6_goesBy_31 ?_
        refine lv_aload_n hx hb dX6_goesBy_34 rfl (lv_at hl 0 rfl) ?_
        refine g_get (ci := 6) (v := .ref (rt 26)) (C := RX6) (T := TX6) (N := 51) hx hb hts uB6 hown hK hP (hC.1.1 51 (by decide)) F_m rfl 26 (by decide) wm_10 (hC.2.2.2 26 (by decide)) dX6_goesBy_35 ?_
        refine lv_iload_n hx hb dX6_goesBy_38 rfl (lv_at hl 1 rfl) ?_
        refine g_iald hx hb hK hP (hC.1.1 26 (by decide)) F_saleTick (vp_in_nI (by omega) (by decide)) dX6_goesBy_39 ?_
        refine lv_topi (fun x_105 ex_105 => ?_)
        rw [nI_clamp (by omega)] at ex_105
        refine lv_aload_n hx hb dX6_goesBy_40 rfl (lv_at hl 0 rfl) ?_
        refine g_get (ci := 6) (v := .ref (rt 33)) (C := RX6) (T := TX6) (N := 51) hx hb hts uB6 hown hK hP (hC.1.1 51 (by decide)) F_m rfl 33 (by decide) wm_122 (hC.2.2.2 33 (by decide)) dX6_goesBy_41 ?_
        refine lv_iload_n hx hb dX6_goesBy_44 rfl (lv_at hl 1 rfl) ?_
        refine g_iald hx hb hK hP (hC.1.1 33 (by decide)) F_saleWait (vp_in_nI (by omega) (by decide)) dX6_goesBy_45 ?_
        refine lv_topi (fun x_106 ex_106 => ?_)
        rw [nI_clamp (by omega)] at ex_106
        refine lv_iadd hx hb dX6_goesBy_46 ?_
        refine lv_topi (fun x_107 ex_107 => ?_)
        refine lv_icmp_le (tgt := 57) hx hb dX6_goesBy_47 (by decide) (fun c_108 => ?_) (fun c_108 => ?_)
        · skip
          obtain ⟨x_109, ex_109⟩ : ∃ y : Int32, y = (nI j) + 1 := ⟨_, rfl⟩
          refine lv_iinc (v := x_109) (lv' := [(1, .int x_109), (0, .ref (rt 51))]) hx hb dX6_goesBy_57 hl (k := 1) rfl (by rw [ex_109]; rfl) (by decide) rfl (fun ls hl => ?_)
          refine lv_goto (tgt := 12) hx hb dX6_goesBy_60 (by decide) ?_
          obtain rfl : x_109 = nI (j + 1) := ex_109.trans (nI_1 j)
          exact ih (n - 1) (by omega) _ _ _ ⟨j + 1, f_98, _, by omega, ef_100, hP, hD, hS, lv_sub hl [1, 0] rfl⟩
        · skip
          refine lv_aload_n hx hb dX6_goesBy_50 rfl (lv_at hl 0 rfl) ?_
          refine g_get (ci := 6) (v := .ref (rt 32)) (C := RX6) (T := TX6) (N := 51) hx hb hts uB6 hown hK hP (hC.1.1 51 (by decide)) F_m rfl 32 (by decide) wm_0 (hC.2.2.2 32 (by decide)) dX6_goesBy_51 ?_
          refine lv_iload_n hx hb dX6_goesBy_54 rfl (lv_at hl 1 rfl) ?_
          refine lv_iconst (v := 0) hx hb dX6_goesBy_55 (by decide) ?_
          refine g_iast hx hb hK hP hD hS (hC.1.1 32 (by decide)) F_state (vp_in_nI (by omega) (by decide)) dX6_goesBy_56 (fun H locs hP hD hS => ?_)
          obtain ⟨g_110, eg_110⟩ : ∃ z9, z9 = upd g_99 (Int32.toNatClampNeg (nI j)) 0 := ⟨_, rfl⟩
          rw [← eg_110] at hP hD
          obtain ⟨f_111, ef_111⟩ : ∃ z9, z9 = va_up f_98 (rt 32) (.inl (K 0, 1000, .inl g_110)) := ⟨_, rfl⟩
          have hP : va_P (dC, dI) vwCl (va_pl L f_111) H := by rw [ef_111]; exact hP
          have hD : va_D A (va_pl L f_111) := by rw [ef_111]; exact hD
          have F_m_ : f_111 (rt 51) = .inr (6, fs_2) := by rw [ef_111, va_up_ne _ _ (fun q => absurd (hC.1.2 51 (by decide) 32 (by decide) q) (by decide))]; exact F_m
          have F_saleTick_ : f_111 (rt 26) = .inl (K 0, 1000, .inl g_saleTick) := by rw [ef_111, va_up_ne _ _ (fun q => absurd (hC.1.2 26 (by decide) 32 (by decide) q) (by decide))]; exact F_saleTick
          have F_saleWait_ : f_111 (rt 33) = .inl (K 0, 1000, .inl g_saleWait) := by rw [ef_111, va_up_ne _ _ (fun q => absurd (hC.1.2 33 (by decide) 32 (by decide) q) (by decide))]; exact F_saleWait
          have F_sort_ : f_111 (rt 10) = .inl (K 0, 40, .inl g_sort) := by rw [ef_111, va_up_ne _ _ (fun q => absurd (hC.1.2 10 (by decide) 32 (by decide) q) (by decide))]; exact F_sort
          have F_dayBudget_ : f_111 (rt 15) = .inl (K 0, 40, .inl g_dayBudget) := by rw [ef_111, va_up_ne _ _ (fun q => absurd (hC.1.2 15 (by decide) 32 (by decide) q) (by decide))]; exact F_dayBudget
          have F_throttle_ : f_111 (rt 19) = .inl (K 0, 40, .inl g_throttle) := by rw [ef_111, va_up_ne _ _ (fun q => absurd (hC.1.2 19 (by decide) 32 (by decide) q) (by decide))]; exact F_throttle
          have F_saleOf_ : f_111 (rt 30) = .inl (K 0, 1000, .inl g_saleOf) := by rw [ef_111, va_up_ne _ _ (fun q => absurd (hC.1.2 30 (by decide) 32 (by decide) q) (by decide))]; exact F_saleOf
          have F_pays_ : f_111 (rt 11) = .inl (K 0, 40, .inl g_pays) := by rw [ef_111, va_up_ne _ _ (fun q => absurd (hC.1.2 11 (by decide) 32 (by decide) q) (by decide))]; exact F_pays
          have F_price_ : f_111 (rt 31) = .inl (K 0, 1000, .inl g_price) := by rw [ef_111, va_up_ne _ _ (fun q => absurd (hC.1.2 31 (by decide) 32 (by decide) q) (by decide))]; exact F_price
          have F_m := F_m_
          have F_saleTick := F_saleTick_
          have F_saleWait := F_saleWait_
          have F_sort := F_sort_
          have F_dayBudget := F_dayBudget_
          have F_throttle := F_throttle_
          have F_saleOf := F_saleOf_
          have F_pays := F_pays_
          have F_price := F_price_
          have F_state : f_111 (rt 32) = .inl (K 0, 1000, .inl g_110) := by rw [ef_111, va_up_self]
          have hC : mC rt L f_111 fs_2 := ⟨hC.1, F_m, hC.2.2.1, hC.2.2.2⟩
          obtain ⟨x_112, ex_112⟩ : ∃ y : Int32, y = (nI j) + 1 := ⟨_, rfl⟩
          refine lv_iinc (v := x_112) (lv' := [(1, .int x_112), (0, .ref (rt 51))]) hx hb dX6_goesBy_57 hl (k := 1) rfl (by rw [ex_112]; rfl) (by decide) rfl (fun ls hl => ?_)
          refine lv_goto (tgt := 12) hx hb dX6_goesBy_60 (by decide) ?_
          obtain rfl : x_112 = nI (j + 1) := ex_112.trans (nI_1 j)
          exact ih (n - 1) (by omega) _ _ _ ⟨j + 1, f_111, _, by omega, by rw [ef_111, ef_100, bx_uu], hP, hD, hS, lv_sub hl [1, 0] rfl⟩
end
section
set_option maxHeartbeats 4000000 in
set_option maxRecDepth 100000 in
theorem um_sell (l : Launch) (dC : Nat → ClassId) (dI : Nat → Nat → Nat) (K : Nat → ClassId) (L : List Nat) (f : Nat → va_E) (rt : Nat → Nat) {fm : List Value} (hC : mC rt L f fm) {g_saleTick : Nat → Int32} (F_saleTick : f (rt 26) = .inl (K 0, 1000, .inl g_saleTick)) {g_saleReader : Nat → Int32} (F_saleReader : f (rt 27) = .inl (K 0, 1000, .inl g_saleReader)) {g_salePage : Nat → Int32} (F_salePage : f (rt 28) = .inl (K 0, 1000, .inl g_salePage)) {g_salePlace : Nat → Int32} (F_salePlace : f (rt 29) = .inl (K 0, 1000, .inl g_salePlace)) {g_saleOf : Nat → Int32} (F_saleOf : f (rt 30) = .inl (K 0, 1000, .inl g_saleOf)) {g_price : Nat → Int32} (F_price : f (rt 31) = .inl (K 0, 1000, .inl g_price)) {g_state : Nat → Int32} (F_state : f (rt 32) = .inl (K 0, 1000, .inl g_state)) {g_saleWait : Nat → Int32} (F_saleWait : f (rt 33) = .inl (K 0, 1000, .inl g_saleWait)) {g_pressTick : Nat → Int32} (F_pressTick : f (rt 34) = .inl (K 0, 1000, .inl g_pressTick)) {g_pays : Nat → Int32} (F_pays : f (rt 11) = .inl (K 0, 40, .inl g_pays)) {g_toSell : Nat → Int32} (F_toSell : f (rt 49) = .inl (K 0, 4, .inl g_toSell)) {g_toPay : Nat → Int32} (F_toPay : f (rt 50) = .inl (K 0, 4, .inl g_toPay)) {ns tk cn : Nat} {wt : Int32} (I_sales : fm[25]? = some (.int (nI ns))) (I_tick : fm[1]? = some (.int (nI tk))) (I_wait : fm[4]? = some (.int wt)) (x : Int32) (y : Int32) (pl : Nat) (hns1 : ns < 1000) (hpl : pl < 4) (hcs : g_toSell pl = nI cn) (hcn : cn < 40) (hLn : gN L) : gMv l yX6_sell cX6_sell 6 0 (dC, dI) K L f [.ref (rt 51), .int x, .int y, .int (nI pl)] (fun f' => ∃ v9 : Int32, f' = va_up (va_up (va_up (va_up (va_up (va_up (va_up (va_up (va_up (va_up (f) (rt 26) (.inl (K 0, 1000, .inl (upd g_saleTick (Int32.toNatClampNeg (nI ns)) (nI tk))))) (rt 27) (.inl (K 0, 1000, .inl (upd g_saleReader (Int32.toNatClampNeg (nI ns)) x)))) (rt 28) (.inl (K 0, 1000, .inl (upd g_salePage (Int32.toNatClampNeg (nI ns)) y)))) (rt 29) (.inl (K 0, 1000, .inl (upd g_salePlace (Int32.toNatClampNeg (nI ns)) (nI pl))))) (rt 30) (.inl (K 0, 1000, .inl (upd g_saleOf (Int32.toNatClampNeg (nI ns)) (nI cn))))) (rt 31) (.inl (K 0, 1000, .inl (upd g_price (Int32.toNatClampNeg (nI ns)) (g_toPay pl))))) (rt 32) (.inl (K 0, 1000, .inl (upd g_state (Int32.toNatClampNeg (nI ns)) v9)))) (rt 33) (.inl (K 0, 1000, .inl (upd g_saleWait (Int32.toNatClampNeg (nI ns)) wt)))) (rt 34) (.inl (K 0, 1000, .inl (upd g_pressTick (Int32.toNatClampNeg (nI ns)) 0)))) (rt 51) (.inr (6, List.set fm 25 (.int (nI (ns + 1)))))) := by
  refine Met.ofW (cc := cX6_sell) (maxL := 6) (ret := none) (by decide) rfl ?_
  intro p e s m args below meth c s₁ B hml hv
  obtain ⟨rfl, hP, hK⟩ := hv
  have F_m := hC.2.1
  have hD : va_D (fun q : Nat => q ∈ L) (va_pl L f) := g_D hLn (fun a h => h) f
  generalize hAe : (fun q : Nat => q ∈ L) = A at hD ⊢
  have hx := B.exec
  have hb := B.bytes
  have hr := B.returns
  have hlocks := B.notSynchronized
  have hts0 := atoms_spec (ws := Cond.code yX6_sell cX6_sell 6 none :: lw_B) B.pre
  have hts : ∀ w ∈ lw_B, w.before _ s = true := fun w h => hts0 w (List.mem_cons_of_mem _ h)
  have hown : s.vm.findClass RX6 = some m.cls := findClass_of_methodNamed B.named
  have hS : va_S A s.heap s.heap [] := va_S.rf
  have hl := lv_entry ([.ref (rt 51), .int x, .int y, .int (nI pl)]) (n := 6) (Nat.le_of_ble_eq_true rfl)
  rw [lg_entry_eq]
  generalize (lg_sl ([.ref (rt 51), .int x, .int y, .int (nI pl)]) ++ List.replicate (6 - (lg_sl ([.ref (rt 51), .int x, .int y, .int (nI pl)])).length) Slot.unset).toArray = ls at hl ⊢
  have hl : lv_has ls 6 [(0, .ref (rt 51)), (1, .int x), (2, .int y), (3, .int (nI pl))] := hl
  refine lv_aload_n hx hb dX6_sell_0 rfl (lv_at hl 0 rfl) ?_
  refine g_get (ci := 6) (v := .int (nI ns)) (C := RX6) (T := TX6) (N := 51) hx hb hts uB6 hown hK hP (hC.1.1 51 (by decide)) F_m rfl 25 (by decide) wm_4 I_sales dX6_sell_1 ?_
  refine lv_istore (lv' := [(4, .int (nI ns)), (0, .ref (rt 51)), (1, .int x), (2, .int y), (3, .int (nI pl))]) hx hb dX6_sell_4 hl (by decide) rfl (fun ls hl => ?_)
  refine lv_aload_n hx hb dX6_sell_6 rfl (lv_at hl 1 rfl) ?_
  refine g_get (ci := 6) (v := .ref (rt 49)) (C := RX6) (T := TX6) (N := 51) hx hb hts uB6 hown hK hP (hC.1.1 51 (by decide)) F_m rfl 49 (by decide) wm_124 (hC.2.2.2 49 (by decide)) dX6_sell_7 ?_
  refine lv_iload_n hx hb dX6_sell_10 rfl (lv_at hl 4 rfl) ?_
  refine g_iald hx hb hK hP (hC.1.1 49 (by decide)) F_toSell (vp_in_nI (by omega) (by decide)) dX6_sell_11 ?_
  refine lv_topi (fun x_1 ex_1 => ?_)
  rw [nI_clamp (by omega)] at ex_1
  obtain rfl : x_1 = nI cn := ex_1.trans hcs
  refine lv_istore (lv' := [(5, .int (nI cn)), (4, .int (nI ns)), (0, .ref (rt 51)), (1, .int x), (2, .int y), (3, .int (nI pl))]) hx hb dX6_sell_12 hl (by decide) rfl (fun ls hl => ?_)
  refine lv_aload_n hx hb dX6_sell_14 rfl (lv_at hl 2 rfl) ?_
  refine g_get (ci := 6) (v := .ref (rt 26)) (C := RX6) (T := TX6) (N := 51) hx hb hts uB6 hown hK hP (hC.1.1 51 (by decide)) F_m rfl 26 (by decide) wm_10 (hC.2.2.2 26 (by decide)) dX6_sell_15 ?_
  refine lv_iload hx hb dX6_sell_18 (lv_at hl 1 rfl) ?_
  refine lv_aload_n hx hb dX6_sell_20 rfl (lv_at hl 2 rfl) ?_
  refine g_get (ci := 6) (v := .int (nI tk)) (C := RX6) (T := TX6) (N := 51) hx hb hts uB6 hown hK hP (hC.1.1 51 (by decide)) F_m rfl 1 (by decide) wm_13 I_tick dX6_sell_21 ?_
  refine g_iast hx hb hK hP hD hS (hC.1.1 26 (by decide)) F_saleTick (vp_in_nI (by omega) (by decide)) dX6_sell_24 (fun H locs hP hD hS => ?_)
  obtain ⟨g_2, eg_2⟩ : ∃ z9, z9 = upd g_saleTick (Int32.toNatClampNeg (nI ns)) (nI tk) := ⟨_, rfl⟩
  rw [← eg_2] at hP hD
  obtain ⟨f_3, ef_3⟩ : ∃ z9, z9 = va_up f (rt 26) (.inl (K 0, 1000, .inl g_2)) := ⟨_, rfl⟩
  have hP : va_P (dC, dI) vwCl (va_pl L f_3) H := by rw [ef_3]; exact hP
  have hD : va_D A (va_pl L f_3) := by rw [ef_3]; exact hD
  have F_m_ : f_3 (rt 51) = .inr (6, fm) := by rw [ef_3, va_up_ne _ _ (fun q => absurd (hC.1.2 51 (by decide) 26 (by decide) q) (by decide))]; exact F_m
  have F_saleReader_ : f_3 (rt 27) = .inl (K 0, 1000, .inl g_saleReader) := by rw [ef_3, va_up_ne _ _ (fun q => absurd (hC.1.2 27 (by decide) 26 (by decide) q) (by decide))]; exact F_saleReader
  have F_salePage_ : f_3 (rt 28) = .inl (K 0, 1000, .inl g_salePage) := by rw [ef_3, va_up_ne _ _ (fun q => absurd (hC.1.2 28 (by decide) 26 (by decide) q) (by decide))]; exact F_salePage
  have F_salePlace_ : f_3 (rt 29) = .inl (K 0, 1000, .inl g_salePlace) := by rw [ef_3, va_up_ne _ _ (fun q => absurd (hC.1.2 29 (by decide) 26 (by decide) q) (by decide))]; exact F_salePlace
  have F_saleOf_ : f_3 (rt 30) = .inl (K 0, 1000, .inl g_saleOf) := by rw [ef_3, va_up_ne _ _ (fun q => absurd (hC.1.2 30 (by decide) 26 (by decide) q) (by decide))]; exact F_saleOf
  have F_price_ : f_3 (rt 31) = .inl (K 0, 1000, .inl g_price) := by rw [ef_3, va_up_ne _ _ (fun q => absurd (hC.1.2 31 (by decide) 26 (by decide) q) (by decide))]; exact F_price
  have F_state_ : f_3 (rt 32) = .inl (K 0, 1000, .inl g_state) := by rw [ef_3, va_up_ne _ _ (fun q => absurd (hC.1.2 32 (by decide) 26 (by decide) q) (by decide))]; exact F_state
  have F_saleWait_ : f_3 (rt 33) = .inl (K 0, 1000, .inl g_saleWait) := by rw [ef_3, va_up_ne _ _ (fun q => absurd (hC.1.2 33 (by decide) 26 (by decide) q) (by decide))]; exact F_saleWait
  have F_pressTick_ : f_3 (rt 34) = .inl (K 0, 1000, .inl g_pressTick) := by rw [ef_3, va_up_ne _ _ (fun q => absurd (hC.1.2 34 (by decide) 26 (by decide) q) (by decide))]; exact F_pressTick
  have F_pays_ : f_3 (rt 11) = .inl (K 0, 40, .inl g_pays) := by rw [ef_3, va_up_ne _ _ (fun q => absurd (hC.1.2 11 (by decide) 26 (by decide) q) (by decide))]; exact F_pays
  have F_toSell_ : f_3 (rt 49) = .inl (K 0, 4, .inl g_toSell) := by rw [ef_3, va_up_ne _ _ (fun q => absurd (hC.1.2 49 (by decide) 26 (by decide) q) (by decide))]; exact F_toSell
  have F_toPay_ : f_3 (rt 50) = .inl (K 0, 4, .inl g_toPay) := by rw [ef_3, va_up_ne _ _ (fun q => absurd (hC.1.2 50 (by decide) 26 (by decide) q) (by decide))]; exact F_toPay
  have F_m := F_m_
  have F_saleReader := F_saleReader_
  have F_salePage := F_salePage_
  have F_salePlace := F_salePlace_
  have F_saleOf := F_saleOf_
  have F_price := F_price_
  have F_state := F_state_
  have F_saleWait := F_saleWait_
  have F_pressTick := F_pressTick_
  have F_pays := F_pays_
  have F_toSell := F_toSell_
  have F_toPay := F_toPay_
  have F_saleTick : f_3 (rt 26) = .inl (K 0, 1000, .inl g_2) := by rw [ef_3, va_up_self]
  have hC : mC rt L f_3 fm := ⟨hC.1, F_m, hC.2.2.1, hC.2.2.2⟩
  refine lv_aload_n hx hb dX6_sell_25 rfl (lv_at hl 2 rfl) ?_
  refine g_get (ci := 6) (v := .ref (rt 27)) (C := RX6) (T := TX6) (N := 51) hx hb hts uB6 hown hK hP (hC.1.1 51 (by decide)) F_m rfl 27 (by decide) wm_50 (hC.2.2.2 27 (by decide)) dX6_sell_26 ?_
  refine lv_iload hx hb dX6_sell_29 (lv_at hl 1 rfl) ?_
  refine lv_iload_n hx hb dX6_sell_31 rfl (lv_at hl 3 rfl) ?_
  refine g_iast hx hb hK hP hD hS (hC.1.1 27 (by decide)) F_saleReader (vp_in_nI (by omega) (by decide)) dX6_sell_32 (fun H locs hP hD hS => ?_)
  obtain ⟨g_4, eg_4⟩ : ∃ z9, z9 = upd g_saleReader (Int32.toNatClampNeg (nI ns)) x := ⟨_, rfl⟩
  rw [← eg_4] at hP hD
  obtain ⟨f_5, ef_5⟩ : ∃ z9, z9 = va_up f_3 (rt 27) (.inl (K 0, 1000, .inl g_4)) := ⟨_, rfl⟩
  have hP : va_P (dC, dI) vwCl (va_pl L f_5) H := by rw [ef_5]; exact hP
  have hD : va_D A (va_pl L f_5) := by rw [ef_5]; exact hD
  have F_m_ : f_5 (rt 51) = .inr (6, fm) := by rw [ef_5, va_up_ne _ _ (fun q => absurd (hC.1.2 51 (by decide) 27 (by decide) q) (by decide))]; exact F_m
  have F_saleTick_ : f_5 (rt 26) = .inl (K 0, 1000, .inl g_2) := by rw [ef_5, va_up_ne _ _ (fun q => absurd (hC.1.2 26 (by decide) 27 (by decide) q) (by decide))]; exact F_saleTick
  have F_salePage_ : f_5 (rt 28) = .inl (K 0, 1000, .inl g_salePage) := by rw [ef_5, va_up_ne _ _ (fun q => absurd (hC.1.2 28 (by decide) 27 (by decide) q) (by decide))]; exact F_salePage
  have F_salePlace_ : f_5 (rt 29) = .inl (K 0, 1000, .inl g_salePlace) := by rw [ef_5, va_up_ne _ _ (fun q => absurd (hC.1.2 29 (by decide) 27 (by decide) q) (by decide))]; exact F_salePlace
  have F_saleOf_ : f_5 (rt 30) = .inl (K 0, 1000, .inl g_saleOf) := by rw [ef_5, va_up_ne _ _ (fun q => absurd (hC.1.2 30 (by decide) 27 (by decide) q) (by decide))]; exact F_saleOf
  have F_price_ : f_5 (rt 31) = .inl (K 0, 1000, .inl g_price) := by rw [ef_5, va_up_ne _ _ (fun q => absurd (hC.1.2 31 (by decide) 27 (by decide) q) (by decide))]; exact F_price
  have F_state_ : f_5 (rt 32) = .inl (K 0, 1000, .inl g_state) := by rw [ef_5, va_up_ne _ _ (fun q => absurd (hC.1.2 32 (by decide) 27 (by decide) q) (by decide))]; exact F_state
  have F_saleWait_ : f_5 (rt 33) = .inl (K 0, 1000, .inl g_saleWait) := by rw [ef_5, va_up_ne _ _ (fun q => absurd (hC.1.2 33 (by decide) 27 (by decide) q) (by decide))]; exact F_saleWait
  have F_pressTick_ : f_5 (rt 34) = .inl (K 0, 1000, .inl g_pressTick) := by rw [ef_5, va_up_ne _ _ (fun q => absurd (hC.1.2 34 (by decide) 27 (by decide) q) (by decide))]; exact F_pressTick
  have F_pays_ : f_5 (rt 11) = .inl (K 0, 40, .inl g_pays) := by rw [ef_5, va_up_ne _ _ (fun q => absurd (hC.1.2 11 (by decide) 27 (by decide) q) (by decide))]; exact F_pays
  have F_toSell_ : f_5 (rt 49) = .inl (K 0, 4, .inl g_toSell) := by rw [ef_5, va_up_ne _ _ (fun q => absurd (hC.1.2 49 (by decide) 27 (by decide) q) (by decide))]; exact F_toSell
  have F_toPay_ : f_5 (rt 50) = .inl (K 0, 4, .inl g_toPay) := by rw [ef_5, va_up_ne _ _ (fun q => absurd (hC.1.2 50 (by decide) 27 (by decide) q) (by decide))]; exact F_toPay
  have F_m := F_m_
  have F_saleTick := F_saleTick_
  have F_salePage := F_salePage_
  have F_salePlace := F_salePlace_
  have F_saleOf := F_saleOf_
  have F_price := F_price_
  have F_state := F_state_
  have F_saleWait := F_saleWait_
  have F_pressTick := F_pressTick_
  have F_pays := F_pays_
  have F_toSell := F_toSell_
  have F_toPay := F_toPay_
  have F_saleReader : f_5 (rt 27) = .inl (K 0, 1000, .inl g_4) := by rw [ef_5, va_up_self]
  have hC : mC rt L f_5 fm := ⟨hC.1, F_m, hC.2.2.1, hC.2.2.2⟩
  refine lv_aload_n hx hb dX6_sell_33 rfl (lv_at hl 2 rfl) ?_
  refine g_get (ci := 6) (v := .ref (rt 28)) (C := RX6) (T := TX6) (N := 51) hx hb hts uB6 hown hK hP (hC.1.1 51 (by decide)) F_m rfl 28 (by decide) wm_48 (hC.2.2.2 28 (by decide)) dX6_sell_34 ?_
  refine lv_iload hx hb dX6_sell_37 (lv_at hl 1 rfl) ?_
  refine lv_iload_n hx hb dX6_sell_39 rfl (lv_at hl 4 rfl) ?_
  refine g_iast hx hb hK hP hD hS (hC.1.1 28 (by decide)) F_salePage (vp_in_nI (by omega) (by decide)) dX6_sell_40 (fun H locs hP hD hS => ?_)
  obtain ⟨g_6, eg_6⟩ : ∃ z9, z9 = upd g_salePage (Int32.toNatClampNeg (nI ns)) y := ⟨_, rfl⟩
  rw [← eg_6] at hP hD
  obtain ⟨f_7, ef_7⟩ : ∃ z9, z9 = va_up f_5 (rt 28) (.inl (K 0, 1000, .inl g_6)) := ⟨_, rfl⟩
  have hP : va_P (dC, dI) vwCl (va_pl L f_7) H := by rw [ef_7]; exact hP
  have hD : va_D A (va_pl L f_7) := by rw [ef_7]; exact hD
  have F_m_ : f_7 (rt 51) = .inr (6, fm) := by rw [ef_7, va_up_ne _ _ (fun q => absurd (hC.1.2 51 (by decide) 28 (by decide) q) (by decide))]; exact F_m
  have F_saleTick_ : f_7 (rt 26) = .inl (K 0, 1000, .inl g_2) := by rw [ef_7, va_up_ne _ _ (fun q => absurd (hC.1.2 26 (by decide) 28 (by decide) q) (by decide))]; exact F_saleTick
  have F_saleReader_ : f_7 (rt 27) = .inl (K 0, 1000, .inl g_4) := by rw [ef_7, va_up_ne _ _ (fun q => absurd (hC.1.2 27 (by decide) 28 (by decide) q) (by decide))]; exact F_saleReader
  have F_salePlace_ : f_7 (rt 29) = .inl (K 0, 1000, .inl g_salePlace) := by rw [ef_7, va_up_ne _ _ (fun q => absurd (hC.1.2 29 (by decide) 28 (by decide) q) (by decide))]; exact F_salePlace
  have F_saleOf_ : f_7 (rt 30) = .inl (K 0, 1000, .inl g_saleOf) := by rw [ef_7, va_up_ne _ _ (fun q => absurd (hC.1.2 30 (by decide) 28 (by decide) q) (by decide))]; exact F_saleOf
  have F_price_ : f_7 (rt 31) = .inl (K 0, 1000, .inl g_price) := by rw [ef_7, va_up_ne _ _ (fun q => absurd (hC.1.2 31 (by decide) 28 (by decide) q) (by decide))]; exact F_price
  have F_state_ : f_7 (rt 32) = .inl (K 0, 1000, .inl g_state) := by rw [ef_7, va_up_ne _ _ (fun q => absurd (hC.1.2 32 (by decide) 28 (by decide) q) (by decide))]; exact F_state
  have F_saleWait_ : f_7 (rt 33) = .inl (K 0, 1000, .inl g_saleWait) := by rw [ef_7, va_up_ne _ _ (fun q => absurd (hC.1.2 33 (by decide) 28 (by decide) q) (by decide))]; exact F_saleWait
  have F_pressTick_ : f_7 (rt 34) = .inl (K 0, 1000, .inl g_pressTick) := by rw [ef_7, va_up_ne _ _ (fun q => absurd (hC.1.2 34 (by decide) 28 (by decide) q) (by decide))]; exact F_pressTick
  have F_pays_ : f_7 (rt 11) = .inl (K 0, 40, .inl g_pays) := by rw [ef_7, va_up_ne _ _ (fun q => absurd (hC.1.2 11 (by decide) 28 (by decide) q) (by decide))]; exact F_pays
  have F_toSell_ : f_7 (rt 49) = .inl (K 0, 4, .inl g_toSell) := by rw [ef_7, va_up_ne _ _ (fun q => absurd (hC.1.2 49 (by decide) 28 (by decide) q) (by decide))]; exact F_toSell
  have F_toPay_ : f_7 (rt 50) = .inl (K 0, 4, .inl g_toPay) := by rw [ef_7, va_up_ne _ _ (fun q => absurd (hC.1.2 50 (by decide) 28 (by decide) q) (by decide))]; exact F_toPay
  have F_m := F_m_
  have F_saleTick := F_saleTick_
  have F_saleReader := F_saleReader_
  have F_salePlace := F_salePlace_
  have F_saleOf := F_saleOf_
  have F_price := F_price_
  have F_state := F_state_
  have F_saleWait := F_saleWait_
  have F_pressTick := F_pressTick_
  have F_pays := F_pays_
  have F_toSell := F_toSell_
  have F_toPay := F_toPay_
  have F_salePage : f_7 (rt 28) = .inl (K 0, 1000, .inl g_6) := by rw [ef_7, va_up_self]
  have hC : mC rt L f_7 fm := ⟨hC.1, F_m, hC.2.2.1, hC.2.2.2⟩
  refine lv_aload_n hx hb dX6_sell_41 rfl (lv_at hl 2 rfl) ?_
  refine g_get (ci := 6) (v := .ref (rt 29)) (C := RX6) (T := TX6) (N := 51) hx hb hts uB6 hown hK hP (hC.1.1 51 (by decide)) F_m rfl 29 (by decide) wm_116 (hC.2.2.2 29 (by decide)) dX6_sell_42 ?_
  refine lv_iload hx hb dX6_sell_45 (lv_at hl 1 rfl) ?_
  refine lv_iload_n hx hb dX6_sell_47 rfl (lv_at hl 5 rfl) ?_
  refine g_iast hx hb hK hP hD hS (hC.1.1 29 (by decide)) F_salePlace (vp_in_nI (by omega) (by decide)) dX6_sell_48 (fun H locs hP hD hS => ?_)
  obtain ⟨g_8, eg_8⟩ : ∃ z9, z9 = upd g_salePlace (Int32.toNatClampNeg (nI ns)) (nI pl) := ⟨_, rfl⟩
  rw [← eg_8] at hP hD
  obtain ⟨f_9, ef_9⟩ : ∃ z9, z9 = va_up f_7 (rt 29) (.inl (K 0, 1000, .inl g_8)) := ⟨_, rfl⟩
  have hP : va_P (dC, dI) vwCl (va_pl L f_9) H := by rw [ef_9]; exact hP
  have hD : va_D A (va_pl L f_9) := by rw [ef_9]; exact hD
  have F_m_ : f_9 (rt 51) = .inr (6, fm) := by rw [ef_9, va_up_ne _ _ (fun q => absurd (hC.1.2 51 (by decide) 29 (by decide) q) (by decide))]; exact F_m
  have F_saleTick_ : f_9 (rt 26) = .inl (K 0, 1000, .inl g_2) := by rw [ef_9, va_up_ne _ _ (fun q => absurd (hC.1.2 26 (by decide) 29 (by decide) q) (by decide))]; exact F_saleTick
  have F_saleReader_ : f_9 (rt 27) = .inl (K 0, 1000, .inl g_4) := by rw [ef_9, va_up_ne _ _ (fun q => absurd (hC.1.2 27 (by decide) 29 (by decide) q) (by decide))]; exact F_saleReader
  have F_salePage_ : f_9 (rt 28) = .inl (K 0, 1000, .inl g_6) := by rw [ef_9, va_up_ne _ _ (fun q => absurd (hC.1.2 28 (by decide) 29 (by decide) q) (by decide))]; exact F_salePage
  have F_saleOf_ : f_9 (rt 30) = .inl (K 0, 1000, .inl g_saleOf) := by rw [ef_9, va_up_ne _ _ (fun q => absurd (hC.1.2 30 (by decide) 29 (by decide) q) (by decide))]; exact F_saleOf
  have F_price_ : f_9 (rt 31) = .inl (K 0, 1000, .inl g_price) := by rw [ef_9, va_up_ne _ _ (fun q => absurd (hC.1.2 31 (by decide) 29 (by decide) q) (by decide))]; exact F_price
  have F_state_ : f_9 (rt 32) = .inl (K 0, 1000, .inl g_state) := by rw [ef_9, va_up_ne _ _ (fun q => absurd (hC.1.2 32 (by decide) 29 (by decide) q) (by decide))]; exact F_state
  have F_saleWait_ : f_9 (rt 33) = .inl (K 0, 1000, .inl g_saleWait) := by rw [ef_9, va_up_ne _ _ (fun q => absurd (hC.1.2 33 (by decide) 29 (by decide) q) (by decide))]; exact F_saleWait
  have F_pressTick_ : f_9 (rt 34) = .inl (K 0, 1000, .inl g_pressTick) := by rw [ef_9, va_up_ne _ _ (fun q => absurd (hC.1.2 34 (by decide) 29 (by decide) q) (by decide))]; exact F_pressTick
  have F_pays_ : f_9 (rt 11) = .inl (K 0, 40, .inl g_pays) := by rw [ef_9, va_up_ne _ _ (fun q => absurd (hC.1.2 11 (by decide) 29 (by decide) q) (by decide))]; exact F_pays
  have F_toSell_ : f_9 (rt 49) = .inl (K 0, 4, .inl g_toSell) := by rw [ef_9, va_up_ne _ _ (fun q => absurd (hC.1.2 49 (by decide) 29 (by decide) q) (by decide))]; exact F_toSell
  have F_toPay_ : f_9 (rt 50) = .inl (K 0, 4, .inl g_toPay) := by rw [ef_9, va_up_ne _ _ (fun q => absurd (hC.1.2 50 (by decide) 29 (by decide) q) (by decide))]; exact F_toPay
  have F_m := F_m_
  have F_saleTick := F_saleTick_
  have F_saleReader := F_saleReader_
  have F_salePage := F_salePage_
  have F_saleOf := F_saleOf_
  have F_price := F_price_
  have F_state := F_state_
  have F_saleWait := F_saleWait_
  have F_pressTick := F_pressTick_
  have F_pays := F_pays_
  have F_toSell := F_toSell_
  have F_toPay := F_toPay_
  have F_salePlace : f_9 (rt 29) = .inl (K 0, 1000, .inl g_8) := by rw [ef_9, va_up_self]
  have hC : mC rt L f_9 fm := ⟨hC.1, F_m, hC.2.2.1, hC.2.2.2⟩
  refine lv_aload_n hx hb dX6_sell_49 rfl (lv_at hl 2 rfl) ?_
  refine g_get (ci := 6) (v := .ref (rt 30)) (C := RX6) (T := TX6) (N := 51) hx hb hts uB6 hown hK hP (hC.1.1 51 (by decide)) F_m rfl 30 (by decide) wm_2 (hC.2.2.2 30 (by decide)) dX6_sell_50 ?_
  refine lv_iload hx hb dX6_sell_53 (lv_at hl 1 rfl) ?_
  refine lv_iload hx hb dX6_sell_55 (lv_at hl 0 rfl) ?_
  refine g_iast hx hb hK hP hD hS (hC.1.1 30 (by decide)) F_saleOf (vp_in_nI (by omega) (by decide)) dX6_sell_57 (fun H locs hP hD hS => ?_)
  obtain ⟨g_10, eg_10⟩ : ∃ z9, z9 = upd g_saleOf (Int32.toNatClampNeg (nI ns)) (nI cn) := ⟨_, rfl⟩
  rw [← eg_10] at hP hD
  obtain ⟨f_11, ef_11⟩ : ∃ z9, z9 = va_up f_9 (rt 30) (.inl (K 0, 1000, .inl g_10)) := ⟨_, rfl⟩
  have hP : va_P (dC, dI) vwCl (va_pl L f_11) H := by rw [ef_11]; exact hP
  have hD : va_D A (va_pl L f_11) := by rw [ef_11]; exact hD
  have F_m_ : f_11 (rt 51) = .inr (6, fm) := by rw [ef_11, va_up_ne _ _ (fun q => absurd (hC.1.2 51 (by decide) 30 (by decide) q) (by decide))]; exact F_m
  have F_saleTick_ : f_11 (rt 26) = .inl (K 0, 1000, .inl g_2) := by rw [ef_11, va_up_ne _ _ (fun q => absurd (hC.1.2 26 (by decide) 30 (by decide) q) (by decide))]; exact F_saleTick
  have F_saleReader_ : f_11 (rt 27) = .inl (K 0, 1000, .inl g_4) := by rw [ef_11, va_up_ne _ _ (fun q => absurd (hC.1.2 27 (by decide) 30 (by decide) q) (by decide))]; exact F_saleReader
  have F_salePage_ : f_11 (rt 28) = .inl (K 0, 1000, .inl g_6) := by rw [ef_11, va_up_ne _ _ (fun q => absurd (hC.1.2 28 (by decide) 30 (by decide) q) (by decide))]; exact F_salePage
  have F_salePlace_ : f_11 (rt 29) = .inl (K 0, 1000, .inl g_8) := by rw [ef_11, va_up_ne _ _ (fun q => absurd (hC.1.2 29 (by decide) 30 (by decide) q) (by decide))]; exact F_salePlace
  have F_price_ : f_11 (rt 31) = .inl (K 0, 1000, .inl g_price) := by rw [ef_11, va_up_ne _ _ (fun q => absurd (hC.1.2 31 (by decide) 30 (by decide) q) (by decide))]; exact F_price
  have F_state_ : f_11 (rt 32) = .inl (K 0, 1000, .inl g_state) := by rw [ef_11, va_up_ne _ _ (fun q => absurd (hC.1.2 32 (by decide) 30 (by decide) q) (by decide))]; exact F_state
  have F_saleWait_ : f_11 (rt 33) = .inl (K 0, 1000, .inl g_saleWait) := by rw [ef_11, va_up_ne _ _ (fun q => absurd (hC.1.2 33 (by decide) 30 (by decide) q) (by decide))]; exact F_saleWait
  have F_pressTick_ : f_11 (rt 34) = .inl (K 0, 1000, .inl g_pressTick) := by rw [ef_11, va_up_ne _ _ (fun q => absurd (hC.1.2 34 (by decide) 30 (by decide) q) (by decide))]; exact F_pressTick
  have F_pays_ : f_11 (rt 11) = .inl (K 0, 40, .inl g_pays) := by rw [ef_11, va_up_ne _ _ (fun q => absurd (hC.1.2 11 (by decide) 30 (by decide) q) (by decide))]; exact F_pays
  have F_toSell_ : f_11 (rt 49) = .inl (K 0, 4, .inl g_toSell) := by rw [ef_11, va_up_ne _ _ (fun q => absurd (hC.1.2 49 (by decide) 30 (by decide) q) (by decide))]; exact F_toSell
  have F_toPay_ : f_11 (rt 50) = .inl (K 0, 4, .inl g_toPay) := by rw [ef_11, va_up_ne _ _ (fun q => absurd (hC.1.2 50 (by decide) 30 (by decide) q) (by decide))]; exact F_toPay
  have F_m := F_m_
  have F_saleTick := F_saleTick_
  have F_saleReader := F_saleReader_
  have F_salePage := F_salePage_
  have F_salePlace := F_salePlace_
  have F_price := F_price_
  have F_state := F_state_
  have F_saleWait := F_saleWait_
  have F_pressTick := F_pressTick_
  have F_pays := F_pays_
  have F_toSell := F_toSell_
  have F_toPay := F_toPay_
  have F_saleOf : f_11 (rt 30) = .inl (K 0, 1000, .inl g_10) := by rw [ef_11, va_up_self]
  have hC : mC rt L f_11 fm := ⟨hC.1, F_m, hC.2.2.1, hC.2.2.2⟩
  refine lv_aload_n hx hb dX6_sell_58 rfl (lv_at hl 2 rfl) ?_
  refine g_get (ci := 6) (v := .ref (rt 31)) (C := RX6) (T := TX6) (N := 51) hx hb hts uB6 hown hK hP (hC.1.1 51 (by decide)) F_m rfl 31 (by decide) wm_3 (hC.2.2.2 31 (by decide)) dX6_sell_59 ?_
  refine lv_iload hx hb dX6_sell_62 (lv_at hl 1 rfl) ?_
  refine lv_aload_n hx hb dX6_sell_64 rfl (lv_at hl 2 rfl) ?_
  refine g_get (ci := 6) (v := .ref (rt 50)) (C := RX6) (T := TX6) (N := 51) hx hb hts uB6 hown hK hP (hC.1.1 51 (by decide)) F_m rfl 50 (by decide) wm_125 (hC.2.2.2 50 (by decide)) dX6_sell_65 ?_
  refine lv_iload_n hx hb dX6_sell_68 rfl (lv_at hl 5 rfl) ?_
  refine g_iald hx hb hK hP (hC.1.1 50 (by decide)) F_toPay (vp_in_nI (by omega) (by decide)) dX6_sell_69 ?_
  refine lv_topi (fun x_12 ex_12 => ?_)
  rw [nI_clamp (by omega)] at ex_12
  refine g_iast hx hb hK hP hD hS (hC.1.1 31 (by decide)) F_price (vp_in_nI (by omega) (by decide)) dX6_sell_70 (fun H locs hP hD hS => ?_)
  obtain ⟨g_13, eg_13⟩ : ∃ z9, z9 = upd g_price (Int32.toNatClampNeg (nI ns)) x_12 := ⟨_, rfl⟩
  rw [← eg_13] at hP hD
  obtain ⟨f_14, ef_14⟩ : ∃ z9, z9 = va_up f_11 (rt 31) (.inl (K 0, 1000, .inl g_13)) := ⟨_, rfl⟩
  have hP : va_P (dC, dI) vwCl (va_pl L f_14) H := by rw [ef_14]; exact hP
  have hD : va_D A (va_pl L f_14) := by rw [ef_14]; exact hD
  have F_m_ : f_14 (rt 51) = .inr (6, fm) := by rw [ef_14, va_up_ne _ _ (fun q => absurd (hC.1.2 51 (by decide) 31 (by decide) q) (by decide))]; exact F_m
  have F_saleTick_ : f_14 (rt 26) = .inl (K 0, 1000, .inl g_2) := by rw [ef_14, va_up_ne _ _ (fun q => absurd (hC.1.2 26 (by decide) 31 (by decide) q) (by decide))]; exact F_saleTick
  have F_saleReader_ : f_14 (rt 27) = .inl (K 0, 1000, .inl g_4) := by rw [ef_14, va_up_ne _ _ (fun q => absurd (hC.1.2 27 (by decide) 31 (by decide) q) (by decide))]; exact F_saleReader
  have F_salePage_ : f_14 (rt 28) = .inl (K 0, 1000, .inl g_6) := by rw [ef_14, va_up_ne _ _ (fun q => absurd (hC.1.2 28 (by decide) 31 (by decide) q) (by decide))]; exact F_salePage
  have F_salePlace_ : f_14 (rt 29) = .inl (K 0, 1000, .inl g_8) := by rw [ef_14, va_up_ne _ _ (fun q => absurd (hC.1.2 29 (by decide) 31 (by decide) q) (by decide))]; exact F_salePlace
  have F_saleOf_ : f_14 (rt 30) = .inl (K 0, 1000, .inl g_10) := by rw [ef_14, va_up_ne _ _ (fun q => absurd (hC.1.2 30 (by decide) 31 (by decide) q) (by decide))]; exact F_saleOf
  have F_state_ : f_14 (rt 32) = .inl (K 0, 1000, .inl g_state) := by rw [ef_14, va_up_ne _ _ (fun q => absurd (hC.1.2 32 (by decide) 31 (by decide) q) (by decide))]; exact F_state
  have F_saleWait_ : f_14 (rt 33) = .inl (K 0, 1000, .inl g_saleWait) := by rw [ef_14, va_up_ne _ _ (fun q => absurd (hC.1.2 33 (by decide) 31 (by decide) q) (by decide))]; exact F_saleWait
  have F_pressTick_ : f_14 (rt 34) = .inl (K 0, 1000, .inl g_pressTick) := by rw [ef_14, va_up_ne _ _ (fun q => absurd (hC.1.2 34 (by decide) 31 (by decide) q) (by decide))]; exact F_pressTick
  have F_pays_ : f_14 (rt 11) = .inl (K 0, 40, .inl g_pays) := by rw [ef_14, va_up_ne _ _ (fun q => absurd (hC.1.2 11 (by decide) 31 (by decide) q) (by decide))]; exact F_pays
  have F_toSell_ : f_14 (rt 49) = .inl (K 0, 4, .inl g_toSell) := by rw [ef_14, va_up_ne _ _ (fun q => absurd (hC.1.2 49 (by decide) 31 (by decide) q) (by decide))]; exact F_toSell
  have F_toPay_ : f_14 (rt 50) = .inl (K 0, 4, .inl g_toPay) := by rw [ef_14, va_up_ne _ _ (fun q => absurd (hC.1.2 50 (by decide) 31 (by decide) q) (by decide))]; exact F_toPay
  have F_m := F_m_
  have F_saleTick := F_saleTick_
  have F_saleReader := F_saleReader_
  have F_salePage := F_salePage_
  have F_salePlace := F_salePlace_
  have F_saleOf := F_saleOf_
  have F_state := F_state_
  have F_saleWait := F_saleWait_
  have F_pressTick := F_pressTick_
  have F_pays := F_pays_
  have F_toSell := F_toSell_
  have F_toPay := F_toPay_
  have F_price : f_14 (rt 31) = .inl (K 0, 1000, .inl g_13) := by rw [ef_14, va_up_self]
  have hC : mC rt L f_14 fm := ⟨hC.1, F_m, hC.2.2.1, hC.2.2.2⟩
  refine lv_aload_n hx hb dX6_sell_71 rfl (lv_at hl 2 rfl) ?_
  refine g_get (ci := 6) (v := .ref (rt 32)) (C := RX6) (T := TX6) (N := 51) hx hb hts uB6 hown hK hP (hC.1.1 51 (by decide)) F_m rfl 32 (by decide) wm_0 (hC.2.2.2 32 (by decide)) dX6_sell_72 ?_
  refine lv_iload hx hb dX6_sell_75 (lv_at hl 1 rfl) ?_
  refine lv_aload_n hx hb dX6_sell_77 rfl (lv_at hl 2 rfl) ?_
  refine g_get (ci := 6) (v := .ref (rt 11)) (C := RX6) (T := TX6) (N := 51) hx hb hts uB6 hown hK hP (hC.1.1 51 (by decide)) F_m rfl 11 (by decide) wm_1 (hC.2.2.2 11 (by decide)) dX6_sell_78 ?_
  refine lv_iload hx hb dX6_sell_81 (lv_at hl 0 rfl) ?_
  refine g_iald hx hb hK hP (hC.1.1 11 (by decide)) F_pays (vp_in_nI (by omega) (by decide)) dX6_sell_83 ?_
  refine lv_topi (fun x_15 ex_15 => ?_)
  rw [nI_clamp (by omega)] at ex_15
  refine lv_iconst (v := 1) hx hb dX6_sell_84 (by decide) ?_
  refine lv_icmp_ne (tgt := 92) hx hb dX6_sell_85 (by decide) (fun c_16 => ?_) (fun c_16 => ?_)
  · skip
    refine lv_iconst (v := 0) hx hb dX6_sell_92 (by decide) ?_
    refine g_iast hx hb hK hP hD hS (hC.1.1 32 (by decide)) F_state (vp_in_nI (by omega) (by decide)) dX6_sell_93 (fun H locs hP hD hS => ?_)
    obtain ⟨g_17, eg_17⟩ : ∃ z9, z9 = upd g_state (Int32.toNatClampNeg (nI ns)) 0 := ⟨_, rfl⟩
    rw [← eg_17] at hP hD
    obtain ⟨f_18, ef_18⟩ : ∃ z9, z9 = va_up f_14 (rt 32) (.inl (K 0, 1000, .inl g_17)) := ⟨_, rfl⟩
    have hP : va_P (dC, dI) vwCl (va_pl L f_18) H := by rw [ef_18]; exact hP
    have hD : va_D A (va_pl L f_18) := by rw [ef_18]; exact hD
    have F_m_ : f_18 (rt 51) = .inr (6, fm) := by rw [ef_18, va_up_ne _ _ (fun q => absurd (hC.1.2 51 (by decide) 32 (by decide) q) (by decide))]; exact F_m
    have F_saleTick_ : f_18 (rt 26) = .inl (K 0, 1000, .inl g_2) := by rw [ef_18, va_up_ne _ _ (fun q => absurd (hC.1.2 26 (by decide) 32 (by decide) q) (by decide))]; exact F_saleTick
    have F_saleReader_ : f_18 (rt 27) = .inl (K 0, 1000, .inl g_4) := by rw [ef_18, va_up_ne _ _ (fun q => absurd (hC.1.2 27 (by decide) 32 (by decide) q) (by decide))]; exact F_saleReader
    have F_salePage_ : f_18 (rt 28) = .inl (K 0, 1000, .inl g_6) := by rw [ef_18, va_up_ne _ _ (fun q => absurd (hC.1.2 28 (by decide) 32 (by decide) q) (by decide))]; exact F_salePage
    have F_salePlace_ : f_18 (rt 29) = .inl (K 0, 1000, .inl g_8) := by rw [ef_18, va_up_ne _ _ (fun q => absurd (hC.1.2 29 (by decide) 32 (by decide) q) (by decide))]; exact F_salePlace
    have F_saleOf_ : f_18 (rt 30) = .inl (K 0, 1000, .inl g_10) := by rw [ef_18, va_up_ne _ _ (fun q => absurd (hC.1.2 30 (by decide) 32 (by decide) q) (by decide))]; exact F_saleOf
    have F_price_ : f_18 (rt 31) = .inl (K 0, 1000, .inl g_13) := by rw [ef_18, va_up_ne _ _ (fun q => absurd (hC.1.2 31 (by decide) 32 (by decide) q) (by decide))]; exact F_price
    have F_saleWait_ : f_18 (rt 33) = .inl (K 0, 1000, .inl g_saleWait) := by rw [ef_18, va_up_ne _ _ (fun q => absurd (hC.1.2 33 (by decide) 32 (by decide) q) (by decide))]; exact F_saleWait
    have F_pressTick_ : f_18 (rt 34) = .inl (K 0, 1000, .inl g_pressTick) := by rw [ef_18, va_up_ne _ _ (fun q => absurd (hC.1.2 34 (by decide) 32 (by decide) q) (by decide))]; exact F_pressTick
    have F_pays_ : f_18 (rt 11) = .inl (K 0, 40, .inl g_pays) := by rw [ef_18, va_up_ne _ _ (fun q => absurd (hC.1.2 11 (by decide) 32 (by decide) q) (by decide))]; exact F_pays
    have F_toSell_ : f_18 (rt 49) = .inl (K 0, 4, .inl g_toSell) := by rw [ef_18, va_up_ne _ _ (fun q => absurd (hC.1.2 49 (by decide) 32 (by decide) q) (by decide))]; exact F_toSell
    have F_toPay_ : f_18 (rt 50) = .inl (K 0, 4, .inl g_toPay) := by rw [ef_18, va_up_ne _ _ (fun q => absurd (hC.1.2 50 (by decide) 32 (by decide) q) (by decide))]; exact F_toPay
    have F_m := F_m_
    have F_saleTick := F_saleTick_
    have F_saleReader := F_saleReader_
    have F_salePage := F_salePage_
    have F_salePlace := F_salePlace_
    have F_saleOf := F_saleOf_
    have F_price := F_price_
    have F_saleWait := F_saleWait_
    have F_pressTick := F_pressTick_
    have F_pays := F_pays_
    have F_toSell := F_toSell_
    have F_toPay := F_toPay_
    have F_state : f_18 (rt 32) = .inl (K 0, 1000, .inl g_17) := by rw [ef_18, va_up_self]
    have hC : mC rt L f_18 fm := ⟨hC.1, F_m, hC.2.2.1, hC.2.2.2⟩
    refine lv_aload_n hx hb dX6_sell_94 rfl (lv_at hl 2 rfl) ?_
    refine g_get (ci := 6) (v := .ref (rt 33)) (C := RX6) (T := TX6) (N := 51) hx hb hts uB6 hown hK hP (hC.1.1 51 (by decide)) F_m rfl 33 (by decide) wm_122 (hC.2.2.2 33 (by decide)) dX6_sell_95 ?_
    refine lv_iload hx hb dX6_sell_98 (lv_at hl 1 rfl) ?_
    refine lv_aload_n hx hb dX6_sell_100 rfl (lv_at hl 2 rfl) ?_
    refine g_get (ci := 6) (v := .int wt) (C := RX6) (T := TX6) (N := 51) hx hb hts uB6 hown hK hP (hC.1.1 51 (by decide)) F_m rfl 4 (by decide) wm_114 I_wait dX6_sell_101 ?_
    refine g_iast hx hb hK hP hD hS (hC.1.1 33 (by decide)) F_saleWait (vp_in_nI (by omega) (by decide)) dX6_sell_104 (fun H locs hP hD hS => ?_)
    obtain ⟨g_19, eg_19⟩ : ∃ z9, z9 = upd g_saleWait (Int32.toNatClampNeg (nI ns)) wt := ⟨_, rfl⟩
    rw [← eg_19] at hP hD
    obtain ⟨f_20, ef_20⟩ : ∃ z9, z9 = va_up f_18 (rt 33) (.inl (K 0, 1000, .inl g_19)) := ⟨_, rfl⟩
    have hP : va_P (dC, dI) vwCl (va_pl L f_20) H := by rw [ef_20]; exact hP
    have hD : va_D A (va_pl L f_20) := by rw [ef_20]; exact hD
    have F_m_ : f_20 (rt 51) = .inr (6, fm) := by rw [ef_20, va_up_ne _ _ (fun q => absurd (hC.1.2 51 (by decide) 33 (by decide) q) (by decide))]; exact F_m
    have F_saleTick_ : f_20 (rt 26) = .inl (K 0, 1000, .inl g_2) := by rw [ef_20, va_up_ne _ _ (fun q => absurd (hC.1.2 26 (by decide) 33 (by decide) q) (by decide))]; exact F_saleTick
    have F_saleReader_ : f_20 (rt 27) = .inl (K 0, 1000, .inl g_4) := by rw [ef_20, va_up_ne _ _ (fun q => absurd (hC.1.2 27 (by decide) 33 (by decide) q) (by decide))]; exact F_saleReader
    have F_salePage_ : f_20 (rt 28) = .inl (K 0, 1000, .inl g_6) := by rw [ef_20, va_up_ne _ _ (fun q => absurd (hC.1.2 28 (by decide) 33 (by decide) q) (by decide))]; exact F_salePage
    have F_salePlace_ : f_20 (rt 29) = .inl (K 0, 1000, .inl g_8) := by rw [ef_20, va_up_ne _ _ (fun q => absurd (hC.1.2 29 (by decide) 33 (by decide) q) (by decide))]; exact F_salePlace
    have F_saleOf_ : f_20 (rt 30) = .inl (K 0, 1000, .inl g_10) := by rw [ef_20, va_up_ne _ _ (fun q => absurd (hC.1.2 30 (by decide) 33 (by decide) q) (by decide))]; exact F_saleOf
    have F_price_ : f_20 (rt 31) = .inl (K 0, 1000, .inl g_13) := by rw [ef_20, va_up_ne _ _ (fun q => absurd (hC.1.2 31 (by decide) 33 (by decide) q) (by decide))]; exact F_price
    have F_state_ : f_20 (rt 32) = .inl (K 0, 1000, .inl g_17) := by rw [ef_20, va_up_ne _ _ (fun q => absurd (hC.1.2 32 (by decide) 33 (by decide) q) (by decide))]; exact F_state
    have F_pressTick_ : f_20 (rt 34) = .inl (K 0, 1000, .inl g_pressTick) := by rw [ef_20, va_up_ne _ _ (fun q => absurd (hC.1.2 34 (by decide) 33 (by decide) q) (by decide))]; exact F_pressTick
    have F_pays_ : f_20 (rt 11) = .inl (K 0, 40, .inl g_pays) := by rw [ef_20, va_up_ne _ _ (fun q => absurd (hC.1.2 11 (by decide) 33 (by decide) q) (by decide))]; exact F_pays
    have F_toSell_ : f_20 (rt 49) = .inl (K 0, 4, .inl g_toSell) := by rw [ef_20, va_up_ne _ _ (fun q => absurd (hC.1.2 49 (by decide) 33 (by decide) q) (by decide))]; exact F_toSell
    have F_toPay_ : f_20 (rt 50) = .inl (K 0, 4, .inl g_toPay) := by rw [ef_20, va_up_ne _ _ (fun q => absurd (hC.1.2 50 (by decide) 33 (by decide) q) (by decide))]; exact F_toPay
    have F_m := F_m_
    have F_saleTick := F_saleTick_
    have F_saleReader := F_saleReader_
    have F_salePage := F_salePage_
    have F_salePlace := F_salePlace_
    have F_saleOf := F_saleOf_
    have F_price := F_price_
    have F_state := F_state_
    have F_pressTick := F_pressTick_
    have F_pays := F_pays_
    have F_toSell := F_toSell_
    have F_toPay := F_toPay_
    have F_saleWait : f_20 (rt 33) = .inl (K 0, 1000, .inl g_19) := by rw [ef_20, va_up_self]
    have hC : mC rt L f_20 fm := ⟨hC.1, F_m, hC.2.2.1, hC.2.2.2⟩
    refine lv_aload_n hx hb dX6_sell_105 rfl (lv_at hl 2 rfl) ?_
    refine g_get (ci := 6) (v := .ref (rt 34)) (C := RX6) (T := TX6) (N := 51) hx hb hts uB6 hown hK hP (hC.1.1 51 (by decide)) F_m rfl 34 (by decide) wm_11 (hC.2.2.2 34 (by decide)) dX6_sell_106 ?_
    refine lv_iload hx hb dX6_sell_109 (lv_at hl 1 rfl) ?_
    refine lv_iconst (v := 0) hx hb dX6_sell_111 (by decide) ?_
    refine g_iast hx hb hK hP hD hS (hC.1.1 34 (by decide)) F_pressTick (vp_in_nI (by omega) (by decide)) dX6_sell_112 (fun H locs hP hD hS => ?_)
    obtain ⟨g_21, eg_21⟩ : ∃ z9, z9 = upd g_pressTick (Int32.toNatClampNeg (nI ns)) 0 := ⟨_, rfl⟩
    rw [← eg_21] at hP hD
    obtain ⟨f_22, ef_22⟩ : ∃ z9, z9 = va_up f_20 (rt 34) (.inl (K 0, 1000, .inl g_21)) := ⟨_, rfl⟩
    have hP : va_P (dC, dI) vwCl (va_pl L f_22) H := by rw [ef_22]; exact hP
    have hD : va_D A (va_pl L f_22) := by rw [ef_22]; exact hD
    have F_m_ : f_22 (rt 51) = .inr (6, fm) := by rw [ef_22, va_up_ne _ _ (fun q => absurd (hC.1.2 51 (by decide) 34 (by decide) q) (by decide))]; exact F_m
    have F_saleTick_ : f_22 (rt 26) = .inl (K 0, 1000, .inl g_2) := by rw [ef_22, va_up_ne _ _ (fun q => absurd (hC.1.2 26 (by decide) 34 (by decide) q) (by decide))]; exact F_saleTick
    have F_saleReader_ : f_22 (rt 27) = .inl (K 0, 1000, .inl g_4) := by rw [ef_22, va_up_ne _ _ (fun q => absurd (hC.1.2 27 (by decide) 34 (by decide) q) (by decide))]; exact F_saleReader
    have F_salePage_ : f_22 (rt 28) = .inl (K 0, 1000, .inl g_6) := by rw [ef_22, va_up_ne _ _ (fun q => absurd (hC.1.2 28 (by decide) 34 (by decide) q) (by decide))]; exact F_salePage
    have F_salePlace_ : f_22 (rt 29) = .inl (K 0, 1000, .inl g_8) := by rw [ef_22, va_up_ne _ _ (fun q => absurd (hC.1.2 29 (by decide) 34 (by decide) q) (by decide))]; exact F_salePlace
    have F_saleOf_ : f_22 (rt 30) = .inl (K 0, 1000, .inl g_10) := by rw [ef_22, va_up_ne _ _ (fun q => absurd (hC.1.2 30 (by decide) 34 (by decide) q) (by decide))]; exact F_saleOf
    have F_price_ : f_22 (rt 31) = .inl (K 0, 1000, .inl g_13) := by rw [ef_22, va_up_ne _ _ (fun q => absurd (hC.1.2 31 (by decide) 34 (by decide) q) (by decide))]; exact F_price
    have F_state_ : f_22 (rt 32) = .inl (K 0, 1000, .inl g_17) := by rw [ef_22, va_up_ne _ _ (fun q => absurd (hC.1.2 32 (by decide) 34 (by decide) q) (by decide))]; exact F_state
    have F_saleWait_ : f_22 (rt 33) = .inl (K 0, 1000, .inl g_19) := by rw [ef_22, va_up_ne _ _ (fun q => absurd (hC.1.2 33 (by decide) 34 (by decide) q) (by decide))]; exact F_saleWait
    have F_pays_ : f_22 (rt 11) = .inl (K 0, 40, .inl g_pays) := by rw [ef_22, va_up_ne _ _ (fun q => absurd (hC.1.2 11 (by decide) 34 (by decide) q) (by decide))]; exact F_pays
    have F_toSell_ : f_22 (rt 49) = .inl (K 0, 4, .inl g_toSell) := by rw [ef_22, va_up_ne _ _ (fun q => absurd (hC.1.2 49 (by decide) 34 (by decide) q) (by decide))]; exact F_toSell
    have F_toPay_ : f_22 (rt 50) = .inl (K 0, 4, .inl g_toPay) := by rw [ef_22, va_up_ne _ _ (fun q => absurd (hC.1.2 50 (by decide) 34 (by decide) q) (by decide))]; exact F_toPay
    have F_m := F_m_
    have F_saleTick := F_saleTick_
    have F_saleReader := F_saleReader_
    have F_salePage := F_salePage_
    have F_salePlace := F_salePlace_
    have F_saleOf := F_saleOf_
    have F_price := F_price_
    have F_state := F_state_
    have F_saleWait := F_saleWait_
    have F_pays := F_pays_
    have F_toSell := F_toSell_
    have F_toPay := F_toPay_
    have F_pressTick : f_22 (rt 34) = .inl (K 0, 1000, .inl g_21) := by rw [ef_22, va_up_self]
    have hC : mC rt L f_22 fm := ⟨hC.1, F_m, hC.2.2.1, hC.2.2.2⟩
    refine lv_aload_n hx hb dX6_sell_113 rfl (lv_at hl 2 rfl) ?_
    refine lv_dup hx hb dX6_sell_114 rfl ?_
    refine g_get (ci := 6) (v := .int (nI ns)) (C := RX6) (T := TX6) (N := 51) hx hb hts uB6 hown hK hP (hC.1.1 51 (by decide)) F_m rfl 25 (by decide) wm_4 I_sales dX6_sell_115 ?_
    refine lv_iconst (v := 1) hx hb dX6_sell_118 (by decide) ?_
    refine lv_iadd hx hb dX6_sell_119 ?_
    refine lv_topi (fun x_23 ex_23 => ?_)
    obtain rfl : x_23 = nI (ns + 1) := ex_23.trans (nI_1 ns)
    refine g_put (ci := 6) (v := .int (nI (ns + 1))) (ty := .int) (C := RX6) (T := TX6) (N := 51) hx hb hts uB6 tyX6 tyX6_ok nmX6 hown hK hP hD hS (hC.1.1 51 (by decide)) F_m rfl 25 (by decide) wm_4 rfl (by decide +kernel) rfl rfl (by rw [hC.2.2.1]; decide) dX6_sell_120 (fun H locs hP hD hS => ?_)
    obtain ⟨fs_24, efs_24⟩ : ∃ z9, z9 = List.set fm 25 (.int (nI (ns + 1))) := ⟨_, rfl⟩
    rw [← efs_24] at hP hD
    have hlen_ : fs_24.length = 51 := by rw [efs_24, List.length_set]; exact hC.2.2.1
    have I_tick : fs_24[1]? = some (.int (nI tk)) := by rw [efs_24, List.getElem?_set_ne (by decide)]; exact I_tick
    have I_wait : fs_24[4]? = some (.int wt) := by rw [efs_24, List.getElem?_set_ne (by decide)]; exact I_wait
    have I_sales : fs_24[25]? = some (.int (nI (ns + 1))) := by rw [efs_24]; exact List.getElem?_set_self (by rw [hC.2.2.1]; decide)
    have hmr_ : ∀ k ∈ mArr, fs_24[k]? = some (.ref (rt k)) := fun k h => by rw [efs_24, List.getElem?_set_ne (fun q => by rw [← q] at h; exact absurd h (by decide))]; exact hC.2.2.2 k h
    obtain ⟨f_25, ef_25⟩ : ∃ z9, z9 = va_up f_22 (rt 51) (.inr (6, fs_24)) := ⟨_, rfl⟩
    have hP : va_P (dC, dI) vwCl (va_pl L f_25) H := by rw [ef_25]; exact hP
    have hD : va_D A (va_pl L f_25) := by rw [ef_25]; exact hD
    have F_saleTick_ : f_25 (rt 26) = .inl (K 0, 1000, .inl g_2) := by rw [ef_25, va_up_ne _ _ (fun q => absurd (hC.1.2 26 (by decide) 51 (by decide) q) (by decide))]; exact F_saleTick
    have F_saleReader_ : f_25 (rt 27) = .inl (K 0, 1000, .inl g_4) := by rw [ef_25, va_up_ne _ _ (fun q => absurd (hC.1.2 27 (by decide) 51 (by decide) q) (by decide))]; exact F_saleReader
    have F_salePage_ : f_25 (rt 28) = .inl (K 0, 1000, .inl g_6) := by rw [ef_25, va_up_ne _ _ (fun q => absurd (hC.1.2 28 (by decide) 51 (by decide) q) (by decide))]; exact F_salePage
    have F_salePlace_ : f_25 (rt 29) = .inl (K 0, 1000, .inl g_8) := by rw [ef_25, va_up_ne _ _ (fun q => absurd (hC.1.2 29 (by decide) 51 (by decide) q) (by decide))]; exact F_salePlace
    have F_saleOf_ : f_25 (rt 30) = .inl (K 0, 1000, .inl g_10) := by rw [ef_25, va_up_ne _ _ (fun q => absurd (hC.1.2 30 (by decide) 51 (by decide) q) (by decide))]; exact F_saleOf
    have F_price_ : f_25 (rt 31) = .inl (K 0, 1000, .inl g_13) := by rw [ef_25, va_up_ne _ _ (fun q => absurd (hC.1.2 31 (by decide) 51 (by decide) q) (by decide))]; exact F_price
    have F_state_ : f_25 (rt 32) = .inl (K 0, 1000, .inl g_17) := by rw [ef_25, va_up_ne _ _ (fun q => absurd (hC.1.2 32 (by decide) 51 (by decide) q) (by decide))]; exact F_state
    have F_saleWait_ : f_25 (rt 33) = .inl (K 0, 1000, .inl g_19) := by rw [ef_25, va_up_ne _ _ (fun q => absurd (hC.1.2 33 (by decide) 51 (by decide) q) (by decide))]; exact F_saleWait
    have F_pressTick_ : f_25 (rt 34) = .inl (K 0, 1000, .inl g_21) := by rw [ef_25, va_up_ne _ _ (fun q => absurd (hC.1.2 34 (by decide) 51 (by decide) q) (by decide))]; exact F_pressTick
    have F_pays_ : f_25 (rt 11) = .inl (K 0, 40, .inl g_pays) := by rw [ef_25, va_up_ne _ _ (fun q => absurd (hC.1.2 11 (by decide) 51 (by decide) q) (by decide))]; exact F_pays
    have F_toSell_ : f_25 (rt 49) = .inl (K 0, 4, .inl g_toSell) := by rw [ef_25, va_up_ne _ _ (fun q => absurd (hC.1.2 49 (by decide) 51 (by decide) q) (by decide))]; exact F_toSell
    have F_toPay_ : f_25 (rt 50) = .inl (K 0, 4, .inl g_toPay) := by rw [ef_25, va_up_ne _ _ (fun q => absurd (hC.1.2 50 (by decide) 51 (by decide) q) (by decide))]; exact F_toPay
    have F_saleTick := F_saleTick_
    have F_saleReader := F_saleReader_
    have F_salePage := F_salePage_
    have F_salePlace := F_salePlace_
    have F_saleOf := F_saleOf_
    have F_price := F_price_
    have F_state := F_state_
    have F_saleWait := F_saleWait_
    have F_pressTick := F_pressTick_
    have F_pays := F_pays_
    have F_toSell := F_toSell_
    have F_toPay := F_toPay_
    have F_m : f_25 (rt 51) = .inr (6, fs_24) := by rw [ef_25, va_up_self]
    have hC : mC rt L f_25 fs_24 := ⟨hC.1, F_m, hlen_, hmr_⟩
    exact W.vret hx hb hr (fun t ht hW => ⟨⟨f_25, rfl, ⟨_, by rw [ef_25, efs_24, ef_22, eg_21, ef_20, eg_19, ef_18, eg_17, ef_14, eg_13, ef_11, eg_10, ef_9, eg_8, ef_7, eg_6, ef_5, eg_4, ef_3, eg_2, ex_12]⟩, by show va_P (dC, dI) vwCl (va_pl L f_25) t.heap; rw [ht]; exact hP⟩, hS.F ht⟩) hS.2.2 dX6_sell_123
  · skip
    refine lv_iconst (v := 1) hx hb dX6_sell_88 (by decide) ?_
    refine lv_goto (tgt := 93) hx hb dX6_sell_89 (by decide) ?_
    refine g_iast hx hb hK hP hD hS (hC.1.1 32 (by decide)) F_state (vp_in_nI (by omega) (by decide)) dX6_sell_93 (fun H locs hP hD hS => ?_)
    obtain ⟨g_26, eg_26⟩ : ∃ z9, z9 = upd g_state (Int32.toNatClampNeg (nI ns)) 1 := ⟨_, rfl⟩
    rw [← eg_26] at hP hD
    obtain ⟨f_27, ef_27⟩ : ∃ z9, z9 = va_up f_14 (rt 32) (.inl (K 0, 1000, .inl g_26)) := ⟨_, rfl⟩
    have hP : va_P (dC, dI) vwCl (va_pl L f_27) H := by rw [ef_27]; exact hP
    have hD : va_D A (va_pl L f_27) := by rw [ef_27]; exact hD
    have F_m_ : f_27 (rt 51) = .inr (6, fm) := by rw [ef_27, va_up_ne _ _ (fun q => absurd (hC.1.2 51 (by decide) 32 (by decide) q) (by decide))]; exact F_m
    have F_saleTick_ : f_27 (rt 26) = .inl (K 0, 1000, .inl g_2) := by rw [ef_27, va_up_ne _ _ (fun q => absurd (hC.1.2 26 (by decide) 32 (by decide) q) (by decide))]; exact F_saleTick
    have F_saleReader_ : f_27 (rt 27) = .inl (K 0, 1000, .inl g_4) := by rw [ef_27, va_up_ne _ _ (fun q => absurd (hC.1.2 27 (by decide) 32 (by decide) q) (by decide))]; exact F_saleReader
    have F_salePage_ : f_27 (rt 28) = .inl (K 0, 1000, .inl g_6) := by rw [ef_27, va_up_ne _ _ (fun q => absurd (hC.1.2 28 (by decide) 32 (by decide) q) (by decide))]; exact F_salePage
    have F_salePlace_ : f_27 (rt 29) = .inl (K 0, 1000, .inl g_8) := by rw [ef_27, va_up_ne _ _ (fun q => absurd (hC.1.2 29 (by decide) 32 (by decide) q) (by decide))]; exact F_salePlace
    have F_saleOf_ : f_27 (rt 30) = .inl (K 0, 1000, .inl g_10) := by rw [ef_27, va_up_ne _ _ (fun q => absurd (hC.1.2 30 (by decide) 32 (by decide) q) (by decide))]; exact F_saleOf
    have F_price_ : f_27 (rt 31) = .inl (K 0, 1000, .inl g_13) := by rw [ef_27, va_up_ne _ _ (fun q => absurd (hC.1.2 31 (by decide) 32 (by decide) q) (by decide))]; exact F_price
    have F_saleWait_ : f_27 (rt 33) = .inl (K 0, 1000, .inl g_saleWait) := by rw [ef_27, va_up_ne _ _ (fun q => absurd (hC.1.2 33 (by decide) 32 (by decide) q) (by decide))]; exact F_saleWait
    have F_pressTick_ : f_27 (rt 34) = .inl (K 0, 1000, .inl g_pressTick) := by rw [ef_27, va_up_ne _ _ (fun q => absurd (hC.1.2 34 (by decide) 32 (by decide) q) (by decide))]; exact F_pressTick
    have F_pays_ : f_27 (rt 11) = .inl (K 0, 40, .inl g_pays) := by rw [ef_27, va_up_ne _ _ (fun q => absurd (hC.1.2 11 (by decide) 32 (by decide) q) (by decide))]; exact F_pays
    have F_toSell_ : f_27 (rt 49) = .inl (K 0, 4, .inl g_toSell) := by rw [ef_27, va_up_ne _ _ (fun q => absurd (hC.1.2 49 (by decide) 32 (by decide) q) (by decide))]; exact F_toSell
    have F_toPay_ : f_27 (rt 50) = .inl (K 0, 4, .inl g_toPay) := by rw [ef_27, va_up_ne _ _ (fun q => absurd (hC.1.2 50 (by decide) 32 (by decide) q) (by decide))]; exact F_toPay
    have F_m := F_m_
    have F_saleTick := F_saleTick_
    have F_saleReader := F_saleReader_
    have F_salePage := F_salePage_
    have F_salePlace := F_salePlace_
    have F_saleOf := F_saleOf_
    have F_price := F_price_
    have F_saleWait := F_saleWait_
    have F_pressTick := F_pressTick_
    have F_pays := F_pays_
    have F_toSell := F_toSell_
    have F_toPay := F_toPay_
    have F_state : f_27 (rt 32) = .inl (K 0, 1000, .inl g_26) := by rw [ef_27, va_up_self]
    have hC : mC rt L f_27 fm := ⟨hC.1, F_m, hC.2.2.1, hC.2.2.2⟩
    refine lv_aload_n hx hb dX6_sell_94 rfl (lv_at hl 2 rfl) ?_
    refine g_get (ci := 6) (v := .ref (rt 33)) (C := RX6) (T := TX6) (N := 51) hx hb hts uB6 hown hK hP (hC.1.1 51 (by decide)) F_m rfl 33 (by decide) wm_122 (hC.2.2.2 33 (by decide)) dX6_sell_95 ?_
    refine lv_iload hx hb dX6_sell_98 (lv_at hl 1 rfl) ?_
    refine lv_aload_n hx hb dX6_sell_100 rfl (lv_at hl 2 rfl) ?_
    refine g_get (ci := 6) (v := .int wt) (C := RX6) (T := TX6) (N := 51) hx hb hts uB6 hown hK hP (hC.1.1 51 (by decide)) F_m rfl 4 (by decide) wm_114 I_wait dX6_sell_101 ?_
    refine g_iast hx hb hK hP hD hS (hC.1.1 33 (by decide)) F_saleWait (vp_in_nI (by omega) (by decide)) dX6_sell_104 (fun H locs hP hD hS => ?_)
    obtain ⟨g_28, eg_28⟩ : ∃ z9, z9 = upd g_saleWait (Int32.toNatClampNeg (nI ns)) wt := ⟨_, rfl⟩
    rw [← eg_28] at hP hD
    obtain ⟨f_29, ef_29⟩ : ∃ z9, z9 = va_up f_27 (rt 33) (.inl (K 0, 1000, .inl g_28)) := ⟨_, rfl⟩
    have hP : va_P (dC, dI) vwCl (va_pl L f_29) H := by rw [ef_29]; exact hP
    have hD : va_D A (va_pl L f_29) := by rw [ef_29]; exact hD
    have F_m_ : f_29 (rt 51) = .inr (6, fm) := by rw [ef_29, va_up_ne _ _ (fun q => absurd (hC.1.2 51 (by decide) 33 (by decide) q) (by decide))]; exact F_m
    have F_saleTick_ : f_29 (rt 26) = .inl (K 0, 1000, .inl g_2) := by rw [ef_29, va_up_ne _ _ (fun q => absurd (hC.1.2 26 (by decide) 33 (by decide) q) (by decide))]; exact F_saleTick
    have F_saleReader_ : f_29 (rt 27) = .inl (K 0, 1000, .inl g_4) := by rw [ef_29, va_up_ne _ _ (fun q => absurd (hC.1.2 27 (by decide) 33 (by decide) q) (by decide))]; exact F_saleReader
    have F_salePage_ : f_29 (rt 28) = .inl (K 0, 1000, .inl g_6) := by rw [ef_29, va_up_ne _ _ (fun q => absurd (hC.1.2 28 (by decide) 33 (by decide) q) (by decide))]; exact F_salePage
    have F_salePlace_ : f_29 (rt 29) = .inl (K 0, 1000, .inl g_8) := by rw [ef_29, va_up_ne _ _ (fun q => absurd (hC.1.2 29 (by decide) 33 (by decide) q) (by decide))]; exact F_salePlace
    have F_saleOf_ : f_29 (rt 30) = .inl (K 0, 1000, .inl g_10) := by rw [ef_29, va_up_ne _ _ (fun q => absurd (hC.1.2 30 (by decide) 33 (by decide) q) (by decide))]; exact F_saleOf
    have F_price_ : f_29 (rt 31) = .inl (K 0, 1000, .inl g_13) := by rw [ef_29, va_up_ne _ _ (fun q => absurd (hC.1.2 31 (by decide) 33 (by decide) q) (by decide))]; exact F_price
    have F_state_ : f_29 (rt 32) = .inl (K 0, 1000, .inl g_26) := by rw [ef_29, va_up_ne _ _ (fun q => absurd (hC.1.2 32 (by decide) 33 (by decide) q) (by decide))]; exact F_state
    have F_pressTick_ : f_29 (rt 34) = .inl (K 0, 1000, .inl g_pressTick) := by rw [ef_29, va_up_ne _ _ (fun q => absurd (hC.1.2 34 (by decide) 33 (by decide) q) (by decide))]; exact F_pressTick
    have F_pays_ : f_29 (rt 11) = .inl (K 0, 40, .inl g_pays) := by rw [ef_29, va_up_ne _ _ (fun q => absurd (hC.1.2 11 (by decide) 33 (by decide) q) (by decide))]; exact F_pays
    have F_toSell_ : f_29 (rt 49) = .inl (K 0, 4, .inl g_toSell) := by rw [ef_29, va_up_ne _ _ (fun q => absurd (hC.1.2 49 (by decide) 33 (by decide) q) (by decide))]; exact F_toSell
    have F_toPay_ : f_29 (rt 50) = .inl (K 0, 4, .inl g_toPay) := by rw [ef_29, va_up_ne _ _ (fun q => absurd (hC.1.2 50 (by decide) 33 (by decide) q) (by decide))]; exact F_toPay
    have F_m := F_m_
    have F_saleTick := F_saleTick_
    have F_saleReader := F_saleReader_
    have F_salePage := F_salePage_
    have F_salePlace := F_salePlace_
    have F_saleOf := F_saleOf_
    have F_price := F_price_
    have F_state := F_state_
    have F_pressTick := F_pressTick_
    have F_pays := F_pays_
    have F_toSell := F_toSell_
    have F_toPay := F_toPay_
    have F_saleWait : f_29 (rt 33) = .inl (K 0, 1000, .inl g_28) := by rw [ef_29, va_up_self]
    have hC : mC rt L f_29 fm := ⟨hC.1, F_m, hC.2.2.1, hC.2.2.2⟩
    refine lv_aload_n hx hb dX6_sell_105 rfl (lv_at hl 2 rfl) ?_
    refine g_get (ci := 6) (v := .ref (rt 34)) (C := RX6) (T := TX6) (N := 51) hx hb hts uB6 hown hK hP (hC.1.1 51 (by decide)) F_m rfl 34 (by decide) wm_11 (hC.2.2.2 34 (by decide)) dX6_sell_106 ?_
    refine lv_iload hx hb dX6_sell_109 (lv_at hl 1 rfl) ?_
    refine lv_iconst (v := 0) hx hb dX6_sell_111 (by decide) ?_
    refine g_iast hx hb hK hP hD hS (hC.1.1 34 (by decide)) F_pressTick (vp_in_nI (by omega) (by decide)) dX6_sell_112 (fun H locs hP hD hS => ?_)
    obtain ⟨g_30, eg_30⟩ : ∃ z9, z9 = upd g_pressTick (Int32.toNatClampNeg (nI ns)) 0 := ⟨_, rfl⟩
    rw [← eg_30] at hP hD
    obtain ⟨f_31, ef_31⟩ : ∃ z9, z9 = va_up f_29 (rt 34) (.inl (K 0, 1000, .inl g_30)) := ⟨_, rfl⟩
    have hP : va_P (dC, dI) vwCl (va_pl L f_31) H := by rw [ef_31]; exact hP
    have hD : va_D A (va_pl L f_31) := by rw [ef_31]; exact hD
    have F_m_ : f_31 (rt 51) = .inr (6, fm) := by rw [ef_31, va_up_ne _ _ (fun q => absurd (hC.1.2 51 (by decide) 34 (by decide) q) (by decide))]; exact F_m
    have F_saleTick_ : f_31 (rt 26) = .inl (K 0, 1000, .inl g_2) := by rw [ef_31, va_up_ne _ _ (fun q => absurd (hC.1.2 26 (by decide) 34 (by decide) q) (by decide))]; exact F_saleTick
    have F_saleReader_ : f_31 (rt 27) = .inl (K 0, 1000, .inl g_4) := by rw [ef_31, va_up_ne _ _ (fun q => absurd (hC.1.2 27 (by decide) 34 (by decide) q) (by decide))]; exact F_saleReader
    have F_salePage_ : f_31 (rt 28) = .inl (K 0, 1000, .inl g_6) := by rw [ef_31, va_up_ne _ _ (fun q => absurd (hC.1.2 28 (by decide) 34 (by decide) q) (by decide))]; exact F_salePage
    have F_salePlace_ : f_31 (rt 29) = .inl (K 0, 1000, .inl g_8) := by rw [ef_31, va_up_ne _ _ (fun q => absurd (hC.1.2 29 (by decide) 34 (by decide) q) (by decide))]; exact F_salePlace
    have F_saleOf_ : f_31 (rt 30) = .inl (K 0, 1000, .inl g_10) := by rw [ef_31, va_up_ne _ _ (fun q => absurd (hC.1.2 30 (by decide) 34 (by decide) q) (by decide))]; exact F_saleOf
    have F_price_ : f_31 (rt 31) = .inl (K 0, 1000, .inl g_13) := by rw [ef_31, va_up_ne _ _ (fun q => absurd (hC.1.2 31 (by decide) 34 (by decide) q) (by decide))]; exact F_price
    have F_state_ : f_31 (rt 32) = .inl (K 0, 1000, .inl g_26) := by rw [ef_31, va_up_ne _ _ (fun q => absurd (hC.1.2 32 (by decide) 34 (by decide) q) (by decide))]; exact F_state
    have F_saleWait_ : f_31 (rt 33) = .inl (K 0, 1000, .inl g_28) := by rw [ef_31, va_up_ne _ _ (fun q => absurd (hC.1.2 33 (by decide) 34 (by decide) q) (by decide))]; exact F_saleWait
    have F_pays_ : f_31 (rt 11) = .inl (K 0, 40, .inl g_pays) := by rw [ef_31, va_up_ne _ _ (fun q => absurd (hC.1.2 11 (by decide) 34 (by decide) q) (by decide))]; exact F_pays
    have F_toSell_ : f_31 (rt 49) = .inl (K 0, 4, .inl g_toSell) := by rw [ef_31, va_up_ne _ _ (fun q => absurd (hC.1.2 49 (by decide) 34 (by decide) q) (by decide))]; exact F_toSell
    have F_toPay_ : f_31 (rt 50) = .inl (K 0, 4, .inl g_toPay) := by rw [ef_31, va_up_ne _ _ (fun q => absurd (hC.1.2 50 (by decide) 34 (by decide) q) (by decide))]; exact F_toPay
    have F_m := F_m_
    have F_saleTick := F_saleTick_
    have F_saleReader := F_saleReader_
    have F_salePage := F_salePage_
    have F_salePlace := F_salePlace_
    have F_saleOf := F_saleOf_
    have F_price := F_price_
    have F_state := F_state_
    have F_saleWait := F_saleWait_
    have F_pays := F_pays_
    have F_toSell := F_toSell_
    have F_toPay := F_toPay_
    have F_pressTick : f_31 (rt 34) = .inl (K 0, 1000, .inl g_30) := by rw [ef_31, va_up_self]
    have hC : mC rt L f_31 fm := ⟨hC.1, F_m, hC.2.2.1, hC.2.2.2⟩
    refine lv_aload_n hx hb dX6_sell_113 rfl (lv_at hl 2 rfl) ?_
    refine lv_dup hx hb dX6_sell_114 rfl ?_
    refine g_get (ci := 6) (v := .int (nI ns)) (C := RX6) (T := TX6) (N := 51) hx hb hts uB6 hown hK hP (hC.1.1 51 (by decide)) F_m rfl 25 (by decide) wm_4 I_sales dX6_sell_115 ?_
    refine lv_iconst (v := 1) hx hb dX6_sell_118 (by decide) ?_
    refine lv_iadd hx hb dX6_sell_119 ?_
    refine lv_topi (fun x_32 ex_32 => ?_)
    obtain rfl : x_32 = nI (ns + 1) := ex_32.trans (nI_1 ns)
    refine g_put (ci := 6) (v := .int (nI (ns + 1))) (ty := .int) (C := RX6) (T := TX6) (N := 51) hx hb hts uB6 tyX6 tyX6_ok nmX6 hown hK hP hD hS (hC.1.1 51 (by decide)) F_m rfl 25 (by decide) wm_4 rfl (by decide +kernel) rfl rfl (by rw [hC.2.2.1]; decide) dX6_sell_120 (fun H locs hP hD hS => ?_)
    obtain ⟨fs_33, efs_33⟩ : ∃ z9, z9 = List.set fm 25 (.int (nI (ns + 1))) := ⟨_, rfl⟩
    rw [← efs_33] at hP hD
    have hlen_ : fs_33.length = 51 := by rw [efs_33, List.length_set]; exact hC.2.2.1
    have I_tick : fs_33[1]? = some (.int (nI tk)) := by rw [efs_33, List.getElem?_set_ne (by decide)]; exact I_tick
    have I_wait : fs_33[4]? = some (.int wt) := by rw [efs_33, List.getElem?_set_ne (by decide)]; exact I_wait
    have I_sales : fs_33[25]? = some (.int (nI (ns + 1))) := by rw [efs_33]; exact List.getElem?_set_self (by rw [hC.2.2.1]; decide)
    have hmr_ : ∀ k ∈ mArr, fs_33[k]? = some (.ref (rt k)) := fun k h => by rw [efs_33, List.getElem?_set_ne (fun q => by rw [← q] at h; exact absurd h (by decide))]; exact hC.2.2.2 k h
    obtain ⟨f_34, ef_34⟩ : ∃ z9, z9 = va_up f_31 (rt 51) (.inr (6, fs_33)) := ⟨_, rfl⟩
    have hP : va_P (dC, dI) vwCl (va_pl L f_34) H := by rw [ef_34]; exact hP
    have hD : va_D A (va_pl L f_34) := by rw [ef_34]; exact hD
    have F_saleTick_ : f_34 (rt 26) = .inl (K 0, 1000, .inl g_2) := by rw [ef_34, va_up_ne _ _ (fun q => absurd (hC.1.2 26 (by decide) 51 (by decide) q) (by decide))]; exact F_saleTick
    have F_saleReader_ : f_34 (rt 27) = .inl (K 0, 1000, .inl g_4) := by rw [ef_34, va_up_ne _ _ (fun q => absurd (hC.1.2 27 (by decide) 51 (by decide) q) (by decide))]; exact F_saleReader
    have F_salePage_ : f_34 (rt 28) = .inl (K 0, 1000, .inl g_6) := by rw [ef_34, va_up_ne _ _ (fun q => absurd (hC.1.2 28 (by decide) 51 (by decide) q) (by decide))]; exact F_salePage
    have F_salePlace_ : f_34 (rt 29) = .inl (K 0, 1000, .inl g_8) := by rw [ef_34, va_up_ne _ _ (fun q => absurd (hC.1.2 29 (by decide) 51 (by decide) q) (by decide))]; exact F_salePlace
    have F_saleOf_ : f_34 (rt 30) = .inl (K 0, 1000, .inl g_10) := by rw [ef_34, va_up_ne _ _ (fun q => absurd (hC.1.2 30 (by decide) 51 (by decide) q) (by decide))]; exact F_saleOf
    have F_price_ : f_34 (rt 31) = .inl (K 0, 1000, .inl g_13) := by rw [ef_34, va_up_ne _ _ (fun q => absurd (hC.1.2 31 (by decide) 51 (by decide) q) (by decide))]; exact F_price
    have F_state_ : f_34 (rt 32) = .inl (K 0, 1000, .inl g_26) := by rw [ef_34, va_up_ne _ _ (fun q => absurd (hC.1.2 32 (by decide) 51 (by decide) q) (by decide))]; exact F_state
    have F_saleWait_ : f_34 (rt 33) = .inl (K 0, 1000, .inl g_28) := by rw [ef_34, va_up_ne _ _ (fun q => absurd (hC.1.2 33 (by decide) 51 (by decide) q) (by decide))]; exact F_saleWait
    have F_pressTick_ : f_34 (rt 34) = .inl (K 0, 1000, .inl g_30) := by rw [ef_34, va_up_ne _ _ (fun q => absurd (hC.1.2 34 (by decide) 51 (by decide) q) (by decide))]; exact F_pressTick
    have F_pays_ : f_34 (rt 11) = .inl (K 0, 40, .inl g_pays) := by rw [ef_34, va_up_ne _ _ (fun q => absurd (hC.1.2 11 (by decide) 51 (by decide) q) (by decide))]; exact F_pays
    have F_toSell_ : f_34 (rt 49) = .inl (K 0, 4, .inl g_toSell) := by rw [ef_34, va_up_ne _ _ (fun q => absurd (hC.1.2 49 (by decide) 51 (by decide) q) (by decide))]; exact F_toSell
    have F_toPay_ : f_34 (rt 50) = .inl (K 0, 4, .inl g_toPay) := by rw [ef_34, va_up_ne _ _ (fun q => absurd (hC.1.2 50 (by decide) 51 (by decide) q) (by decide))]; exact F_toPay
    have F_saleTick := F_saleTick_
    have F_saleReader := F_saleReader_
    have F_salePage := F_salePage_
    have F_salePlace := F_salePlace_
    have F_saleOf := F_saleOf_
    have F_price := F_price_
    have F_state := F_state_
    have F_saleWait := F_saleWait_
    have F_pressTick := F_pressTick_
    have F_pays := F_pays_
    have F_toSell := F_toSell_
    have F_toPay := F_toPay_
    have F_m : f_34 (rt 51) = .inr (6, fs_33) := by rw [ef_34, va_up_self]
    have hC : mC rt L f_34 fs_33 := ⟨hC.1, F_m, hlen_, hmr_⟩
    exact W.vret hx hb hr (fun t ht hW => ⟨⟨f_34, rfl, ⟨_, by rw [ef_34, efs_33, ef_31, eg_30, ef_29, eg_28, ef_27, eg_26, ef_14, eg_13, ef_11, eg_10, ef_9, eg_8, ef_7, eg_6, ef_5, eg_4, ef_3, eg_2, ex_12]⟩, by show va_P (dC, dI) vwCl (va_pl L f_34) t.heap; rw [ht]; exact hP⟩, hS.F ht⟩) hS.2.2 dX6_sell_123
end
section
theorem wm_126 : Cond.methodLink RX6 238 yX6_goesBy ∈ lw_B := lb_4 120 (by decide +kernel) rfl
theorem wm_127 : Cond.instanceMethod yX6_goesBy ∈ lw_B := lb_4 122 (by decide +kernel) rfl
theorem wm_128 : Cond.selects RX6 yX6_goesBy yX6_goesBy ∈ lw_B := lb_0 30 (by decide +kernel) rfl
theorem wm_129 : Cond.code yX6_goesBy cX6_goesBy 6 none ∈ lw_B := lb_4 123 (by decide +kernel) rfl
theorem dX6_tick_0 : decode cX6_tick 0 = .ok (.iload_n 1, 1) := by decide +kernel
theorem dX6_tick_1 : decode cX6_tick 1 = .ok (.iconst 1, 1) := by decide +kernel
theorem dX6_tick_2 : decode cX6_tick 2 = .ok (.bipush 100, 2) := by decide +kernel
theorem dX6_tick_4 : decode cX6_tick 4 = .ok (.invokestatic 136, 3) := by decide +kernel
theorem dX6_tick_7 : decode cX6_tick 7 = .ok (.ifCond .eq 15, 3) := by decide +kernel
theorem dX6_tick_10 : decode cX6_tick 10 = .ok (.aload_n 0, 1) := by decide +kernel
theorem dX6_tick_11 : decode cX6_tick 11 = .ok (.getfield 152, 3) := by decide +kernel
theorem dX6_tick_14 : decode cX6_tick 14 = .ok (.iload_n 1, 1) := by decide +kernel
theorem dX6_tick_15 : decode cX6_tick 15 = .ok (.iadd, 1) := by decide +kernel
theorem dX6_tick_16 : decode cX6_tick 16 = .ok (.sipush 10000, 3) := by decide +kernel
theorem dX6_tick_19 : decode cX6_tick 19 = .ok (.if_icmp .le 5, 3) := by decide +kernel
theorem dX6_tick_22 : decode cX6_tick 22 = .ok (.iconst (-1), 1) := by decide +kernel
theorem dX6_tick_23 : decode cX6_tick 23 = .ok (.ireturn, 1) := by decide +kernel
theorem dX6_tick_24 : decode cX6_tick 24 = .ok (.iconst 0, 1) := by decide +kernel
theorem dX6_tick_25 : decode cX6_tick 25 = .ok (.istore_n 2, 1) := by decide +kernel
theorem dX6_tick_26 : decode cX6_tick 26 = .ok (.iload_n 2, 1) := by decide +kernel
theorem dX6_tick_27 : decode cX6_tick 27 = .ok (.iload_n 1, 1) := by decide +kernel
theorem dX6_tick_28 : decode cX6_tick 28 = .ok (.if_icmp .ge 13, 3) := by decide +kernel
theorem dX6_tick_31 : decode cX6_tick 31 = .ok (.aload_n 0, 1) := by decide +kernel
theorem dX6_tick_32 : decode cX6_tick 32 = .ok (.invokevirtual 238, 3) := by decide +kernel
theorem dX6_tick_35 : decode cX6_tick 35 = .ok (.iinc 2 1, 3) := by decide +kernel
theorem dX6_tick_38 : decode cX6_tick 38 = .ok (.goto (-12), 3) := by decide +kernel
theorem dX6_tick_41 : decode cX6_tick 41 = .ok (.aload_n 0, 1) := by decide +kernel
theorem dX6_tick_42 : decode cX6_tick 42 = .ok (.getfield 152, 3) := by decide +kernel
theorem dX6_tick_45 : decode cX6_tick 45 = .ok (.ireturn, 1) := by decide +kernel
end
section
theorem up3 {f : Nat → va_E} {a b c : Nat} (hab : a ≠ b) (hac : a ≠ c) (hbc : b ≠ c) (x x' y y' z : va_E) : va_up (va_up (va_up (va_up (va_up f a x) b y) c z) a x') b y' = va_up (va_up (va_up f a x') b y') c z := by
  funext q; simp only [va_up]; by_cases h1 : q = b <;> by_cases h2 : q = a <;> by_cases h3 : q = c <;> simp_all
theorem up3z {f : Nat → va_E} {a b c : Nat} (hab : a ≠ b) (hac : a ≠ c) (hbc : b ≠ c) (x x' y y' z z' : va_E) : va_up (va_up (va_up (va_up (va_up (va_up f a x) b y) c z) a x') b y') c z' = va_up (va_up (va_up f a x') b y') c z' := by
  funext q; simp only [va_up]; by_cases h1 : q = b <;> by_cases h2 : q = a <;> by_cases h3 : q = c <;> simp_all
theorem up3i {f : Nat → va_E} {a b c : Nat} {x y z : va_E} (ha : f a = x) (hb : f b = y) (hc : f c = z) : f = va_up (va_up (va_up f a x) b y) c z := by
  rw [← g_upself ha, ← g_upself hb, ← g_upself hc]
theorem set_self9 {l : List Value} {i : Nat} {v : Value} (h : l[i]? = some v) : l.set i v = l := by
  apply List.ext_getElem?
  intro j
  by_cases q : i = j
  · subst q
    rw [List.getElem?_set_self (List.getElem?_eq_some_iff.mp h).1]; exact h.symm
  · rw [List.getElem?_set_ne q]

set_option maxHeartbeats 4000000 in
set_option maxRecDepth 100000 in
theorem um_tick (l : Launch) (dC : Nat → ClassId) (dI : Nat → Nat → Nat) (K : Nat → ClassId) (L : List Nat) (f : Nat → va_E) (rt : Nat → Nat) {fm : List Value} (hC : mC rt L f fm) {g_state : Nat → Int32} (F_state : f (rt 32) = .inl (K 0, 1000, .inl g_state)) {g_saleTick : Nat → Int32} (F_saleTick : f (rt 26) = .inl (K 0, 1000, .inl g_saleTick)) {g_saleWait : Nat → Int32} (F_saleWait : f (rt 33) = .inl (K 0, 1000, .inl g_saleWait)) {g_sort : Nat → Int32} (F_sort : f (rt 10) = .inl (K 0, 40, .inl g_sort)) {g_dayBudget : Nat → Int32} (F_dayBudget : f (rt 15) = .inl (K 0, 40, .inl g_dayBudget)) {g_throttle : Nat → Int32} (F_throttle : f (rt 19) = .inl (K 0, 40, .inl g_throttle)) {g_saleOf : Nat → Int32} (F_saleOf : f (rt 30) = .inl (K 0, 1000, .inl g_saleOf)) {g_pays : Nat → Int32} (F_pays : f (rt 11) = .inl (K 0, 40, .inl g_pays)) {g_price : Nat → Int32} (F_price : f (rt 31) = .inl (K 0, 1000, .inl g_price)) {ns nc tk : Nat} {pc9 : Int32} (I_sales : fm[25]? = some (.int (nI ns))) (I_campaigns : fm[9]? = some (.int (nI nc))) (I_tick : fm[1]? = some (.int (nI tk))) (I_pace : fm[3]? = some (.int pc9)) (x : Int32) (hns : ns ≤ 1000) (hso : ∀ j, j < ns → vp_in (g_saleOf j) 40) (hnc : nc ≤ 40) (htk : tk ≤ 10000) (hLn : gN L) : gMi l yX6_tick cX6_tick 3 3 (dC, dI) K L f [.ref (rt 51), .int x] (fun r f' => (¬ ((1 ≤ x ∧ x ≤ 100) ∧ nI tk + x ≤ 10000) ∧ r = (-1) ∧ f' = f) ∨ (((1 ≤ x ∧ x ≤ 100) ∧ nI tk + x ≤ 10000) ∧ ∃ N : Nat, N ≤ 100 ∧ x = nI N ∧ tk + N ≤ 10000 ∧ r = nI (tk + N) ∧ ∃ g1 g2 : Nat → Int32, f' = va_up (va_up (va_up f (rt 51) (.inr (6, List.set fm 1 (.int (nI (tk + N)))))) (rt 32) (.inl (K 0, 1000, .inl g1))) (rt 19) (.inl (K 0, 40, .inl g2)))) := by
  refine Met.ofW (cc := cX6_tick) (maxL := 3) (ret := (some .int)) (by decide) rfl ?_
  intro p e s m args below meth c s₁ B hml hv
  obtain ⟨rfl, hP, hK⟩ := hv
  have F_m := hC.2.1
  have hD : va_D (fun q : Nat => q ∈ L) (va_pl L f) := g_D hLn (fun a h => h) f
  generalize hAe : (fun q : Nat => q ∈ L) = A at hD ⊢
  have hx := B.exec
  have hb := B.bytes
  have hr := B.returns
  have hlocks := B.notSynchronized
  have hts0 := atoms_spec (ws := Cond.code yX6_tick cX6_tick 3 (some .int) :: lw_B) B.pre
  have hts : ∀ w ∈ lw_B, w.before _ s = true := fun w h => hts0 w (List.mem_cons_of_mem _ h)
  have hown : s.vm.findClass RX6 = some m.cls := findClass_of_methodNamed B.named
  have hS : va_S A s.heap s.heap [] := va_S.rf
  have hl := lv_entry ([.ref (rt 51), .int x]) (n := 3) (Nat.le_of_ble_eq_true rfl)
  rw [lg_entry_eq]
  generalize (lg_sl ([.ref (rt 51), .int x]) ++ List.replicate (3 - (lg_sl ([.ref (rt 51), .int x])).length) Slot.unset).toArray = ls at hl ⊢
  have hl : lv_has ls 3 [(0, .ref (rt 51)), (1, .int x)] := hl
  refine lv_iload_n hx hb dX6_tick_0 rfl (lv_at hl 1 rfl) ?_
  refine lv_iconst (v := 1) hx hb dX6_tick_1 (by decide) ?_
  refine lv_bipush (v := 100) hx hb dX6_tick_2 (by decide) ?_
  refine k_S ⟨hx, hb, hml, hown, hts⟩ (c_in l x 1 100) 3 wm_69 wm_70 wm_8 wm_71 (by decide +kernel) ⟨Nat.le_of_ble_eq_true rfl, Nat.le_of_ble_eq_true rfl⟩ rfl hl.1 rfl (Nat.le_of_ble_eq_true rfl) dX6_tick_4 ⟨Nat.le_of_ble_eq_true rfl, Nat.le_of_ble_eq_true rfl⟩ hS hP (fun r_1 H locs hpr_1 hP hS => ?_)
  refine lv_if_eq (tgt := 22) hx hb dX6_tick_7 (by decide) (fun c_2 => ?_) (fun c_2 => ?_)
  · skip
    have g_2 := k_ff hpr_1 c_2
    refine lv_iconst (v := (-1)) hx hb dX6_tick_22 (by decide) ?_
    exact W.iret (v := (-1)) hx hb hr (fun t ht hW => ⟨⟨(-1), f, rfl, (Or.inl ⟨by simp only [Int32.lt_iff_toInt_lt, Int32.le_iff_toInt_le, ← Int32.toInt_inj, Int32.reduceToInt] at g_2 ⊢; omega, rfl, rfl⟩), by show va_P (dC, dI) vwCl (va_pl L f) t.heap; rw [ht]; exact hP⟩, hS.F ht⟩) hS.2.2 dX6_tick_23
  · skip
    have g_2 := k_ft hpr_1 c_2
    obtain ⟨N, hN1, hN, rfl⟩ := k_r100 g_2
    refine lv_aload_n hx hb dX6_tick_10 rfl (lv_at hl 0 rfl) ?_
    refine g_get (ci := 6) (v := .int (nI tk)) (C := RX6) (T := TX6) (N := 51) hx hb hts uB6 hown hK hP (hC.1.1 51 (by decide)) F_m rfl 1 (by decide) wm_13 I_tick dX6_tick_11 ?_
    refine lv_iload_n hx hb dX6_tick_14 rfl (lv_at hl 1 rfl) ?_
    refine lv_iadd hx hb dX6_tick_15 ?_
    refine lv_topi (fun x_3 ex_3 => ?_)
    refine lv_sipush (v := 10000) hx hb dX6_tick_16 (by decide) ?_
    refine lv_icmp_le (tgt := 24) hx hb dX6_tick_19 (by decide) (fun c_4 => ?_) (fun c_4 => ?_)
    · skip
      rw [ex_3] at c_4
      refine lv_iconst (v := 0) hx hb dX6_tick_24 (by decide) ?_
      refine lv_istore_n (lv' := [(2, .int 0), (0, .ref (rt 51)), (1, .int (nI N))]) hx hb dX6_tick_25 rfl hl (by decide) rfl (fun ls hl => ?_)
      have hn1 : rt 51 ≠ rt 32 := (fun q => absurd (hC.1.2 51 (by decide) 32 (by decide) q) (by decide))
      have hn2 : rt 51 ≠ rt 19 := (fun q => absurd (hC.1.2 51 (by decide) 19 (by decide) q) (by decide))
      have hn3 : rt 32 ≠ rt 19 := (fun q => absurd (hC.1.2 32 (by decide) 19 (by decide) q) (by decide))
      refine k_loop (fun n H locs ls => ∃ (j : Nat) (fv : Nat → va_E) (g1 g2 : Nat → Int32), j + n = N ∧ fv = va_up (va_up (va_up f (rt 51) (.inr (6, List.set fm 1 (.int (nI (tk + j)))))) (rt 32) (.inl (K 0, 1000, .inl g1))) (rt 19) (.inl (K 0, 40, .inl g2)) ∧ va_P (dC, dI) vwCl (va_pl L fv) H ∧ va_S A s.heap H locs ∧ lv_has ls 3 [(0, .ref (rt 51)), (1, .int (nI N)), (2, .int (nI j))]) (fun H locs ls hI => ?_) (fun n H locs ls hI ih => ?_) N _ _ _ ⟨0, f, _, _, by omega, up3i (by rw [Nat.add_zero, set_self9 I_tick]; exact F_m) F_state F_throttle, hP, hS, lv_sub hl [1, 2, 0] rfl⟩
      · skip
        obtain ⟨j, fv, g1, g2, hjn, efv, hP, hS, hl⟩ := hI
        obtain ⟨fmj, efm⟩ : ∃ z9, z9 = List.set fm 1 (.int (nI (tk + j))) := ⟨_, rfl⟩
        rw [← efm] at efv
        have F_saleTick : fv (rt 26) = .inl (K 0, 1000, .inl g_saleTick) := by rw [efv, va_up_ne _ _ (fun q => absurd (hC.1.2 26 (by decide) 19 (by decide) q) (by decide)), va_up_ne _ _ (fun q => absurd (hC.1.2 26 (by decide) 32 (by decide) q) (by decide)), va_up_ne _ _ (fun q => absurd (hC.1.2 26 (by decide) 51 (by decide) q) (by decide))]; exact F_saleTick
        have F_saleWait : fv (rt 33) = .inl (K 0, 1000, .inl g_saleWait) := by rw [efv, va_up_ne _ _ (fun q => absurd (hC.1.2 33 (by decide) 19 (by decide) q) (by decide)), va_up_ne _ _ (fun q => absurd (hC.1.2 33 (by decide) 32 (by decide) q) (by decide)), va_up_ne _ _ (fun q => absurd (hC.1.2 33 (by decide) 51 (by decide) q) (by decide))]; exact F_saleWait
        have F_sort : fv (rt 10) = .inl (K 0, 40, .inl g_sort) := by rw [efv, va_up_ne _ _ (fun q => absurd (hC.1.2 10 (by decide) 19 (by decide) q) (by decide)), va_up_ne _ _ (fun q => absurd (hC.1.2 10 (by decide) 32 (by decide) q) (by decide)), va_up_ne _ _ (fun q => absurd (hC.1.2 10 (by decide) 51 (by decide) q) (by decide))]; exact F_sort
        have F_dayBudget : fv (rt 15) = .inl (K 0, 40, .inl g_dayBudget) := by rw [efv, va_up_ne _ _ (fun q => absurd (hC.1.2 15 (by decide) 19 (by decide) q) (by decide)), va_up_ne _ _ (fun q => absurd (hC.1.2 15 (by decide) 32 (by decide) q) (by decide)), va_up_ne _ _ (fun q => absurd (hC.1.2 15 (by decide) 51 (by decide) q) (by decide))]; exact F_dayBudget
        have F_saleOf : fv (rt 30) = .inl (K 0, 1000, .inl g_saleOf) := by rw [efv, va_up_ne _ _ (fun q => absurd (hC.1.2 30 (by decide) 19 (by decide) q) (by decide)), va_up_ne _ _ (fun q => absurd (hC.1.2 30 (by decide) 32 (by decide) q) (by decide)), va_up_ne _ _ (fun q => absurd (hC.1.2 30 (by decide) 51 (by decide) q) (by decide))]; exact F_saleOf
        have F_pays : fv (rt 11) = .inl (K 0, 40, .inl g_pays) := by rw [efv, va_up_ne _ _ (fun q => absurd (hC.1.2 11 (by decide) 19 (by decide) q) (by decide)), va_up_ne _ _ (fun q => absurd (hC.1.2 11 (by decide) 32 (by decide) q) (by decide)), va_up_ne _ _ (fun q => absurd (hC.1.2 11 (by decide) 51 (by decide) q) (by decide))]; exact F_pays
        have F_price : fv (rt 31) = .inl (K 0, 1000, .inl g_price) := by rw [efv, va_up_ne _ _ (fun q => absurd (hC.1.2 31 (by decide) 19 (by decide) q) (by decide)), va_up_ne _ _ (fun q => absurd (hC.1.2 31 (by decide) 32 (by decide) q) (by decide)), va_up_ne _ _ (fun q => absurd (hC.1.2 31 (by decide) 51 (by decide) q) (by decide))]; exact F_price
        have F_m : fv (rt 51) = .inr (6, fmj) := by rw [efv, va_up_ne _ _ hn2, va_up_ne _ _ hn1, va_up_self]
        have F_state : fv (rt 32) = .inl (K 0, 1000, .inl g1) := by rw [efv, va_up_ne _ _ hn3, va_up_self]
        have F_throttle : fv (rt 19) = .inl (K 0, 40, .inl g2) := by rw [efv, va_up_self]
        have I_sales : fmj[25]? = some (.int (nI ns)) := by rw [efm, List.getElem?_set_ne (by decide)]; exact I_sales
        have I_campaigns : fmj[9]? = some (.int (nI nc)) := by rw [efm, List.getElem?_set_ne (by decide)]; exact I_campaigns
        have I_pace : fmj[3]? = some (.int pc9) := by rw [efm, List.getElem?_set_ne (by decide)]; exact I_pace
        have I_tick : fmj[1]? = some (.int (nI (tk + j))) := by rw [efm]; exact List.getElem?_set_self (by rw [hC.2.2.1]; decide)
        have hC : mC rt L fv fmj := ⟨hC.1, F_m, by rw [efm, List.length_set]; exact hC.2.2.1, fun k h => by rw [efm, List.getElem?_set_ne (fun q => by rw [← q] at h; exact absurd h (by decide))]; exact hC.2.2.2 k h⟩
        refine lv_iload_n hx hb dX6_tick_26 rfl (lv_at hl 2 rfl) ?_
        refine lv_iload_n hx hb dX6_tick_27 rfl (lv_at hl 1 rfl) ?_
        refine lv_icmp_ge (tgt := 41) hx hb dX6_tick_28 (by decide) (fun c_5 => ?_) (fun c_5 => ?_)
        · skip
          refine lv_aload_n hx hb dX6_tick_41 rfl (lv_at hl 0 rfl) ?_
          refine g_get (ci := 6) (v := .int (nI (tk + j))) (C := RX6) (T := TX6) (N := 51) hx hb hts uB6 hown hK hP (hC.1.1 51 (by decide)) F_m rfl 1 (by decide) wm_13 I_tick dX6_tick_42 ?_
          exact W.iret (v := nI (tk + j)) hx hb hr (fun t ht hW => ⟨⟨nI (tk + j), fv, rfl, (Or.inr ⟨⟨g_2, c_4⟩, N, hN, rfl, (nI_leI (b := 10000) (by omega) (by decide)).mp (by rw [← nI_add]; exact c_4), by rw [show j = N by omega], g1, g2, by rw [efv, efm, show j = N by omega]⟩), by show va_P (dC, dI) vwCl (va_pl L fv) t.heap; rw [ht]; exact hP⟩, hS.F ht⟩) hS.2.2 dX6_tick_45
        · skip
          exact absurd (nI_le (by omega) (by omega)) c_5
      · skip
        obtain ⟨j, fv, g1, g2, hjn, efv, hP, hS, hl⟩ := hI
        obtain ⟨fmj, efm⟩ : ∃ z9, z9 = List.set fm 1 (.int (nI (tk + j))) := ⟨_, rfl⟩
        rw [← efm] at efv
        have F_saleTick : fv (rt 26) = .inl (K 0, 1000, .inl g_saleTick) := by rw [efv, va_up_ne _ _ (fun q => absurd (hC.1.2 26 (by decide) 19 (by decide) q) (by decide)), va_up_ne _ _ (fun q => absurd (hC.1.2 26 (by decide) 32 (by decide) q) (by decide)), va_up_ne _ _ (fun q => absurd (hC.1.2 26 (by decide) 51 (by decide) q) (by decide))]; exact F_saleTick
        have F_saleWait : fv (rt 33) = .inl (K 0, 1000, .inl g_saleWait) := by rw [efv, va_up_ne _ _ (fun q => absurd (hC.1.2 33 (by decide) 19 (by decide) q) (by decide)), va_up_ne _ _ (fun q => absurd (hC.1.2 33 (by decide) 32 (by decide) q) (by decide)), va_up_ne _ _ (fun q => absurd (hC.1.2 33 (by decide) 51 (by decide) q) (by decide))]; exact F_saleWait
        have F_sort : fv (rt 10) = .inl (K 0, 40, .inl g_sort) := by rw [efv, va_up_ne _ _ (fun q => absurd (hC.1.2 10 (by decide) 19 (by decide) q) (by decide)), va_up_ne _ _ (fun q => absurd (hC.1.2 10 (by decide) 32 (by decide) q) (by decide)), va_up_ne _ _ (fun q => absurd (hC.1.2 10 (by decide) 51 (by decide) q) (by decide))]; exact F_sort
        have F_dayBudget : fv (rt 15) = .inl (K 0, 40, .inl g_dayBudget) := by rw [efv, va_up_ne _ _ (fun q => absurd (hC.1.2 15 (by decide) 19 (by decide) q) (by decide)), va_up_ne _ _ (fun q => absurd (hC.1.2 15 (by decide) 32 (by decide) q) (by decide)), va_up_ne _ _ (fun q => absurd (hC.1.2 15 (by decide) 51 (by decide) q) (by decide))]; exact F_dayBudget
        have F_saleOf : fv (rt 30) = .inl (K 0, 1000, .inl g_saleOf) := by rw [efv, va_up_ne _ _ (fun q => absurd (hC.1.2 30 (by decide) 19 (by decide) q) (by decide)), va_up_ne _ _ (fun q => absurd (hC.1.2 30 (by decide) 32 (by decide) q) (by decide)), va_up_ne _ _ (fun q => absurd (hC.1.2 30 (by decide) 51 (by decide) q) (by decide))]; exact F_saleOf
        have F_pays : fv (rt 11) = .inl (K 0, 40, .inl g_pays) := by rw [efv, va_up_ne _ _ (fun q => absurd (hC.1.2 11 (by decide) 19 (by decide) q) (by decide)), va_up_ne _ _ (fun q => absurd (hC.1.2 11 (by decide) 32 (by decide) q) (by decide)), va_up_ne _ _ (fun q => absurd (hC.1.2 11 (by decide) 51 (by decide) q) (by decide))]; exact F_pays
        have F_price : fv (rt 31) = .inl (K 0, 1000, .inl g_price) := by rw [efv, va_up_ne _ _ (fun q => absurd (hC.1.2 31 (by decide) 19 (by decide) q) (by decide)), va_up_ne _ _ (fun q => absurd (hC.1.2 31 (by decide) 32 (by decide) q) (by decide)), va_up_ne _ _ (fun q => absurd (hC.1.2 31 (by decide) 51 (by decide) q) (by decide))]; exact F_price
        have F_m : fv (rt 51) = .inr (6, fmj) := by rw [efv, va_up_ne _ _ hn2, va_up_ne _ _ hn1, va_up_self]
        have F_state : fv (rt 32) = .inl (K 0, 1000, .inl g1) := by rw [efv, va_up_ne _ _ hn3, va_up_self]
        have F_throttle : fv (rt 19) = .inl (K 0, 40, .inl g2) := by rw [efv, va_up_self]
        have I_sales : fmj[25]? = some (.int (nI ns)) := by rw [efm, List.getElem?_set_ne (by decide)]; exact I_sales
        have I_campaigns : fmj[9]? = some (.int (nI nc)) := by rw [efm, List.getElem?_set_ne (by decide)]; exact I_campaigns
        have I_pace : fmj[3]? = some (.int pc9) := by rw [efm, List.getElem?_set_ne (by decide)]; exact I_pace
        have I_tick : fmj[1]? = some (.int (nI (tk + j))) := by rw [efm]; exact List.getElem?_set_self (by rw [hC.2.2.1]; decide)
        have hC : mC rt L fv fmj := ⟨hC.1, F_m, by rw [efm, List.length_set]; exact hC.2.2.1, fun k h => by rw [efm, List.getElem?_set_ne (fun q => by rw [← q] at h; exact absurd h (by decide))]; exact hC.2.2.2 k h⟩
        refine lv_iload_n hx hb dX6_tick_26 rfl (lv_at hl 2 rfl) ?_
        refine lv_iload_n hx hb dX6_tick_27 rfl (lv_at hl 1 rfl) ?_
        refine lv_icmp_ge (tgt := 41) hx hb dX6_tick_28 (by decide) (fun c_6 => ?_) (fun c_6 => ?_)
        · skip
          exact absurd c_6 (nI_ge (by omega) (by omega))
        · skip
          refine lv_aload_n hx hb dX6_tick_31 rfl (lv_at hl 0 rfl) ?_
          refine gc_Mv (ci := 6) ⟨hx, hb, hml, hown, hts⟩ (um_goesBy l dC dI K L fv rt hC F_state F_saleTick F_saleWait F_sort F_dayBudget F_throttle F_saleOf F_pays F_price I_sales I_campaigns I_tick I_pace hns hso hnc hLn) 0 wm_126 wm_127 wm_128 wm_8 wm_129 (by decide +kernel) ⟨Nat.le_of_ble_eq_true rfl, Nat.le_of_ble_eq_true rfl⟩ hK rfl (hC.1.1 51 (by decide)) F_m rfl hl.1 rfl (Nat.le_of_ble_eq_true rfl) dX6_tick_32 ⟨Nat.le_of_ble_eq_true rfl, Nat.le_of_ble_eq_true rfl⟩ (fun a h => by rw [← hAe]; exact h) hS hP (fun fw H locs hpw hP hS => ?_)
          obtain ⟨g3, g4, efw⟩ : ∃ g3 g4 : Nat → Int32, fw = va_up (va_up (va_up f (rt 51) (.inr (6, List.set fm 1 (.int (nI (tk + (j + 1))))))) (rt 32) (.inl (K 0, 1000, .inl g3))) (rt 19) (.inl (K 0, 40, .inl g4)) := by
            rcases hpw with ⟨g3, hpw⟩ | ⟨g3, g4, hpw⟩
            · exact ⟨g3, _, by rw [hpw, efv, efm, List.set_set]; exact up3 hn1 hn2 hn3 _ _ _ _ _⟩
            · exact ⟨g3, g4, by rw [hpw, efv, efm, List.set_set]; exact up3z hn1 hn2 hn3 _ _ _ _ _ _⟩
          obtain ⟨x_7, ex_7⟩ : ∃ y : Int32, y = (nI j) + 1 := ⟨_, rfl⟩
          refine lv_iinc (v := x_7) (lv' := [(2, .int x_7), (0, .ref (rt 51)), (1, .int (nI N))]) hx hb dX6_tick_35 hl (k := 2) rfl (by rw [ex_7]; rfl) (by decide) rfl (fun ls hl => ?_)
          refine lv_goto (tgt := 26) hx hb dX6_tick_38 (by decide) ?_
          obtain rfl : x_7 = nI (j + 1) := ex_7.trans (nI_1 j)
          exact ih _ _ _ ⟨j + 1, fw, g3, g4, by omega, efw, hP, hS, lv_sub hl [1, 2, 0] rfl⟩
    · skip
      rw [ex_3] at c_4
      refine lv_iconst (v := (-1)) hx hb dX6_tick_22 (by decide) ?_
      exact W.iret (v := (-1)) hx hb hr (fun t ht hW => ⟨⟨(-1), f, rfl, (Or.inl ⟨by simp only [Int32.lt_iff_toInt_lt, Int32.le_iff_toInt_le, ← Int32.toInt_inj, Int32.reduceToInt] at g_2 c_4 ⊢; omega, rfl, rfl⟩), by show va_P (dC, dI) vwCl (va_pl L f) t.heap; rw [ht]; exact hP⟩, hS.F ht⟩) hS.2.2 dX6_tick_23
end
section
theorem i_vc : Claimed_1_1 ∧ Claimed_1_2 := sorry
end
