theorem wm_518 : Cond.methodLink RX5 148 yX5_keepGivenAndPrices ∈ lw_B := lb_2 230 (by decide +kernel) rfl
theorem wm_519 : Cond.instanceMethod yX5_keepGivenAndPrices ∈ lw_B := lb_2 232 (by decide +kernel) rfl
theorem wm_520 : Cond.selects RX5 yX5_keepGivenAndPrices yX5_keepGivenAndPrices ∈ lw_B := lb_0 19 (by decide +kernel) rfl
theorem wm_521 : Cond.code yX5_keepGivenAndPrices cX5_keepGivenAndPrices 5 none ∈ lw_B := lb_2 233 (by decide +kernel) rfl
theorem wm_522 : Cond.methodLink RX5 152 yX5_sell ∈ lw_B := lb_3 11 (by decide +kernel) rfl
theorem wm_523 : Cond.instanceMethod yX5_sell ∈ lw_B := lb_3 13 (by decide +kernel) rfl
theorem wm_524 : Cond.selects RX5 yX5_sell yX5_sell ∈ lw_B := lb_0 21 (by decide +kernel) rfl
theorem wm_525 : Cond.code yX5_sell cX5_sell 7 none ∈ lw_B := lb_3 14 (by decide +kernel) rfl
theorem dX5_come_17 : decode cX5_come 17 = .ok (.aload_n 0, 1) := by decide +kernel
theorem dX5_come_18 : decode cX5_come 18 = .ok (.getfield 11, 3) := by decide +kernel
theorem dX5_come_21 : decode cX5_come 21 = .ok (.iload_n 2, 1) := by decide +kernel
theorem dX5_come_22 : decode cX5_come 22 = .ok (.aaload, 1) := by decide +kernel
theorem dX5_come_23 : decode cX5_come 23 = .ok (.astore_n 3, 1) := by decide +kernel
theorem dX5_come_24 : decode cX5_come 24 = .ok (.aload_n 0, 1) := by decide +kernel
theorem dX5_come_25 : decode cX5_come 25 = .ok (.getfield 138, 3) := by decide +kernel
theorem dX5_come_28 : decode cX5_come 28 = .ok (.sipush 1000, 3) := by decide +kernel
theorem dX5_come_31 : decode cX5_come 31 = .ok (.aload_n 3, 1) := by decide +kernel
theorem dX5_come_32 : decode cX5_come 32 = .ok (.getfield 141, 3) := by decide +kernel
theorem dX5_come_35 : decode cX5_come 35 = .ok (.isub, 1) := by decide +kernel
theorem dX5_come_36 : decode cX5_come 36 = .ok (.if_icmp .le 6, 3) := by decide +kernel
theorem dX5_come_39 : decode cX5_come 39 = .ok (.bipush (-3), 2) := by decide +kernel
theorem dX5_come_41 : decode cX5_come 41 = .ok (.ireturn, 1) := by decide +kernel
theorem dX5_come_42 : decode cX5_come 42 = .ok (.aload_n 0, 1) := by decide +kernel
theorem dX5_come_43 : decode cX5_come 43 = .ok (.iload_n 1, 1) := by decide +kernel
theorem dX5_come_44 : decode cX5_come 44 = .ok (.aload_n 3, 1) := by decide +kernel
theorem dX5_come_45 : decode cX5_come 45 = .ok (.invokevirtual 144, 3) := by decide +kernel
theorem dX5_come_48 : decode cX5_come 48 = .ok (.pop2, 1) := by decide +kernel
theorem dX5_come_49 : decode cX5_come 49 = .ok (.aload_n 0, 1) := by decide +kernel
theorem dX5_come_50 : decode cX5_come 50 = .ok (.aload_n 3, 1) := by decide +kernel
theorem dX5_come_51 : decode cX5_come 51 = .ok (.invokevirtual 148, 3) := by decide +kernel
theorem dX5_come_54 : decode cX5_come 54 = .ok (.aload_n 0, 1) := by decide +kernel
theorem dX5_come_55 : decode cX5_come 55 = .ok (.getfield 138, 3) := by decide +kernel
theorem dX5_come_58 : decode cX5_come 58 = .ok (.istore 4, 2) := by decide +kernel
theorem dX5_come_60 : decode cX5_come 60 = .ok (.iconst 0, 1) := by decide +kernel
theorem dX5_come_61 : decode cX5_come 61 = .ok (.istore 5, 2) := by decide +kernel
theorem dX5_come_63 : decode cX5_come 63 = .ok (.iload 5, 2) := by decide +kernel
theorem dX5_come_65 : decode cX5_come 65 = .ok (.aload_n 3, 1) := by decide +kernel
theorem dX5_come_66 : decode cX5_come 66 = .ok (.getfield 141, 3) := by decide +kernel
theorem dX5_come_69 : decode cX5_come 69 = .ok (.if_icmp .ge 28, 3) := by decide +kernel
theorem dX5_come_72 : decode cX5_come 72 = .ok (.aload_n 0, 1) := by decide +kernel
theorem dX5_come_73 : decode cX5_come 73 = .ok (.getfield 38, 3) := by decide +kernel
theorem dX5_come_76 : decode cX5_come 76 = .ok (.iload 5, 2) := by decide +kernel
theorem dX5_come_78 : decode cX5_come 78 = .ok (.iaload, 1) := by decide +kernel
theorem dX5_come_79 : decode cX5_come 79 = .ok (.iconst (-1), 1) := by decide +kernel
theorem dX5_come_80 : decode cX5_come 80 = .ok (.if_icmp .eq 11, 3) := by decide +kernel
theorem dX5_come_83 : decode cX5_come 83 = .ok (.aload_n 0, 1) := by decide +kernel
theorem dX5_come_84 : decode cX5_come 84 = .ok (.iload_n 1, 1) := by decide +kernel
theorem dX5_come_85 : decode cX5_come 85 = .ok (.iload_n 2, 1) := by decide +kernel
theorem dX5_come_86 : decode cX5_come 86 = .ok (.iload 5, 2) := by decide +kernel
theorem dX5_come_88 : decode cX5_come 88 = .ok (.invokevirtual 152, 3) := by decide +kernel
theorem dX5_come_91 : decode cX5_come 91 = .ok (.iinc 5 1, 3) := by decide +kernel
theorem dX5_come_94 : decode cX5_come 94 = .ok (.goto (-31), 3) := by decide +kernel
theorem dX5_come_97 : decode cX5_come 97 = .ok (.aload_n 0, 1) := by decide +kernel
theorem dX5_come_98 : decode cX5_come 98 = .ok (.getfield 138, 3) := by decide +kernel
theorem dX5_come_101 : decode cX5_come 101 = .ok (.iload 4, 2) := by decide +kernel
theorem dX5_come_103 : decode cX5_come 103 = .ok (.isub, 1) := by decide +kernel
theorem dX5_come_104 : decode cX5_come 104 = .ok (.ireturn, 1) := by decide +kernel
