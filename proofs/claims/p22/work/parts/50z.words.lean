theorem wm_126 : Cond.methodLink RX6 238 yX6_goesBy ∈ lw_B := lb_4 120 (by decide +kernel) rfl
theorem wm_127 : Cond.instanceMethod yX6_goesBy ∈ lw_B := lb_4 122 (by decide +kernel) rfl
theorem wm_128 : Cond.selects RX6 yX6_goesBy yX6_goesBy ∈ lw_B := lb_0 30 (by decide +kernel) rfl
theorem wm_129 : Cond.code yX6_goesBy cX6_goesBy 6 none ∈ lw_B := lb_4 123 (by decide +kernel) rfl
theorem dX6_tick_0 : decode cX6_tick 0 = .ok (.iload_n 1, 1) := by decide +kernel
theorem dX6_tick_1 : decode cX6_tick 1 = .ok (.iconst 1, 1) := by decide +kernel
theorem dX6_tick_2 : decode cX6_tick 2 = .ok (.bipush 100, 2) := by decide +kernel
theorem dX6_tick_4 : decode cX6_tick 4 = .ok (.invokestatic 136, 3) := by decide +kernel
theorem dX6_tick_7 : decode cX6_tick 7 = .ok (.ifCond .eq 15, 3) := by decide +kernel
theorem dX6_tick_10 : decode cX6_tick 10 = .ok (.aload_n 0, 1) := by decide +kernel
theorem dX6_tick_11 : decode cX6_tick 11 = .ok (.getfield 152, 3) := by decide +kernel
theorem dX6_tick_14 : decode cX6_tick 14 = .ok (.iload_n 1, 1) := by decide +kernel
theorem dX6_tick_15 : decode cX6_tick 15 = .ok (.iadd, 1) := by decide +kernel
theorem dX6_tick_16 : decode cX6_tick 16 = .ok (.sipush 10000, 3) := by decide +kernel
theorem dX6_tick_19 : decode cX6_tick 19 = .ok (.if_icmp .le 5, 3) := by decide +kernel
theorem dX6_tick_22 : decode cX6_tick 22 = .ok (.iconst (-1), 1) := by decide +kernel
theorem dX6_tick_23 : decode cX6_tick 23 = .ok (.ireturn, 1) := by decide +kernel
theorem dX6_tick_24 : decode cX6_tick 24 = .ok (.iconst 0, 1) := by decide +kernel
theorem dX6_tick_25 : decode cX6_tick 25 = .ok (.istore_n 2, 1) := by decide +kernel
theorem dX6_tick_26 : decode cX6_tick 26 = .ok (.iload_n 2, 1) := by decide +kernel
theorem dX6_tick_27 : decode cX6_tick 27 = .ok (.iload_n 1, 1) := by decide +kernel
theorem dX6_tick_28 : decode cX6_tick 28 = .ok (.if_icmp .ge 13, 3) := by decide +kernel
theorem dX6_tick_31 : decode cX6_tick 31 = .ok (.aload_n 0, 1) := by decide +kernel
theorem dX6_tick_32 : decode cX6_tick 32 = .ok (.invokevirtual 238, 3) := by decide +kernel
theorem dX6_tick_35 : decode cX6_tick 35 = .ok (.iinc 2 1, 3) := by decide +kernel
theorem dX6_tick_38 : decode cX6_tick 38 = .ok (.goto (-12), 3) := by decide +kernel
theorem dX6_tick_41 : decode cX6_tick 41 = .ok (.aload_n 0, 1) := by decide +kernel
theorem dX6_tick_42 : decode cX6_tick 42 = .ok (.getfield 152, 3) := by decide +kernel
theorem dX6_tick_45 : decode cX6_tick 45 = .ok (.ireturn, 1) := by decide +kernel
