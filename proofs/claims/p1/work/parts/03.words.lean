theorem dX5_isWithin_0 : decode cX5_isWithin 0 = .ok (.iload_n 0, 1) := by decide +kernel
theorem dX5_isWithin_1 : decode cX5_isWithin 1 = .ok (.iload_n 1, 1) := by decide +kernel
theorem dX5_isWithin_2 : decode cX5_isWithin 2 = .ok (.if_icmp .lt 12, 3) := by decide +kernel
theorem dX5_isWithin_5 : decode cX5_isWithin 5 = .ok (.iload_n 0, 1) := by decide +kernel
theorem dX5_isWithin_6 : decode cX5_isWithin 6 = .ok (.iload_n 2, 1) := by decide +kernel
theorem dX5_isWithin_7 : decode cX5_isWithin 7 = .ok (.if_icmp .gt 7, 3) := by decide +kernel
theorem dX5_isWithin_10 : decode cX5_isWithin 10 = .ok (.iconst 1, 1) := by decide +kernel
theorem dX5_isWithin_11 : decode cX5_isWithin 11 = .ok (.goto 4, 3) := by decide +kernel
theorem dX5_isWithin_14 : decode cX5_isWithin 14 = .ok (.iconst 0, 1) := by decide +kernel
theorem dX5_isWithin_15 : decode cX5_isWithin 15 = .ok (.ireturn, 1) := by decide +kernel
theorem dX6_in_0 : decode cX6_in 0 = .ok (.iload_n 0, 1) := by decide +kernel
theorem dX6_in_1 : decode cX6_in 1 = .ok (.iload_n 1, 1) := by decide +kernel
theorem dX6_in_2 : decode cX6_in 2 = .ok (.if_icmp .lt 12, 3) := by decide +kernel
theorem dX6_in_5 : decode cX6_in 5 = .ok (.iload_n 0, 1) := by decide +kernel
theorem dX6_in_6 : decode cX6_in 6 = .ok (.iload_n 2, 1) := by decide +kernel
theorem dX6_in_7 : decode cX6_in 7 = .ok (.if_icmp .gt 7, 3) := by decide +kernel
theorem dX6_in_10 : decode cX6_in 10 = .ok (.iconst 1, 1) := by decide +kernel
theorem dX6_in_11 : decode cX6_in 11 = .ok (.goto 4, 3) := by decide +kernel
theorem dX6_in_14 : decode cX6_in 14 = .ok (.iconst 0, 1) := by decide +kernel
theorem dX6_in_15 : decode cX6_in 15 = .ok (.ireturn, 1) := by decide +kernel
theorem dX5_isReader_0 : decode cX5_isReader 0 = .ok (.iload_n 0, 1) := by decide +kernel
theorem dX5_isReader_1 : decode cX5_isReader 1 = .ok (.ifCond .lt 13, 3) := by decide +kernel
theorem dX5_isReader_4 : decode cX5_isReader 4 = .ok (.iload_n 0, 1) := by decide +kernel
theorem dX5_isReader_5 : decode cX5_isReader 5 = .ok (.bipush 100, 2) := by decide +kernel
theorem dX5_isReader_7 : decode cX5_isReader 7 = .ok (.if_icmp .ge 7, 3) := by decide +kernel
theorem dX5_isReader_10 : decode cX5_isReader 10 = .ok (.iconst 1, 1) := by decide +kernel
theorem dX5_isReader_11 : decode cX5_isReader 11 = .ok (.goto 4, 3) := by decide +kernel
theorem dX5_isReader_14 : decode cX5_isReader 14 = .ok (.iconst 0, 1) := by decide +kernel
theorem dX5_isReader_15 : decode cX5_isReader 15 = .ok (.ireturn, 1) := by decide +kernel
theorem dX5_isSort_0 : decode cX5_isSort 0 = .ok (.iload_n 0, 1) := by decide +kernel
theorem dX5_isSort_1 : decode cX5_isSort 1 = .ok (.ifCond .eq 20, 3) := by decide +kernel
theorem dX5_isSort_4 : decode cX5_isSort 4 = .ok (.iload_n 0, 1) := by decide +kernel
theorem dX5_isSort_5 : decode cX5_isSort 5 = .ok (.iconst 1, 1) := by decide +kernel
theorem dX5_isSort_6 : decode cX5_isSort 6 = .ok (.if_icmp .eq 15, 3) := by decide +kernel
theorem dX5_isSort_9 : decode cX5_isSort 9 = .ok (.iload_n 0, 1) := by decide +kernel
theorem dX5_isSort_10 : decode cX5_isSort 10 = .ok (.bipush 10, 2) := by decide +kernel
theorem dX5_isSort_12 : decode cX5_isSort 12 = .ok (.if_icmp .eq 9, 3) := by decide +kernel
theorem dX5_isSort_15 : decode cX5_isSort 15 = .ok (.iload_n 0, 1) := by decide +kernel
theorem dX5_isSort_16 : decode cX5_isSort 16 = .ok (.bipush 20, 2) := by decide +kernel
theorem dX5_isSort_18 : decode cX5_isSort 18 = .ok (.if_icmp .ne 7, 3) := by decide +kernel
theorem dX5_isSort_21 : decode cX5_isSort 21 = .ok (.iconst 1, 1) := by decide +kernel
theorem dX5_isSort_22 : decode cX5_isSort 22 = .ok (.goto 4, 3) := by decide +kernel
theorem dX5_isSort_25 : decode cX5_isSort 25 = .ok (.iconst 0, 1) := by decide +kernel
theorem dX5_isSort_26 : decode cX5_isSort 26 = .ok (.ireturn, 1) := by decide +kernel
theorem dX5_isWish_0 : decode cX5_isWish 0 = .ok (.iload_n 0, 1) := by decide +kernel
theorem dX5_isWish_1 : decode cX5_isWish 1 = .ok (.ifCond .lt 14, 3) := by decide +kernel
theorem dX5_isWish_4 : decode cX5_isWish 4 = .ok (.iload_n 0, 1) := by decide +kernel
theorem dX5_isWish_5 : decode cX5_isWish 5 = .ok (.sipush 4096, 3) := by decide +kernel
theorem dX5_isWish_8 : decode cX5_isWish 8 = .ok (.idiv, 1) := by decide +kernel
theorem dX5_isWish_9 : decode cX5_isWish 9 = .ok (.sipush 4095, 3) := by decide +kernel
theorem dX5_isWish_12 : decode cX5_isWish 12 = .ok (.if_icmp .le 5, 3) := by decide +kernel
theorem dX5_isWish_15 : decode cX5_isWish 15 = .ok (.iconst 0, 1) := by decide +kernel
theorem dX5_isWish_16 : decode cX5_isWish 16 = .ok (.ireturn, 1) := by decide +kernel
theorem dX5_isWish_17 : decode cX5_isWish 17 = .ok (.iload_n 0, 1) := by decide +kernel
theorem dX5_isWish_18 : decode cX5_isWish 18 = .ok (.sipush 4096, 3) := by decide +kernel
theorem dX5_isWish_21 : decode cX5_isWish 21 = .ok (.idiv, 1) := by decide +kernel
theorem dX5_isWish_22 : decode cX5_isWish 22 = .ok (.iload_n 0, 1) := by decide +kernel
theorem dX5_isWish_23 : decode cX5_isWish 23 = .ok (.sipush 4096, 3) := by decide +kernel
theorem dX5_isWish_26 : decode cX5_isWish 26 = .ok (.irem, 1) := by decide +kernel
theorem dX5_isWish_27 : decode cX5_isWish 27 = .ok (.iand, 1) := by decide +kernel
theorem dX5_isWish_28 : decode cX5_isWish 28 = .ok (.ifCond .ne 7, 3) := by decide +kernel
theorem dX5_isWish_31 : decode cX5_isWish 31 = .ok (.iconst 1, 1) := by decide +kernel
theorem dX5_isWish_32 : decode cX5_isWish 32 = .ok (.goto 4, 3) := by decide +kernel
theorem dX5_isWish_35 : decode cX5_isWish 35 = .ok (.iconst 0, 1) := by decide +kernel
theorem dX5_isWish_36 : decode cX5_isWish 36 = .ok (.ireturn, 1) := by decide +kernel
