theorem wm_167 : Cond.methodLink RX6 246 yX6_find ∈ lw_B := lb_4 141 (by decide +kernel) rfl
theorem wm_168 : Cond.instanceMethod yX6_find ∈ lw_B := lb_4 143 (by decide +kernel) rfl
theorem wm_169 : Cond.selects RX6 yX6_find yX6_find ∈ lw_B := lb_0 34 (by decide +kernel) rfl
theorem wm_170 : Cond.code yX6_find cX6_find 3 (some .long) ∈ lw_B := lb_4 144 (by decide +kernel) rfl
theorem wm_171 : Cond.methodLink RX6 253 yX6_sell ∈ lw_B := lb_4 206 (by decide +kernel) rfl
theorem wm_172 : Cond.instanceMethod yX6_sell ∈ lw_B := lb_4 208 (by decide +kernel) rfl
theorem wm_173 : Cond.selects RX6 yX6_sell yX6_sell ∈ lw_B := lb_0 49 (by decide +kernel) rfl
theorem wm_174 : Cond.code yX6_sell cX6_sell 6 none ∈ lw_B := lb_4 209 (by decide +kernel) rfl
theorem wm_175 : Cond.methodLink RX6 249 yX6_priceOf ∈ lw_B := lb_4 197 (by decide +kernel) rfl
theorem wm_176 : Cond.instanceMethod yX6_priceOf ∈ lw_B := lb_4 199 (by decide +kernel) rfl
theorem wm_177 : Cond.selects RX6 yX6_priceOf yX6_priceOf ∈ lw_B := lb_0 47 (by decide +kernel) rfl
theorem wm_178 : Cond.code yX6_priceOf cX6_priceOf 13 (some .int) ∈ lw_B := lb_4 200 (by decide +kernel) rfl
theorem dX6_come_17 : decode cX6_come 17 = .ok (.aload_n 0, 1) := by decide +kernel
theorem dX6_come_18 : decode cX6_come 18 = .ok (.getfield 161, 3) := by decide +kernel
theorem dX6_come_21 : decode cX6_come 21 = .ok (.aload_n 0, 1) := by decide +kernel
theorem dX6_come_22 : decode cX6_come 22 = .ok (.getfield 13, 3) := by decide +kernel
theorem dX6_come_25 : decode cX6_come 25 = .ok (.iload_n 2, 1) := by decide +kernel
theorem dX6_come_26 : decode cX6_come 26 = .ok (.iaload, 1) := by decide +kernel
theorem dX6_come_27 : decode cX6_come 27 = .ok (.iadd, 1) := by decide +kernel
theorem dX6_come_28 : decode cX6_come 28 = .ok (.sipush 1000, 3) := by decide +kernel
theorem dX6_come_31 : decode cX6_come 31 = .ok (.if_icmp .le 6, 3) := by decide +kernel
theorem dX6_come_34 : decode cX6_come 34 = .ok (.bipush (-3), 2) := by decide +kernel
theorem dX6_come_36 : decode cX6_come 36 = .ok (.ireturn, 1) := by decide +kernel
theorem dX6_come_37 : decode cX6_come 37 = .ok (.aload_n 0, 1) := by decide +kernel
theorem dX6_come_38 : decode cX6_come 38 = .ok (.iload_n 1, 1) := by decide +kernel
theorem dX6_come_39 : decode cX6_come 39 = .ok (.iload_n 2, 1) := by decide +kernel
theorem dX6_come_40 : decode cX6_come 40 = .ok (.invokevirtual 246, 3) := by decide +kernel
theorem dX6_come_43 : decode cX6_come 43 = .ok (.lstore_n 3, 1) := by decide +kernel
theorem dX6_come_44 : decode cX6_come 44 = .ok (.iconst 0, 1) := by decide +kernel
theorem dX6_come_45 : decode cX6_come 45 = .ok (.istore 5, 2) := by decide +kernel
theorem dX6_come_47 : decode cX6_come 47 = .ok (.iload 5, 2) := by decide +kernel
theorem dX6_come_49 : decode cX6_come 49 = .ok (.aload_n 0, 1) := by decide +kernel
theorem dX6_come_50 : decode cX6_come 50 = .ok (.getfield 201, 3) := by decide +kernel
theorem dX6_come_53 : decode cX6_come 53 = .ok (.if_icmp .ge 23, 3) := by decide +kernel
theorem dX6_come_56 : decode cX6_come 56 = .ok (.aload_n 0, 1) := by decide +kernel
theorem dX6_come_57 : decode cX6_come 57 = .ok (.getfield 124, 3) := by decide +kernel
theorem dX6_come_60 : decode cX6_come 60 = .ok (.iload 5, 2) := by decide +kernel
theorem dX6_come_62 : decode cX6_come 62 = .ok (.aload_n 0, 1) := by decide +kernel
theorem dX6_come_63 : decode cX6_come 63 = .ok (.getfield 115, 3) := by decide +kernel
theorem dX6_come_66 : decode cX6_come 66 = .ok (.iload 5, 2) := by decide +kernel
theorem dX6_come_68 : decode cX6_come 68 = .ok (.iaload, 1) := by decide +kernel
theorem dX6_come_69 : decode cX6_come 69 = .ok (.iastore, 1) := by decide +kernel
theorem dX6_come_70 : decode cX6_come 70 = .ok (.iinc 5 1, 3) := by decide +kernel
theorem dX6_come_73 : decode cX6_come 73 = .ok (.goto (-26), 3) := by decide +kernel
theorem dX6_come_76 : decode cX6_come 76 = .ok (.iconst 0, 1) := by decide +kernel
theorem dX6_come_77 : decode cX6_come 77 = .ok (.istore 5, 2) := by decide +kernel
theorem dX6_come_79 : decode cX6_come 79 = .ok (.iconst 0, 1) := by decide +kernel
theorem dX6_come_80 : decode cX6_come 80 = .ok (.istore 6, 2) := by decide +kernel
theorem dX6_come_82 : decode cX6_come 82 = .ok (.iload 6, 2) := by decide +kernel
theorem dX6_come_84 : decode cX6_come 84 = .ok (.aload_n 0, 1) := by decide +kernel
theorem dX6_come_85 : decode cX6_come 85 = .ok (.getfield 201, 3) := by decide +kernel
theorem dX6_come_88 : decode cX6_come 88 = .ok (.if_icmp .ge 47, 3) := by decide +kernel
theorem dX6_come_91 : decode cX6_come 91 = .ok (.aload_n 0, 1) := by decide +kernel
theorem dX6_come_92 : decode cX6_come 92 = .ok (.getfield 124, 3) := by decide +kernel
theorem dX6_come_95 : decode cX6_come 95 = .ok (.iload 6, 2) := by decide +kernel
theorem dX6_come_97 : decode cX6_come 97 = .ok (.iaload, 1) := by decide +kernel
theorem dX6_come_98 : decode cX6_come 98 = .ok (.ifCond .ge 6, 3) := by decide +kernel
theorem dX6_come_101 : decode cX6_come 101 = .ok (.goto 28, 3) := by decide +kernel
theorem dX6_come_104 : decode cX6_come 104 = .ok (.aload_n 0, 1) := by decide +kernel
theorem dX6_come_105 : decode cX6_come 105 = .ok (.getfield 127, 3) := by decide +kernel
theorem dX6_come_108 : decode cX6_come 108 = .ok (.iload 6, 2) := by decide +kernel
theorem dX6_come_110 : decode cX6_come 110 = .ok (.aload_n 0, 1) := by decide +kernel
theorem dX6_come_111 : decode cX6_come 111 = .ok (.aload_n 0, 1) := by decide +kernel
theorem dX6_come_112 : decode cX6_come 112 = .ok (.getfield 124, 3) := by decide +kernel
theorem dX6_come_115 : decode cX6_come 115 = .ok (.iload 6, 2) := by decide +kernel
theorem dX6_come_117 : decode cX6_come 117 = .ok (.iaload, 1) := by decide +kernel
theorem dX6_come_118 : decode cX6_come 118 = .ok (.iload_n 2, 1) := by decide +kernel
theorem dX6_come_119 : decode cX6_come 119 = .ok (.iload 6, 2) := by decide +kernel
theorem dX6_come_121 : decode cX6_come 121 = .ok (.lload_n 3, 1) := by decide +kernel
theorem dX6_come_122 : decode cX6_come 122 = .ok (.invokevirtual 249, 3) := by decide +kernel
theorem dX6_come_125 : decode cX6_come 125 = .ok (.iastore, 1) := by decide +kernel
theorem dX6_come_126 : decode cX6_come 126 = .ok (.iinc 5 1, 3) := by decide +kernel
theorem dX6_come_129 : decode cX6_come 129 = .ok (.iinc 6 1, 3) := by decide +kernel
theorem dX6_come_132 : decode cX6_come 132 = .ok (.goto (-50), 3) := by decide +kernel
theorem dX6_come_135 : decode cX6_come 135 = .ok (.iconst 0, 1) := by decide +kernel
theorem dX6_come_136 : decode cX6_come 136 = .ok (.istore 6, 2) := by decide +kernel
theorem dX6_come_138 : decode cX6_come 138 = .ok (.iload 6, 2) := by decide +kernel
theorem dX6_come_140 : decode cX6_come 140 = .ok (.aload_n 0, 1) := by decide +kernel
theorem dX6_come_141 : decode cX6_come 141 = .ok (.getfield 201, 3) := by decide +kernel
theorem dX6_come_144 : decode cX6_come 144 = .ok (.if_icmp .ge 27, 3) := by decide +kernel
theorem dX6_come_147 : decode cX6_come 147 = .ok (.aload_n 0, 1) := by decide +kernel
theorem dX6_come_148 : decode cX6_come 148 = .ok (.getfield 124, 3) := by decide +kernel
theorem dX6_come_151 : decode cX6_come 151 = .ok (.iload 6, 2) := by decide +kernel
theorem dX6_come_153 : decode cX6_come 153 = .ok (.iaload, 1) := by decide +kernel
theorem dX6_come_154 : decode cX6_come 154 = .ok (.ifCond .lt 11, 3) := by decide +kernel
theorem dX6_come_157 : decode cX6_come 157 = .ok (.aload_n 0, 1) := by decide +kernel
theorem dX6_come_158 : decode cX6_come 158 = .ok (.iload_n 1, 1) := by decide +kernel
theorem dX6_come_159 : decode cX6_come 159 = .ok (.iload_n 2, 1) := by decide +kernel
theorem dX6_come_160 : decode cX6_come 160 = .ok (.iload 6, 2) := by decide +kernel
theorem dX6_come_162 : decode cX6_come 162 = .ok (.invokevirtual 253, 3) := by decide +kernel
theorem dX6_come_165 : decode cX6_come 165 = .ok (.iinc 6 1, 3) := by decide +kernel
theorem dX6_come_168 : decode cX6_come 168 = .ok (.goto (-30), 3) := by decide +kernel
theorem dX6_come_171 : decode cX6_come 171 = .ok (.iload 5, 2) := by decide +kernel
theorem dX6_come_173 : decode cX6_come 173 = .ok (.ireturn, 1) := by decide +kernel
theorem dX6_best_15 : decode cX6_best 15 = .ok (.aload_n 0, 1) := by decide +kernel
theorem dX6_best_16 : decode cX6_best 16 = .ok (.iload_n 1, 1) := by decide +kernel
theorem dX6_best_17 : decode cX6_best 17 = .ok (.iload_n 2, 1) := by decide +kernel
theorem dX6_best_18 : decode cX6_best 18 = .ok (.invokevirtual 246, 3) := by decide +kernel
theorem dX6_best_21 : decode cX6_best 21 = .ok (.goto 6, 3) := by decide +kernel
theorem dX6_give_15 : decode cX6_give 15 = .ok (.iload_n 3, 1) := by decide +kernel
theorem dX6_give_16 : decode cX6_give 16 = .ok (.iconst 0, 1) := by decide +kernel
theorem dX6_give_17 : decode cX6_give 17 = .ok (.aload_n 0, 1) := by decide +kernel
theorem dX6_give_18 : decode cX6_give 18 = .ok (.getfield 13, 3) := by decide +kernel
theorem dX6_give_21 : decode cX6_give 21 = .ok (.iload_n 2, 1) := by decide +kernel
theorem dX6_give_22 : decode cX6_give 22 = .ok (.iaload, 1) := by decide +kernel
theorem dX6_give_23 : decode cX6_give 23 = .ok (.iconst 1, 1) := by decide +kernel
theorem dX6_give_24 : decode cX6_give 24 = .ok (.isub, 1) := by decide +kernel
theorem dX6_give_25 : decode cX6_give 25 = .ok (.invokestatic 136, 3) := by decide +kernel
theorem dX6_give_28 : decode cX6_give 28 = .ok (.ifCond .ne 5, 3) := by decide +kernel
theorem dX6_give_33 : decode cX6_give 33 = .ok (.aload_n 0, 1) := by decide +kernel
theorem dX6_give_34 : decode cX6_give 34 = .ok (.iload_n 1, 1) := by decide +kernel
theorem dX6_give_35 : decode cX6_give 35 = .ok (.iload_n 2, 1) := by decide +kernel
theorem dX6_give_36 : decode cX6_give 36 = .ok (.invokevirtual 246, 3) := by decide +kernel
theorem dX6_give_39 : decode cX6_give 39 = .ok (.lstore 4, 2) := by decide +kernel
theorem dX6_give_41 : decode cX6_give 41 = .ok (.aload_n 0, 1) := by decide +kernel
theorem dX6_give_42 : decode cX6_give 42 = .ok (.getfield 115, 3) := by decide +kernel
theorem dX6_give_45 : decode cX6_give 45 = .ok (.iload_n 3, 1) := by decide +kernel
theorem dX6_give_46 : decode cX6_give 46 = .ok (.iaload, 1) := by decide +kernel
theorem dX6_give_47 : decode cX6_give 47 = .ok (.ireturn, 1) := by decide +kernel
