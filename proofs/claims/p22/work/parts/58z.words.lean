theorem wm_151 : Cond.methodLink RX6 226 yX6_gather ∈ lw_B := lb_4 145 (by decide +kernel) rfl
theorem wm_152 : Cond.instanceMethod yX6_gather ∈ lw_B := lb_4 147 (by decide +kernel) rfl
theorem wm_153 : Cond.selects RX6 yX6_gather yX6_gather ∈ lw_B := lb_0 35 (by decide +kernel) rfl
theorem wm_154 : Cond.code yX6_gather cX6_gather 5 none ∈ lw_B := lb_4 148 (by decide +kernel) rfl
theorem wm_155 : Cond.methodLink RX6 230 yX6_reckon ∈ lw_B := lb_4 185 (by decide +kernel) rfl
theorem wm_156 : Cond.instanceMethod yX6_reckon ∈ lw_B := lb_4 187 (by decide +kernel) rfl
theorem wm_157 : Cond.selects RX6 yX6_reckon yX6_reckon ∈ lw_B := lb_0 44 (by decide +kernel) rfl
theorem wm_158 : Cond.code yX6_reckon cX6_reckon 6 none ∈ lw_B := lb_4 188 (by decide +kernel) rfl
theorem wm_159 : Cond.methodLink RX6 234 yX6_go ∈ lw_B := lb_4 189 (by decide +kernel) rfl
theorem wm_160 : Cond.instanceMethod yX6_go ∈ lw_B := lb_4 191 (by decide +kernel) rfl
theorem wm_161 : Cond.selects RX6 yX6_go yX6_go ∈ lw_B := lb_0 45 (by decide +kernel) rfl
theorem wm_162 : Cond.code yX6_go cX6_go 13 none ∈ lw_B := lb_4 192 (by decide +kernel) rfl
theorem wm_163 : Cond.methodLink RX6 257 yX6_sumWithout ∈ lw_B := lb_4 201 (by decide +kernel) rfl
theorem wm_164 : Cond.instanceMethod yX6_sumWithout ∈ lw_B := lb_4 203 (by decide +kernel) rfl
theorem wm_165 : Cond.selects RX6 yX6_sumWithout yX6_sumWithout ∈ lw_B := lb_0 48 (by decide +kernel) rfl
theorem wm_166 : Cond.code yX6_sumWithout cX6_sumWithout 2 (some .long) ∈ lw_B := lb_4 204 (by decide +kernel) rfl
theorem dX6_find_0 : decode cX6_find 0 = .ok (.aload_n 0, 1) := by decide +kernel
theorem dX6_find_1 : decode cX6_find 1 = .ok (.iload_n 1, 1) := by decide +kernel
theorem dX6_find_2 : decode cX6_find 2 = .ok (.iload_n 2, 1) := by decide +kernel
theorem dX6_find_3 : decode cX6_find 3 = .ok (.invokevirtual 226, 3) := by decide +kernel
theorem dX6_find_6 : decode cX6_find 6 = .ok (.aload_n 0, 1) := by decide +kernel
theorem dX6_find_7 : decode cX6_find 7 = .ok (.iconst (-1), 1) := by decide +kernel
theorem dX6_find_8 : decode cX6_find 8 = .ok (.invokevirtual 230, 3) := by decide +kernel
theorem dX6_find_11 : decode cX6_find 11 = .ok (.aload_n 0, 1) := by decide +kernel
theorem dX6_find_12 : decode cX6_find 12 = .ok (.iconst 0, 1) := by decide +kernel
theorem dX6_find_13 : decode cX6_find 13 = .ok (.putfield 212, 3) := by decide +kernel
theorem dX6_find_16 : decode cX6_find 16 = .ok (.aload_n 0, 1) := by decide +kernel
theorem dX6_find_17 : decode cX6_find 17 = .ok (.iconst 0, 1) := by decide +kernel
theorem dX6_find_18 : decode cX6_find 18 = .ok (.iconst (-1), 1) := by decide +kernel
theorem dX6_find_19 : decode cX6_find 19 = .ok (.invokevirtual 234, 3) := by decide +kernel
theorem dX6_find_22 : decode cX6_find 22 = .ok (.aload_n 0, 1) := by decide +kernel
theorem dX6_find_23 : decode cX6_find 23 = .ok (.iconst 1, 1) := by decide +kernel
theorem dX6_find_24 : decode cX6_find 24 = .ok (.iconst (-1), 1) := by decide +kernel
theorem dX6_find_25 : decode cX6_find 25 = .ok (.invokevirtual 234, 3) := by decide +kernel
theorem dX6_find_28 : decode cX6_find 28 = .ok (.aload_n 0, 1) := by decide +kernel
theorem dX6_find_29 : decode cX6_find 29 = .ok (.getfield 216, 3) := by decide +kernel
theorem dX6_find_32 : decode cX6_find 32 = .ok (.lreturn, 1) := by decide +kernel
theorem dX6_sumWithout_0 : decode cX6_sumWithout 0 = .ok (.aload_n 0, 1) := by decide +kernel
theorem dX6_sumWithout_1 : decode cX6_sumWithout 1 = .ok (.iload_n 1, 1) := by decide +kernel
theorem dX6_sumWithout_2 : decode cX6_sumWithout 2 = .ok (.invokevirtual 230, 3) := by decide +kernel
theorem dX6_sumWithout_5 : decode cX6_sumWithout 5 = .ok (.aload_n 0, 1) := by decide +kernel
theorem dX6_sumWithout_6 : decode cX6_sumWithout 6 = .ok (.iconst 0, 1) := by decide +kernel
theorem dX6_sumWithout_7 : decode cX6_sumWithout 7 = .ok (.putfield 212, 3) := by decide +kernel
theorem dX6_sumWithout_10 : decode cX6_sumWithout 10 = .ok (.aload_n 0, 1) := by decide +kernel
theorem dX6_sumWithout_11 : decode cX6_sumWithout 11 = .ok (.iconst 0, 1) := by decide +kernel
theorem dX6_sumWithout_12 : decode cX6_sumWithout 12 = .ok (.iload_n 1, 1) := by decide +kernel
theorem dX6_sumWithout_13 : decode cX6_sumWithout 13 = .ok (.invokevirtual 234, 3) := by decide +kernel
theorem dX6_sumWithout_16 : decode cX6_sumWithout 16 = .ok (.aload_n 0, 1) := by decide +kernel
theorem dX6_sumWithout_17 : decode cX6_sumWithout 17 = .ok (.getfield 216, 3) := by decide +kernel
theorem dX6_sumWithout_20 : decode cX6_sumWithout 20 = .ok (.lreturn, 1) := by decide +kernel
theorem dX6_priceOf_0 : decode cX6_priceOf 0 = .ok (.aload_n 0, 1) := by decide +kernel
theorem dX6_priceOf_1 : decode cX6_priceOf 1 = .ok (.getfield 23, 3) := by decide +kernel
theorem dX6_priceOf_4 : decode cX6_priceOf 4 = .ok (.iload_n 1, 1) := by decide +kernel
theorem dX6_priceOf_5 : decode cX6_priceOf 5 = .ok (.iaload, 1) := by decide +kernel
theorem dX6_priceOf_6 : decode cX6_priceOf 6 = .ok (.ifCond .eq 5, 3) := by decide +kernel
theorem dX6_priceOf_9 : decode cX6_priceOf 9 = .ok (.iconst 0, 1) := by decide +kernel
theorem dX6_priceOf_10 : decode cX6_priceOf 10 = .ok (.ireturn, 1) := by decide +kernel
theorem dX6_priceOf_11 : decode cX6_priceOf 11 = .ok (.aload_n 0, 1) := by decide +kernel
theorem dX6_priceOf_12 : decode cX6_priceOf 12 = .ok (.getfield 17, 3) := by decide +kernel
theorem dX6_priceOf_15 : decode cX6_priceOf 15 = .ok (.iconst 4, 1) := by decide +kernel
theorem dX6_priceOf_16 : decode cX6_priceOf 16 = .ok (.iload_n 2, 1) := by decide +kernel
theorem dX6_priceOf_17 : decode cX6_priceOf 17 = .ok (.imul, 1) := by decide +kernel
theorem dX6_priceOf_18 : decode cX6_priceOf 18 = .ok (.iload_n 3, 1) := by decide +kernel
theorem dX6_priceOf_19 : decode cX6_priceOf 19 = .ok (.iadd, 1) := by decide +kernel
theorem dX6_priceOf_20 : decode cX6_priceOf 20 = .ok (.iaload, 1) := by decide +kernel
theorem dX6_priceOf_21 : decode cX6_priceOf 21 = .ok (.istore 6, 2) := by decide +kernel
theorem dX6_priceOf_23 : decode cX6_priceOf 23 = .ok (.aload_n 0, 1) := by decide +kernel
theorem dX6_priceOf_24 : decode cX6_priceOf 24 = .ok (.getfield 35, 3) := by decide +kernel
theorem dX6_priceOf_27 : decode cX6_priceOf 27 = .ok (.iload_n 1, 1) := by decide +kernel
theorem dX6_priceOf_28 : decode cX6_priceOf 28 = .ok (.iaload, 1) := by decide +kernel
theorem dX6_priceOf_29 : decode cX6_priceOf 29 = .ok (.iload 6, 2) := by decide +kernel
theorem dX6_priceOf_31 : decode cX6_priceOf 31 = .ok (.imul, 1) := by decide +kernel
theorem dX6_priceOf_32 : decode cX6_priceOf 32 = .ok (.bipush 100, 2) := by decide +kernel
theorem dX6_priceOf_34 : decode cX6_priceOf 34 = .ok (.idiv, 1) := by decide +kernel
theorem dX6_priceOf_35 : decode cX6_priceOf 35 = .ok (.iconst 1, 1) := by decide +kernel
theorem dX6_priceOf_36 : decode cX6_priceOf 36 = .ok (.if_icmp .ge 7, 3) := by decide +kernel
theorem dX6_priceOf_39 : decode cX6_priceOf 39 = .ok (.iconst 1, 1) := by decide +kernel
theorem dX6_priceOf_40 : decode cX6_priceOf 40 = .ok (.goto 15, 3) := by decide +kernel
theorem dX6_priceOf_43 : decode cX6_priceOf 43 = .ok (.aload_n 0, 1) := by decide +kernel
theorem dX6_priceOf_44 : decode cX6_priceOf 44 = .ok (.getfield 35, 3) := by decide +kernel
theorem dX6_priceOf_47 : decode cX6_priceOf 47 = .ok (.iload_n 1, 1) := by decide +kernel
theorem dX6_priceOf_48 : decode cX6_priceOf 48 = .ok (.iaload, 1) := by decide +kernel
theorem dX6_priceOf_49 : decode cX6_priceOf 49 = .ok (.iload 6, 2) := by decide +kernel
theorem dX6_priceOf_51 : decode cX6_priceOf 51 = .ok (.imul, 1) := by decide +kernel
theorem dX6_priceOf_52 : decode cX6_priceOf 52 = .ok (.bipush 100, 2) := by decide +kernel
theorem dX6_priceOf_54 : decode cX6_priceOf 54 = .ok (.idiv, 1) := by decide +kernel
theorem dX6_priceOf_55 : decode cX6_priceOf 55 = .ok (.istore 7, 2) := by decide +kernel
theorem dX6_priceOf_57 : decode cX6_priceOf 57 = .ok (.aload_n 0, 1) := by decide +kernel
theorem dX6_priceOf_58 : decode cX6_priceOf 58 = .ok (.getfield 155, 3) := by decide +kernel
theorem dX6_priceOf_61 : decode cX6_priceOf 61 = .ok (.ifCond .ne 6, 3) := by decide +kernel
theorem dX6_priceOf_64 : decode cX6_priceOf 64 = .ok (.iload 7, 2) := by decide +kernel
theorem dX6_priceOf_66 : decode cX6_priceOf 66 = .ok (.ireturn, 1) := by decide +kernel
theorem dX6_priceOf_67 : decode cX6_priceOf 67 = .ok (.iconst 0, 1) := by decide +kernel
theorem dX6_priceOf_68 : decode cX6_priceOf 68 = .ok (.istore 8, 2) := by decide +kernel
theorem dX6_priceOf_70 : decode cX6_priceOf 70 = .ok (.aload_n 0, 1) := by decide +kernel
theorem dX6_priceOf_71 : decode cX6_priceOf 71 = .ok (.getfield 96, 3) := by decide +kernel
theorem dX6_priceOf_74 : decode cX6_priceOf 74 = .ok (.iload 8, 2) := by decide +kernel
theorem dX6_priceOf_76 : decode cX6_priceOf 76 = .ok (.iaload, 1) := by decide +kernel
theorem dX6_priceOf_77 : decode cX6_priceOf 77 = .ok (.iload_n 1, 1) := by decide +kernel
theorem dX6_priceOf_78 : decode cX6_priceOf 78 = .ok (.if_icmp .eq 9, 3) := by decide +kernel
theorem dX6_priceOf_81 : decode cX6_priceOf 81 = .ok (.iinc 8 1, 3) := by decide +kernel
theorem dX6_priceOf_84 : decode cX6_priceOf 84 = .ok (.goto (-14), 3) := by decide +kernel
theorem dX6_priceOf_87 : decode cX6_priceOf 87 = .ok (.lload 4, 2) := by decide +kernel
theorem dX6_priceOf_89 : decode cX6_priceOf 89 = .ok (.aload_n 0, 1) := by decide +kernel
theorem dX6_priceOf_90 : decode cX6_priceOf 90 = .ok (.getfield 99, 3) := by decide +kernel
theorem dX6_priceOf_93 : decode cX6_priceOf 93 = .ok (.iconst 4, 1) := by decide +kernel
theorem dX6_priceOf_94 : decode cX6_priceOf 94 = .ok (.iload 8, 2) := by decide +kernel
theorem dX6_priceOf_96 : decode cX6_priceOf 96 = .ok (.imul, 1) := by decide +kernel
theorem dX6_priceOf_97 : decode cX6_priceOf 97 = .ok (.iload_n 3, 1) := by decide +kernel
theorem dX6_priceOf_98 : decode cX6_priceOf 98 = .ok (.iadd, 1) := by decide +kernel
theorem dX6_priceOf_99 : decode cX6_priceOf 99 = .ok (.laload, 1) := by decide +kernel
theorem dX6_priceOf_100 : decode cX6_priceOf 100 = .ok (.lsub, 1) := by decide +kernel
theorem dX6_priceOf_101 : decode cX6_priceOf 101 = .ok (.lstore 9, 2) := by decide +kernel
theorem dX6_priceOf_103 : decode cX6_priceOf 103 = .ok (.aload_n 0, 1) := by decide +kernel
theorem dX6_priceOf_104 : decode cX6_priceOf 104 = .ok (.iload 8, 2) := by decide +kernel
theorem dX6_priceOf_106 : decode cX6_priceOf 106 = .ok (.invokevirtual 257, 3) := by decide +kernel
theorem dX6_priceOf_109 : decode cX6_priceOf 109 = .ok (.lload 9, 2) := by decide +kernel
theorem dX6_priceOf_111 : decode cX6_priceOf 111 = .ok (.lsub, 1) := by decide +kernel
theorem dX6_priceOf_112 : decode cX6_priceOf 112 = .ok (.ldc2_w 261, 3) := by decide +kernel
theorem dX6_priceOf_115 : decode cX6_priceOf 115 = .ok (.ldiv, 1) := by decide +kernel
theorem dX6_priceOf_116 : decode cX6_priceOf 116 = .ok (.lstore 11, 2) := by decide +kernel
theorem dX6_priceOf_118 : decode cX6_priceOf 118 = .ok (.lload 11, 2) := by decide +kernel
theorem dX6_priceOf_120 : decode cX6_priceOf 120 = .ok (.lconst 0, 1) := by decide +kernel
theorem dX6_priceOf_121 : decode cX6_priceOf 121 = .ok (.lcmp, 1) := by decide +kernel
theorem dX6_priceOf_122 : decode cX6_priceOf 122 = .ok (.ifCond .ge 7, 3) := by decide +kernel
theorem dX6_priceOf_125 : decode cX6_priceOf 125 = .ok (.iconst 0, 1) := by decide +kernel
theorem dX6_priceOf_126 : decode cX6_priceOf 126 = .ok (.goto 20, 3) := by decide +kernel
theorem dX6_priceOf_129 : decode cX6_priceOf 129 = .ok (.lload 11, 2) := by decide +kernel
theorem dX6_priceOf_131 : decode cX6_priceOf 131 = .ok (.iload 7, 2) := by decide +kernel
theorem dX6_priceOf_133 : decode cX6_priceOf 133 = .ok (.i2l, 1) := by decide +kernel
theorem dX6_priceOf_134 : decode cX6_priceOf 134 = .ok (.lcmp, 1) := by decide +kernel
theorem dX6_priceOf_135 : decode cX6_priceOf 135 = .ok (.ifCond .le 8, 3) := by decide +kernel
theorem dX6_priceOf_138 : decode cX6_priceOf 138 = .ok (.iload 7, 2) := by decide +kernel
theorem dX6_priceOf_140 : decode cX6_priceOf 140 = .ok (.goto 6, 3) := by decide +kernel
theorem dX6_priceOf_143 : decode cX6_priceOf 143 = .ok (.lload 11, 2) := by decide +kernel
theorem dX6_priceOf_145 : decode cX6_priceOf 145 = .ok (.l2i, 1) := by decide +kernel
theorem dX6_priceOf_146 : decode cX6_priceOf 146 = .ok (.ireturn, 1) := by decide +kernel
