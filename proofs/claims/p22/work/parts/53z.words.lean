theorem wm_134 : Cond.fieldLink RX6 13 "NoticeMarketModel" "places" "[I" ∈ lw_B := lb_3 155 (by decide +kernel) rfl
theorem wm_135 : Cond.fieldLink RX6 17 "NoticeMarketModel" "sizes" "[I" ∈ lw_B := lb_3 156 (by decide +kernel) rfl
theorem wm_136 : Cond.methodLink RX6 208 yX6_worthOf ∈ lw_B := lb_4 167 (by decide +kernel) rfl
theorem wm_137 : Cond.instanceMethod yX6_worthOf ∈ lw_B := lb_4 169 (by decide +kernel) rfl
theorem wm_138 : Cond.selects RX6 yX6_worthOf yX6_worthOf ∈ lw_B := lb_0 40 (by decide +kernel) rfl
theorem wm_139 : Cond.code yX6_worthOf cX6_worthOf 5 (some .long) ∈ lw_B := lb_4 170 (by decide +kernel) rfl
theorem dX6_gather_0 : decode cX6_gather 0 = .ok (.aload_n 0, 1) := by decide +kernel
theorem dX6_gather_1 : decode cX6_gather 1 = .ok (.iconst 0, 1) := by decide +kernel
theorem dX6_gather_2 : decode cX6_gather 2 = .ok (.putfield 198, 3) := by decide +kernel
theorem dX6_gather_5 : decode cX6_gather 5 = .ok (.aload_n 0, 1) := by decide +kernel
theorem dX6_gather_6 : decode cX6_gather 6 = .ok (.aload_n 0, 1) := by decide +kernel
theorem dX6_gather_7 : decode cX6_gather 7 = .ok (.getfield 13, 3) := by decide +kernel
theorem dX6_gather_10 : decode cX6_gather 10 = .ok (.iload_n 2, 1) := by decide +kernel
theorem dX6_gather_11 : decode cX6_gather 11 = .ok (.iaload, 1) := by decide +kernel
theorem dX6_gather_12 : decode cX6_gather 12 = .ok (.putfield 201, 3) := by decide +kernel
theorem dX6_gather_15 : decode cX6_gather 15 = .ok (.iconst 0, 1) := by decide +kernel
theorem dX6_gather_16 : decode cX6_gather 16 = .ok (.istore_n 3, 1) := by decide +kernel
theorem dX6_gather_17 : decode cX6_gather 17 = .ok (.iload_n 3, 1) := by decide +kernel
theorem dX6_gather_18 : decode cX6_gather 18 = .ok (.aload_n 0, 1) := by decide +kernel
theorem dX6_gather_19 : decode cX6_gather 19 = .ok (.getfield 140, 3) := by decide +kernel
theorem dX6_gather_22 : decode cX6_gather 22 = .ok (.if_icmp .ge 90, 3) := by decide +kernel
theorem dX6_gather_25 : decode cX6_gather 25 = .ok (.aload_n 0, 1) := by decide +kernel
theorem dX6_gather_26 : decode cX6_gather 26 = .ok (.iload_n 3, 1) := by decide +kernel
theorem dX6_gather_27 : decode cX6_gather 27 = .ok (.iload_n 1, 1) := by decide +kernel
theorem dX6_gather_28 : decode cX6_gather 28 = .ok (.iload_n 2, 1) := by decide +kernel
theorem dX6_gather_29 : decode cX6_gather 29 = .ok (.invokevirtual 204, 3) := by decide +kernel
theorem dX6_gather_32 : decode cX6_gather 32 = .ok (.ifCond .eq 6, 3) := by decide +kernel
theorem dX6_gather_35 : decode cX6_gather 35 = .ok (.goto 71, 3) := by decide +kernel
theorem dX6_gather_38 : decode cX6_gather 38 = .ok (.aload_n 0, 1) := by decide +kernel
theorem dX6_gather_39 : decode cX6_gather 39 = .ok (.getfield 96, 3) := by decide +kernel
theorem dX6_gather_42 : decode cX6_gather 42 = .ok (.aload_n 0, 1) := by decide +kernel
theorem dX6_gather_43 : decode cX6_gather 43 = .ok (.getfield 198, 3) := by decide +kernel
theorem dX6_gather_46 : decode cX6_gather 46 = .ok (.iload_n 3, 1) := by decide +kernel
theorem dX6_gather_47 : decode cX6_gather 47 = .ok (.iastore, 1) := by decide +kernel
theorem dX6_gather_48 : decode cX6_gather 48 = .ok (.iconst 0, 1) := by decide +kernel
theorem dX6_gather_49 : decode cX6_gather 49 = .ok (.istore 4, 2) := by decide +kernel
theorem dX6_gather_51 : decode cX6_gather 51 = .ok (.iload 4, 2) := by decide +kernel
theorem dX6_gather_53 : decode cX6_gather 53 = .ok (.aload_n 0, 1) := by decide +kernel
theorem dX6_gather_54 : decode cX6_gather 54 = .ok (.getfield 201, 3) := by decide +kernel
theorem dX6_gather_57 : decode cX6_gather 57 = .ok (.if_icmp .ge 39, 3) := by decide +kernel
theorem dX6_gather_60 : decode cX6_gather 60 = .ok (.aload_n 0, 1) := by decide +kernel
theorem dX6_gather_61 : decode cX6_gather 61 = .ok (.getfield 99, 3) := by decide +kernel
theorem dX6_gather_64 : decode cX6_gather 64 = .ok (.iconst 4, 1) := by decide +kernel
theorem dX6_gather_65 : decode cX6_gather 65 = .ok (.aload_n 0, 1) := by decide +kernel
theorem dX6_gather_66 : decode cX6_gather 66 = .ok (.getfield 198, 3) := by decide +kernel
theorem dX6_gather_69 : decode cX6_gather 69 = .ok (.imul, 1) := by decide +kernel
theorem dX6_gather_70 : decode cX6_gather 70 = .ok (.iload 4, 2) := by decide +kernel
theorem dX6_gather_72 : decode cX6_gather 72 = .ok (.iadd, 1) := by decide +kernel
theorem dX6_gather_73 : decode cX6_gather 73 = .ok (.aload_n 0, 1) := by decide +kernel
theorem dX6_gather_74 : decode cX6_gather 74 = .ok (.iload_n 3, 1) := by decide +kernel
theorem dX6_gather_75 : decode cX6_gather 75 = .ok (.aload_n 0, 1) := by decide +kernel
theorem dX6_gather_76 : decode cX6_gather 76 = .ok (.getfield 17, 3) := by decide +kernel
theorem dX6_gather_79 : decode cX6_gather 79 = .ok (.iconst 4, 1) := by decide +kernel
theorem dX6_gather_80 : decode cX6_gather 80 = .ok (.iload_n 2, 1) := by decide +kernel
theorem dX6_gather_81 : decode cX6_gather 81 = .ok (.imul, 1) := by decide +kernel
theorem dX6_gather_82 : decode cX6_gather 82 = .ok (.iload 4, 2) := by decide +kernel
theorem dX6_gather_84 : decode cX6_gather 84 = .ok (.iadd, 1) := by decide +kernel
theorem dX6_gather_85 : decode cX6_gather 85 = .ok (.iaload, 1) := by decide +kernel
theorem dX6_gather_86 : decode cX6_gather 86 = .ok (.invokevirtual 208, 3) := by decide +kernel
theorem dX6_gather_89 : decode cX6_gather 89 = .ok (.lastore, 1) := by decide +kernel
theorem dX6_gather_90 : decode cX6_gather 90 = .ok (.iinc 4 1, 3) := by decide +kernel
theorem dX6_gather_93 : decode cX6_gather 93 = .ok (.goto (-42), 3) := by decide +kernel
theorem dX6_gather_96 : decode cX6_gather 96 = .ok (.aload_n 0, 1) := by decide +kernel
theorem dX6_gather_97 : decode cX6_gather 97 = .ok (.dup, 1) := by decide +kernel
theorem dX6_gather_98 : decode cX6_gather 98 = .ok (.getfield 198, 3) := by decide +kernel
theorem dX6_gather_101 : decode cX6_gather 101 = .ok (.iconst 1, 1) := by decide +kernel
theorem dX6_gather_102 : decode cX6_gather 102 = .ok (.iadd, 1) := by decide +kernel
theorem dX6_gather_103 : decode cX6_gather 103 = .ok (.putfield 198, 3) := by decide +kernel
theorem dX6_gather_106 : decode cX6_gather 106 = .ok (.iinc 3 1, 3) := by decide +kernel
theorem dX6_gather_109 : decode cX6_gather 109 = .ok (.goto (-92), 3) := by decide +kernel
theorem dX6_gather_112 : decode cX6_gather 112 = .ok (.return_, 1) := by decide +kernel
theorem dX6_page_0 : decode cX6_page 0 = .ok (.iconst 0, 1) := by decide +kernel
theorem dX6_page_1 : decode cX6_page 1 = .ok (.istore_n 2, 1) := by decide +kernel
theorem dX6_page_2 : decode cX6_page 2 = .ok (.iload_n 1, 1) := by decide +kernel
theorem dX6_page_3 : decode cX6_page 3 = .ok (.ifCond .le 7, 3) := by decide +kernel
theorem dX6_page_6 : decode cX6_page 6 = .ok (.iconst 1, 1) := by decide +kernel
theorem dX6_page_7 : decode cX6_page 7 = .ok (.goto 4, 3) := by decide +kernel
theorem dX6_page_10 : decode cX6_page 10 = .ok (.iconst 0, 1) := by decide +kernel
theorem dX6_page_11 : decode cX6_page 11 = .ok (.istore_n 3, 1) := by decide +kernel
theorem dX6_page_12 : decode cX6_page 12 = .ok (.iload_n 1, 1) := by decide +kernel
theorem dX6_page_13 : decode cX6_page 13 = .ok (.istore 4, 2) := by decide +kernel
theorem dX6_page_15 : decode cX6_page 15 = .ok (.iload 4, 2) := by decide +kernel
theorem dX6_page_17 : decode cX6_page 17 = .ok (.ifCond .le 42, 3) := by decide +kernel
theorem dX6_page_20 : decode cX6_page 20 = .ok (.iload_n 3, 1) := by decide +kernel
theorem dX6_page_21 : decode cX6_page 21 = .ok (.ifCond .eq 22, 3) := by decide +kernel
theorem dX6_page_24 : decode cX6_page 24 = .ok (.iload 4, 2) := by decide +kernel
theorem dX6_page_26 : decode cX6_page 26 = .ok (.sipush 128, 3) := by decide +kernel
theorem dX6_page_29 : decode cX6_page 29 = .ok (.irem, 1) := by decide +kernel
theorem dX6_page_30 : decode cX6_page 30 = .ok (.iconst 1, 1) := by decide +kernel
theorem dX6_page_31 : decode cX6_page 31 = .ok (.bipush 100, 2) := by decide +kernel
theorem dX6_page_33 : decode cX6_page 33 = .ok (.invokestatic 136, 3) := by decide +kernel
theorem dX6_page_36 : decode cX6_page 36 = .ok (.ifCond .eq 7, 3) := by decide +kernel
theorem dX6_page_39 : decode cX6_page 39 = .ok (.iconst 1, 1) := by decide +kernel
theorem dX6_page_40 : decode cX6_page 40 = .ok (.goto 4, 3) := by decide +kernel
theorem dX6_page_43 : decode cX6_page 43 = .ok (.iconst 0, 1) := by decide +kernel
theorem dX6_page_44 : decode cX6_page 44 = .ok (.istore_n 3, 1) := by decide +kernel
theorem dX6_page_45 : decode cX6_page 45 = .ok (.iinc 2 1, 3) := by decide +kernel
theorem dX6_page_48 : decode cX6_page 48 = .ok (.iload 4, 2) := by decide +kernel
theorem dX6_page_50 : decode cX6_page 50 = .ok (.sipush 128, 3) := by decide +kernel
theorem dX6_page_53 : decode cX6_page 53 = .ok (.idiv, 1) := by decide +kernel
theorem dX6_page_54 : decode cX6_page 54 = .ok (.istore 4, 2) := by decide +kernel
theorem dX6_page_56 : decode cX6_page 56 = .ok (.goto (-41), 3) := by decide +kernel
theorem dX6_page_59 : decode cX6_page 59 = .ok (.iload_n 3, 1) := by decide +kernel
theorem dX6_page_60 : decode cX6_page 60 = .ok (.ifCond .eq 8, 3) := by decide +kernel
theorem dX6_page_63 : decode cX6_page 63 = .ok (.iload_n 2, 1) := by decide +kernel
theorem dX6_page_64 : decode cX6_page 64 = .ok (.iconst 4, 1) := by decide +kernel
theorem dX6_page_65 : decode cX6_page 65 = .ok (.if_icmp .le 5, 3) := by decide +kernel
theorem dX6_page_68 : decode cX6_page 68 = .ok (.iconst (-1), 1) := by decide +kernel
theorem dX6_page_69 : decode cX6_page 69 = .ok (.ireturn, 1) := by decide +kernel
theorem dX6_page_70 : decode cX6_page 70 = .ok (.aload_n 0, 1) := by decide +kernel
theorem dX6_page_71 : decode cX6_page 71 = .ok (.getfield 133, 3) := by decide +kernel
theorem dX6_page_74 : decode cX6_page 74 = .ok (.bipush 8, 2) := by decide +kernel
theorem dX6_page_76 : decode cX6_page 76 = .ok (.if_icmp .ne 6, 3) := by decide +kernel
theorem dX6_page_79 : decode cX6_page 79 = .ok (.bipush (-3), 2) := by decide +kernel
theorem dX6_page_81 : decode cX6_page 81 = .ok (.ireturn, 1) := by decide +kernel
theorem dX6_page_82 : decode cX6_page 82 = .ok (.iload_n 1, 1) := by decide +kernel
theorem dX6_page_83 : decode cX6_page 83 = .ok (.istore 4, 2) := by decide +kernel
theorem dX6_page_85 : decode cX6_page 85 = .ok (.iload_n 2, 1) := by decide +kernel
theorem dX6_page_86 : decode cX6_page 86 = .ok (.iconst 1, 1) := by decide +kernel
theorem dX6_page_87 : decode cX6_page 87 = .ok (.isub, 1) := by decide +kernel
theorem dX6_page_88 : decode cX6_page 88 = .ok (.istore 5, 2) := by decide +kernel
theorem dX6_page_90 : decode cX6_page 90 = .ok (.iload 5, 2) := by decide +kernel
theorem dX6_page_92 : decode cX6_page 92 = .ok (.ifCond .lt 37, 3) := by decide +kernel
theorem dX6_page_95 : decode cX6_page 95 = .ok (.aload_n 0, 1) := by decide +kernel
theorem dX6_page_96 : decode cX6_page 96 = .ok (.getfield 17, 3) := by decide +kernel
theorem dX6_page_99 : decode cX6_page 99 = .ok (.iconst 4, 1) := by decide +kernel
theorem dX6_page_100 : decode cX6_page 100 = .ok (.aload_n 0, 1) := by decide +kernel
theorem dX6_page_101 : decode cX6_page 101 = .ok (.getfield 133, 3) := by decide +kernel
theorem dX6_page_104 : decode cX6_page 104 = .ok (.imul, 1) := by decide +kernel
theorem dX6_page_105 : decode cX6_page 105 = .ok (.iload 5, 2) := by decide +kernel
theorem dX6_page_107 : decode cX6_page 107 = .ok (.iadd, 1) := by decide +kernel
theorem dX6_page_108 : decode cX6_page 108 = .ok (.iload 4, 2) := by decide +kernel
theorem dX6_page_110 : decode cX6_page 110 = .ok (.sipush 128, 3) := by decide +kernel
theorem dX6_page_113 : decode cX6_page 113 = .ok (.irem, 1) := by decide +kernel
theorem dX6_page_114 : decode cX6_page 114 = .ok (.iastore, 1) := by decide +kernel
theorem dX6_page_115 : decode cX6_page 115 = .ok (.iload 4, 2) := by decide +kernel
theorem dX6_page_117 : decode cX6_page 117 = .ok (.sipush 128, 3) := by decide +kernel
theorem dX6_page_120 : decode cX6_page 120 = .ok (.idiv, 1) := by decide +kernel
theorem dX6_page_121 : decode cX6_page 121 = .ok (.istore 4, 2) := by decide +kernel
theorem dX6_page_123 : decode cX6_page 123 = .ok (.iinc 5 (-1), 3) := by decide +kernel
theorem dX6_page_126 : decode cX6_page 126 = .ok (.goto (-36), 3) := by decide +kernel
theorem dX6_page_129 : decode cX6_page 129 = .ok (.aload_n 0, 1) := by decide +kernel
theorem dX6_page_130 : decode cX6_page 130 = .ok (.getfield 13, 3) := by decide +kernel
theorem dX6_page_133 : decode cX6_page 133 = .ok (.aload_n 0, 1) := by decide +kernel
theorem dX6_page_134 : decode cX6_page 134 = .ok (.getfield 133, 3) := by decide +kernel
theorem dX6_page_137 : decode cX6_page 137 = .ok (.iload_n 2, 1) := by decide +kernel
theorem dX6_page_138 : decode cX6_page 138 = .ok (.iastore, 1) := by decide +kernel
theorem dX6_page_139 : decode cX6_page 139 = .ok (.aload_n 0, 1) := by decide +kernel
theorem dX6_page_140 : decode cX6_page 140 = .ok (.dup, 1) := by decide +kernel
theorem dX6_page_141 : decode cX6_page 141 = .ok (.getfield 133, 3) := by decide +kernel
theorem dX6_page_144 : decode cX6_page 144 = .ok (.iconst 1, 1) := by decide +kernel
theorem dX6_page_145 : decode cX6_page 145 = .ok (.iadd, 1) := by decide +kernel
theorem dX6_page_146 : decode cX6_page 146 = .ok (.putfield 133, 3) := by decide +kernel
theorem dX6_page_149 : decode cX6_page 149 = .ok (.aload_n 0, 1) := by decide +kernel
theorem dX6_page_150 : decode cX6_page 150 = .ok (.getfield 133, 3) := by decide +kernel
theorem dX6_page_153 : decode cX6_page 153 = .ok (.iconst 1, 1) := by decide +kernel
theorem dX6_page_154 : decode cX6_page 154 = .ok (.isub, 1) := by decide +kernel
theorem dX6_page_155 : decode cX6_page 155 = .ok (.ireturn, 1) := by decide +kernel
