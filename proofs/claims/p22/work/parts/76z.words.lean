theorem wm_460 : Cond.methodLink RX4 3 objectInit ∈ lw_B := lb_1 179 (by decide +kernel) rfl
theorem wm_461 : Cond.instanceMethod objectInit ∈ lw_B := lb_1 15 (by decide +kernel) rfl
theorem wm_462 : Cond.code objectInit ⟨#[0xb1]⟩ 1 none ∈ lw_B := lb_1 16 (by decide +kernel) rfl
theorem wm_463 : Cond.methodLink RX3 1 objectInit ∈ lw_B := lb_3 19 (by decide +kernel) rfl
theorem wm_464 : Cond.fieldLink RX3 7 "NoticeMarket$Sale" "soldAt" "I" ∈ lw_B := lb_3 20 (by decide +kernel) rfl
theorem wm_465 : Cond.fieldLink RX3 13 "NoticeMarket$Sale" "reader" "I" ∈ lw_B := lb_3 23 (by decide +kernel) rfl
theorem wm_466 : Cond.fieldLink RX3 16 "NoticeMarket$Sale" "page" "I" ∈ lw_B := lb_3 26 (by decide +kernel) rfl
theorem wm_467 : Cond.fieldLink RX3 19 "NoticeMarket$Sale" "place" "I" ∈ lw_B := lb_3 28 (by decide +kernel) rfl
theorem wm_468 : Cond.fieldLink RX3 22 "NoticeMarket$Sale" "campaign" "I" ∈ lw_B := lb_3 30 (by decide +kernel) rfl
theorem wm_469 : Cond.methodLink RX2 3 objectInit ∈ lw_B := lb_1 130 (by decide +kernel) rfl
theorem wm_470 : Cond.arrayClass .int ∈ lw_B := lb_1 62 (by decide +kernel) rfl
theorem wm_471 : Cond.fieldLink RX2 9 "NoticeMarket$Page" "sizes" "[I" ∈ lw_B := lb_1 134 (by decide +kernel) rfl
theorem wm_472 : Cond.fieldLink RX2 15 "NoticeMarket$Page" "places" "I" ∈ lw_B := lb_1 136 (by decide +kernel) rfl
theorem wm_473 : Cond.methodLink RX2 19 Lib.Math.min.name ∈ lw_B := lb_1 131 (by decide +kernel) rfl
theorem wm_474 : Cond.methodLink RX0 3 objectInit ∈ lw_B := lb_1 173 (by decide +kernel) rfl
theorem wm_475 : Cond.classLink RX0 9 RX4 ∈ lw_B := lb_1 174 (by decide +kernel) rfl
theorem wm_476 : Cond.instantiable RX4 8 ∈ lw_B := lb_1 175 (by decide +kernel) rfl
theorem wm_477 : Cond.instanceMethod yX4_init ∈ lw_B := lb_1 177 (by decide +kernel) rfl
theorem wm_478 : Cond.code yX4_init cX4_init 1 none ∈ lw_B := lb_1 178 (by decide +kernel) rfl
theorem wm_479 : Cond.fieldLink RX0 18 "NoticeMarket$Campaign" "mostShowings" "I" ∈ lw_B := lb_1 227 (by decide +kernel) rfl
theorem wm_480 : Cond.fieldLink RX0 22 "NoticeMarket$Campaign" "capSpan" "I" ∈ lw_B := lb_1 229 (by decide +kernel) rfl
theorem dX5_placesIn_0 : decode cX5_placesIn 0 = .ok (.iconst 0, 1) := by decide +kernel
theorem dX5_placesIn_1 : decode cX5_placesIn 1 = .ok (.istore_n 1, 1) := by decide +kernel
theorem dX5_placesIn_2 : decode cX5_placesIn 2 = .ok (.iload_n 0, 1) := by decide +kernel
theorem dX5_placesIn_3 : decode cX5_placesIn 3 = .ok (.istore_n 2, 1) := by decide +kernel
theorem dX5_placesIn_4 : decode cX5_placesIn 4 = .ok (.iload_n 2, 1) := by decide +kernel
theorem dX5_placesIn_5 : decode cX5_placesIn 5 = .ok (.ifCond .le 36, 3) := by decide +kernel
theorem dX5_placesIn_8 : decode cX5_placesIn 8 = .ok (.iload_n 1, 1) := by decide +kernel
theorem dX5_placesIn_9 : decode cX5_placesIn 9 = .ok (.iconst 4, 1) := by decide +kernel
theorem dX5_placesIn_10 : decode cX5_placesIn 10 = .ok (.if_icmp .ge 31, 3) := by decide +kernel
theorem dX5_placesIn_13 : decode cX5_placesIn 13 = .ok (.iload_n 2, 1) := by decide +kernel
theorem dX5_placesIn_14 : decode cX5_placesIn 14 = .ok (.sipush 128, 3) := by decide +kernel
theorem dX5_placesIn_17 : decode cX5_placesIn 17 = .ok (.irem, 1) := by decide +kernel
theorem dX5_placesIn_18 : decode cX5_placesIn 18 = .ok (.iconst 1, 1) := by decide +kernel
theorem dX5_placesIn_19 : decode cX5_placesIn 19 = .ok (.bipush 100, 2) := by decide +kernel
theorem dX5_placesIn_21 : decode cX5_placesIn 21 = .ok (.invokestatic 65, 3) := by decide +kernel
theorem dX5_placesIn_24 : decode cX5_placesIn 24 = .ok (.ifCond .ne 5, 3) := by decide +kernel
theorem dX5_placesIn_27 : decode cX5_placesIn 27 = .ok (.iconst 0, 1) := by decide +kernel
theorem dX5_placesIn_28 : decode cX5_placesIn 28 = .ok (.ireturn, 1) := by decide +kernel
theorem dX5_placesIn_29 : decode cX5_placesIn 29 = .ok (.iload_n 2, 1) := by decide +kernel
theorem dX5_placesIn_30 : decode cX5_placesIn 30 = .ok (.sipush 128, 3) := by decide +kernel
theorem dX5_placesIn_33 : decode cX5_placesIn 33 = .ok (.idiv, 1) := by decide +kernel
theorem dX5_placesIn_34 : decode cX5_placesIn 34 = .ok (.istore_n 2, 1) := by decide +kernel
theorem dX5_placesIn_35 : decode cX5_placesIn 35 = .ok (.iinc 1 1, 3) := by decide +kernel
theorem dX5_placesIn_38 : decode cX5_placesIn 38 = .ok (.goto (-34), 3) := by decide +kernel
theorem dX5_placesIn_41 : decode cX5_placesIn 41 = .ok (.iload_n 2, 1) := by decide +kernel
theorem dX5_placesIn_42 : decode cX5_placesIn 42 = .ok (.ifCond .ne 7, 3) := by decide +kernel
theorem dX5_placesIn_45 : decode cX5_placesIn 45 = .ok (.iload_n 1, 1) := by decide +kernel
theorem dX5_placesIn_46 : decode cX5_placesIn 46 = .ok (.goto 4, 3) := by decide +kernel
theorem dX5_placesIn_49 : decode cX5_placesIn 49 = .ok (.iconst 0, 1) := by decide +kernel
theorem dX5_placesIn_50 : decode cX5_placesIn 50 = .ok (.ireturn, 1) := by decide +kernel
theorem dX4_init_0 : decode cX4_init 0 = .ok (.aload_n 0, 1) := by decide +kernel
theorem dX4_init_1 : decode cX4_init 1 = .ok (.invokespecial 3, 3) := by decide +kernel
theorem dX4_init_4 : decode cX4_init 4 = .ok (.return_, 1) := by decide +kernel
theorem dX3_init_0 : decode cX3_init 0 = .ok (.aload_n 0, 1) := by decide +kernel
theorem dX3_init_1 : decode cX3_init 1 = .ok (.invokespecial 1, 3) := by decide +kernel
theorem dX3_init_4 : decode cX3_init 4 = .ok (.aload_n 0, 1) := by decide +kernel
theorem dX3_init_5 : decode cX3_init 5 = .ok (.iload_n 1, 1) := by decide +kernel
theorem dX3_init_6 : decode cX3_init 6 = .ok (.putfield 7, 3) := by decide +kernel
theorem dX3_init_9 : decode cX3_init 9 = .ok (.aload_n 0, 1) := by decide +kernel
theorem dX3_init_10 : decode cX3_init 10 = .ok (.iload_n 2, 1) := by decide +kernel
theorem dX3_init_11 : decode cX3_init 11 = .ok (.putfield 13, 3) := by decide +kernel
theorem dX3_init_14 : decode cX3_init 14 = .ok (.aload_n 0, 1) := by decide +kernel
theorem dX3_init_15 : decode cX3_init 15 = .ok (.iload_n 3, 1) := by decide +kernel
theorem dX3_init_16 : decode cX3_init 16 = .ok (.putfield 16, 3) := by decide +kernel
theorem dX3_init_19 : decode cX3_init 19 = .ok (.aload_n 0, 1) := by decide +kernel
theorem dX3_init_20 : decode cX3_init 20 = .ok (.iload 4, 2) := by decide +kernel
theorem dX3_init_22 : decode cX3_init 22 = .ok (.putfield 19, 3) := by decide +kernel
theorem dX3_init_25 : decode cX3_init 25 = .ok (.aload_n 0, 1) := by decide +kernel
theorem dX3_init_26 : decode cX3_init 26 = .ok (.iload 5, 2) := by decide +kernel
theorem dX3_init_28 : decode cX3_init 28 = .ok (.putfield 22, 3) := by decide +kernel
theorem dX3_init_31 : decode cX3_init 31 = .ok (.return_, 1) := by decide +kernel
theorem dX2_init_0 : decode cX2_init 0 = .ok (.aload_n 0, 1) := by decide +kernel
theorem dX2_init_1 : decode cX2_init 1 = .ok (.invokespecial 3, 3) := by decide +kernel
theorem dX2_init_4 : decode cX2_init 4 = .ok (.aload_n 0, 1) := by decide +kernel
theorem dX2_init_5 : decode cX2_init 5 = .ok (.iconst 4, 1) := by decide +kernel
theorem dX2_init_6 : decode cX2_init 6 = .ok (.newarray .int, 2) := by decide +kernel
theorem dX2_init_8 : decode cX2_init 8 = .ok (.putfield 9, 3) := by decide +kernel
theorem dX2_init_11 : decode cX2_init 11 = .ok (.aload_n 0, 1) := by decide +kernel
theorem dX2_init_12 : decode cX2_init 12 = .ok (.iload_n 2, 1) := by decide +kernel
theorem dX2_init_13 : decode cX2_init 13 = .ok (.putfield 15, 3) := by decide +kernel
theorem dX2_init_16 : decode cX2_init 16 = .ok (.iload_n 1, 1) := by decide +kernel
theorem dX2_init_17 : decode cX2_init 17 = .ok (.istore_n 3, 1) := by decide +kernel
theorem dX2_init_18 : decode cX2_init 18 = .ok (.iload_n 2, 1) := by decide +kernel
theorem dX2_init_19 : decode cX2_init 19 = .ok (.iconst 4, 1) := by decide +kernel
theorem dX2_init_20 : decode cX2_init 20 = .ok (.invokestatic 19, 3) := by decide +kernel
theorem dX2_init_23 : decode cX2_init 23 = .ok (.iconst 1, 1) := by decide +kernel
theorem dX2_init_24 : decode cX2_init 24 = .ok (.isub, 1) := by decide +kernel
theorem dX2_init_25 : decode cX2_init 25 = .ok (.istore 4, 2) := by decide +kernel
theorem dX2_init_27 : decode cX2_init 27 = .ok (.iload 4, 2) := by decide +kernel
theorem dX2_init_29 : decode cX2_init 29 = .ok (.ifCond .lt 27, 3) := by decide +kernel
theorem dX2_init_32 : decode cX2_init 32 = .ok (.aload_n 0, 1) := by decide +kernel
theorem dX2_init_33 : decode cX2_init 33 = .ok (.getfield 9, 3) := by decide +kernel
theorem dX2_init_36 : decode cX2_init 36 = .ok (.iload 4, 2) := by decide +kernel
theorem dX2_init_38 : decode cX2_init 38 = .ok (.iload_n 3, 1) := by decide +kernel
theorem dX2_init_39 : decode cX2_init 39 = .ok (.sipush 128, 3) := by decide +kernel
theorem dX2_init_42 : decode cX2_init 42 = .ok (.irem, 1) := by decide +kernel
theorem dX2_init_43 : decode cX2_init 43 = .ok (.iastore, 1) := by decide +kernel
theorem dX2_init_44 : decode cX2_init 44 = .ok (.iload_n 3, 1) := by decide +kernel
theorem dX2_init_45 : decode cX2_init 45 = .ok (.sipush 128, 3) := by decide +kernel
theorem dX2_init_48 : decode cX2_init 48 = .ok (.idiv, 1) := by decide +kernel
theorem dX2_init_49 : decode cX2_init 49 = .ok (.istore_n 3, 1) := by decide +kernel
theorem dX2_init_50 : decode cX2_init 50 = .ok (.iinc 4 (-1), 3) := by decide +kernel
theorem dX2_init_53 : decode cX2_init 53 = .ok (.goto (-26), 3) := by decide +kernel
theorem dX2_init_56 : decode cX2_init 56 = .ok (.return_, 1) := by decide +kernel
theorem dX0_init_0 : decode cX0_init 0 = .ok (.aload_n 0, 1) := by decide +kernel
theorem dX0_init_1 : decode cX0_init 1 = .ok (.invokespecial 3, 3) := by decide +kernel
theorem dX0_init_4 : decode cX0_init 4 = .ok (.aload_n 0, 1) := by decide +kernel
theorem dX0_init_5 : decode cX0_init 5 = .ok (.new 9, 3) := by decide +kernel
theorem dX0_init_8 : decode cX0_init 8 = .ok (.dup, 1) := by decide +kernel
theorem dX0_init_9 : decode cX0_init 9 = .ok (.invokespecial 11, 3) := by decide +kernel
theorem dX0_init_12 : decode cX0_init 12 = .ok (.putfield 12, 3) := by decide +kernel
theorem dX0_init_15 : decode cX0_init 15 = .ok (.aload_n 0, 1) := by decide +kernel
theorem dX0_init_16 : decode cX0_init 16 = .ok (.bipush 9, 2) := by decide +kernel
theorem dX0_init_18 : decode cX0_init 18 = .ok (.putfield 18, 3) := by decide +kernel
theorem dX0_init_21 : decode cX0_init 21 = .ok (.aload_n 0, 1) := by decide +kernel
theorem dX0_init_22 : decode cX0_init 22 = .ok (.iconst 1, 1) := by decide +kernel
theorem dX0_init_23 : decode cX0_init 23 = .ok (.putfield 22, 3) := by decide +kernel
theorem dX0_init_26 : decode cX0_init 26 = .ok (.aload_n 0, 1) := by decide +kernel
theorem dX0_init_27 : decode cX0_init 27 = .ok (.sipush 1000, 3) := by decide +kernel
theorem dX0_init_30 : decode cX0_init 30 = .ok (.putfield 25, 3) := by decide +kernel
theorem dX0_init_33 : decode cX0_init 33 = .ok (.aload_n 0, 1) := by decide +kernel
theorem dX0_init_34 : decode cX0_init 34 = .ok (.iload_n 1, 1) := by decide +kernel
theorem dX0_init_35 : decode cX0_init 35 = .ok (.bipush 10, 2) := by decide +kernel
theorem dX0_init_37 : decode cX0_init 37 = .ok (.idiv, 1) := by decide +kernel
theorem dX0_init_38 : decode cX0_init 38 = .ok (.putfield 28, 3) := by decide +kernel
theorem dX0_init_41 : decode cX0_init 41 = .ok (.aload_n 0, 1) := by decide +kernel
theorem dX0_init_42 : decode cX0_init 42 = .ok (.iload_n 1, 1) := by decide +kernel
theorem dX0_init_43 : decode cX0_init 43 = .ok (.bipush 10, 2) := by decide +kernel
theorem dX0_init_45 : decode cX0_init 45 = .ok (.irem, 1) := by decide +kernel
theorem dX0_init_46 : decode cX0_init 46 = .ok (.iconst 1, 1) := by decide +kernel
theorem dX0_init_47 : decode cX0_init 47 = .ok (.if_icmp .ne 7, 3) := by decide +kernel
theorem dX0_init_50 : decode cX0_init 50 = .ok (.iconst 1, 1) := by decide +kernel
theorem dX0_init_51 : decode cX0_init 51 = .ok (.goto 4, 3) := by decide +kernel
theorem dX0_init_54 : decode cX0_init 54 = .ok (.iconst 0, 1) := by decide +kernel
theorem dX0_init_55 : decode cX0_init 55 = .ok (.putfield 31, 3) := by decide +kernel
theorem dX0_init_58 : decode cX0_init 58 = .ok (.aload_n 0, 1) := by decide +kernel
theorem dX0_init_59 : decode cX0_init 59 = .ok (.iload_n 2, 1) := by decide +kernel
theorem dX0_init_60 : decode cX0_init 60 = .ok (.sipush 4096, 3) := by decide +kernel
theorem dX0_init_63 : decode cX0_init 63 = .ok (.idiv, 1) := by decide +kernel
theorem dX0_init_64 : decode cX0_init 64 = .ok (.putfield 35, 3) := by decide +kernel
theorem dX0_init_67 : decode cX0_init 67 = .ok (.aload_n 0, 1) := by decide +kernel
theorem dX0_init_68 : decode cX0_init 68 = .ok (.iload_n 2, 1) := by decide +kernel
theorem dX0_init_69 : decode cX0_init 69 = .ok (.sipush 4096, 3) := by decide +kernel
theorem dX0_init_72 : decode cX0_init 72 = .ok (.irem, 1) := by decide +kernel
theorem dX0_init_73 : decode cX0_init 73 = .ok (.putfield 38, 3) := by decide +kernel
theorem dX0_init_76 : decode cX0_init 76 = .ok (.aload_n 0, 1) := by decide +kernel
theorem dX0_init_77 : decode cX0_init 77 = .ok (.iload_n 3, 1) := by decide +kernel
theorem dX0_init_78 : decode cX0_init 78 = .ok (.putfield 41, 3) := by decide +kernel
theorem dX0_init_81 : decode cX0_init 81 = .ok (.return_, 1) := by decide +kernel
