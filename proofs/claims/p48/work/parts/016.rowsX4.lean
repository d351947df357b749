theorem dX4_init_0 : decode cX4_init 0 = .ok (.aload_n 0, 1) := by decide +kernel
theorem dX4_init_1 : decode cX4_init 1 = .ok (.invokespecial 1, 3) := by decide +kernel
theorem dX4_init_4 : decode cX4_init 4 = .ok (.aload_n 0, 1) := by decide +kernel
theorem dX4_init_5 : decode cX4_init 5 = .ok (.sipush 510, 3) := by decide +kernel
theorem dX4_init_8 : decode cX4_init 8 = .ok (.newarray .int, 2) := by decide +kernel
theorem dX4_init_10 : decode cX4_init 10 = .ok (.putfield 9, 3) := by decide +kernel
theorem dX4_init_13 : decode cX4_init 13 = .ok (.aload_n 0, 1) := by decide +kernel
theorem dX4_init_14 : decode cX4_init 14 = .ok (.sipush 256, 3) := by decide +kernel
theorem dX4_init_17 : decode cX4_init 17 = .ok (.newarray .int, 2) := by decide +kernel
theorem dX4_init_19 : decode cX4_init 19 = .ok (.putfield 13, 3) := by decide +kernel
theorem dX4_init_22 : decode cX4_init 22 = .ok (.iconst 1, 1) := by decide +kernel
theorem dX4_init_23 : decode cX4_init 23 = .ok (.istore_n 1, 1) := by decide +kernel
theorem dX4_init_24 : decode cX4_init 24 = .ok (.iconst 0, 1) := by decide +kernel
theorem dX4_init_25 : decode cX4_init 25 = .ok (.istore_n 2, 1) := by decide +kernel
theorem dX4_init_26 : decode cX4_init 26 = .ok (.iload_n 2, 1) := by decide +kernel
theorem dX4_init_27 : decode cX4_init 27 = .ok (.aload_n 0, 1) := by decide +kernel
theorem dX4_init_28 : decode cX4_init 28 = .ok (.getfield 9, 3) := by decide +kernel
theorem dX4_init_31 : decode cX4_init 31 = .ok (.arraylength, 1) := by decide +kernel
theorem dX4_init_32 : decode cX4_init 32 = .ok (.if_icmp .ge 54, 3) := by decide +kernel
theorem dX4_init_35 : decode cX4_init 35 = .ok (.aload_n 0, 1) := by decide +kernel
theorem dX4_init_36 : decode cX4_init 36 = .ok (.getfield 9, 3) := by decide +kernel
theorem dX4_init_39 : decode cX4_init 39 = .ok (.iload_n 2, 1) := by decide +kernel
theorem dX4_init_40 : decode cX4_init 40 = .ok (.iload_n 1, 1) := by decide +kernel
theorem dX4_init_41 : decode cX4_init 41 = .ok (.iastore, 1) := by decide +kernel
theorem dX4_init_42 : decode cX4_init 42 = .ok (.aload_n 0, 1) := by decide +kernel
theorem dX4_init_43 : decode cX4_init 43 = .ok (.getfield 13, 3) := by decide +kernel
theorem dX4_init_46 : decode cX4_init 46 = .ok (.iload_n 1, 1) := by decide +kernel
theorem dX4_init_47 : decode cX4_init 47 = .ok (.sipush 255, 3) := by decide +kernel
theorem dX4_init_50 : decode cX4_init 50 = .ok (.iand, 1) := by decide +kernel
theorem dX4_init_51 : decode cX4_init 51 = .ok (.iload_n 2, 1) := by decide +kernel
theorem dX4_init_52 : decode cX4_init 52 = .ok (.sipush 255, 3) := by decide +kernel
theorem dX4_init_55 : decode cX4_init 55 = .ok (.irem, 1) := by decide +kernel
theorem dX4_init_56 : decode cX4_init 56 = .ok (.iastore, 1) := by decide +kernel
theorem dX4_init_57 : decode cX4_init 57 = .ok (.iload_n 1, 1) := by decide +kernel
theorem dX4_init_58 : decode cX4_init 58 = .ok (.iconst 2, 1) := by decide +kernel
theorem dX4_init_59 : decode cX4_init 59 = .ok (.imul, 1) := by decide +kernel
theorem dX4_init_60 : decode cX4_init 60 = .ok (.sipush 256, 3) := by decide +kernel
theorem dX4_init_63 : decode cX4_init 63 = .ok (.if_icmp .ge 9, 3) := by decide +kernel
theorem dX4_init_66 : decode cX4_init 66 = .ok (.iload_n 1, 1) := by decide +kernel
theorem dX4_init_67 : decode cX4_init 67 = .ok (.iconst 2, 1) := by decide +kernel
theorem dX4_init_68 : decode cX4_init 68 = .ok (.imul, 1) := by decide +kernel
theorem dX4_init_69 : decode cX4_init 69 = .ok (.goto 10, 3) := by decide +kernel
theorem dX4_init_72 : decode cX4_init 72 = .ok (.iload_n 1, 1) := by decide +kernel
theorem dX4_init_73 : decode cX4_init 73 = .ok (.iconst 2, 1) := by decide +kernel
theorem dX4_init_74 : decode cX4_init 74 = .ok (.imul, 1) := by decide +kernel
theorem dX4_init_75 : decode cX4_init 75 = .ok (.sipush 285, 3) := by decide +kernel
theorem dX4_init_78 : decode cX4_init 78 = .ok (.ixor, 1) := by decide +kernel
theorem dX4_init_79 : decode cX4_init 79 = .ok (.istore_n 1, 1) := by decide +kernel
theorem dX4_init_80 : decode cX4_init 80 = .ok (.iinc 2 1, 3) := by decide +kernel
theorem dX4_init_83 : decode cX4_init 83 = .ok (.goto (-57), 3) := by decide +kernel
theorem dX4_init_86 : decode cX4_init 86 = .ok (.return_, 1) := by decide +kernel
set_option maxRecDepth 20000 in
theorem ggX4_times_X4_twoRaised : GoodIn wsX4_times wsX4_twoRaised := goodIn_r _ [6, 7, 8, 9] (by decide +kernel) (by decide +kernel)
set_option maxRecDepth 20000 in
theorem gX4_times_X4_twoRaised : GoodIn wsX4_times (wsV RX4 16 RX4 yX4_twoRaised wsX4_twoRaised) := goodIn_app (goodIn_of _ (by decide +kernel)) ggX4_times_X4_twoRaised
theorem dX4_times_0 : decode cX4_times 0 = .ok (.iload_n 1, 1) := by decide +kernel
theorem dX4_times_1 : decode cX4_times 1 = .ok (.ifCond .eq 7, 3) := by decide +kernel
theorem dX4_times_4 : decode cX4_times 4 = .ok (.iload_n 2, 1) := by decide +kernel
theorem dX4_times_5 : decode cX4_times 5 = .ok (.ifCond .ne 5, 3) := by decide +kernel
theorem dX4_times_8 : decode cX4_times 8 = .ok (.iconst 0, 1) := by decide +kernel
theorem dX4_times_9 : decode cX4_times 9 = .ok (.ireturn, 1) := by decide +kernel
theorem dX4_times_10 : decode cX4_times 10 = .ok (.aload_n 0, 1) := by decide +kernel
theorem dX4_times_11 : decode cX4_times 11 = .ok (.aload_n 0, 1) := by decide +kernel
theorem dX4_times_12 : decode cX4_times 12 = .ok (.getfield 13, 3) := by decide +kernel
theorem dX4_times_15 : decode cX4_times 15 = .ok (.iload_n 1, 1) := by decide +kernel
theorem dX4_times_16 : decode cX4_times 16 = .ok (.sipush 255, 3) := by decide +kernel
theorem dX4_times_19 : decode cX4_times 19 = .ok (.iand, 1) := by decide +kernel
theorem dX4_times_20 : decode cX4_times 20 = .ok (.iaload, 1) := by decide +kernel
theorem dX4_times_21 : decode cX4_times 21 = .ok (.aload_n 0, 1) := by decide +kernel
theorem dX4_times_22 : decode cX4_times 22 = .ok (.getfield 13, 3) := by decide +kernel
theorem dX4_times_25 : decode cX4_times 25 = .ok (.iload_n 2, 1) := by decide +kernel
theorem dX4_times_26 : decode cX4_times 26 = .ok (.sipush 255, 3) := by decide +kernel
theorem dX4_times_29 : decode cX4_times 29 = .ok (.iand, 1) := by decide +kernel
theorem dX4_times_30 : decode cX4_times 30 = .ok (.iaload, 1) := by decide +kernel
theorem dX4_times_31 : decode cX4_times 31 = .ok (.iadd, 1) := by decide +kernel
theorem dX4_times_32 : decode cX4_times 32 = .ok (.invokevirtual 16, 3) := by decide +kernel
theorem dX4_times_35 : decode cX4_times 35 = .ok (.ireturn, 1) := by decide +kernel
theorem dX4_twoRaised_0 : decode cX4_twoRaised 0 = .ok (.iload_n 1, 1) := by decide +kernel
theorem dX4_twoRaised_1 : decode cX4_twoRaised 1 = .ok (.ifCond .lt 21, 3) := by decide +kernel
theorem dX4_twoRaised_4 : decode cX4_twoRaised 4 = .ok (.iload_n 1, 1) := by decide +kernel
theorem dX4_twoRaised_5 : decode cX4_twoRaised 5 = .ok (.aload_n 0, 1) := by decide +kernel
theorem dX4_twoRaised_6 : decode cX4_twoRaised 6 = .ok (.getfield 9, 3) := by decide +kernel
theorem dX4_twoRaised_9 : decode cX4_twoRaised 9 = .ok (.arraylength, 1) := by decide +kernel
theorem dX4_twoRaised_10 : decode cX4_twoRaised 10 = .ok (.if_icmp .ge 12, 3) := by decide +kernel
theorem dX4_twoRaised_13 : decode cX4_twoRaised 13 = .ok (.aload_n 0, 1) := by decide +kernel
theorem dX4_twoRaised_14 : decode cX4_twoRaised 14 = .ok (.getfield 9, 3) := by decide +kernel
theorem dX4_twoRaised_17 : decode cX4_twoRaised 17 = .ok (.iload_n 1, 1) := by decide +kernel
theorem dX4_twoRaised_18 : decode cX4_twoRaised 18 = .ok (.iaload, 1) := by decide +kernel
theorem dX4_twoRaised_19 : decode cX4_twoRaised 19 = .ok (.goto 4, 3) := by decide +kernel
theorem dX4_twoRaised_22 : decode cX4_twoRaised 22 = .ok (.iconst 0, 1) := by decide +kernel
theorem dX4_twoRaised_23 : decode cX4_twoRaised 23 = .ok (.ireturn, 1) := by decide +kernel
set_option maxRecDepth 20000 in
theorem ggX4_oneOver_X4_twoRaised : GoodIn wsX4_oneOver wsX4_twoRaised := goodIn_r _ [6, 7, 8, 9] (by decide +kernel) (by decide +kernel)
set_option maxRecDepth 20000 in
theorem gX4_oneOver_X4_twoRaised : GoodIn wsX4_oneOver (wsV RX4 16 RX4 yX4_twoRaised wsX4_twoRaised) := goodIn_app (goodIn_of _ (by decide +kernel)) ggX4_oneOver_X4_twoRaised
theorem dX4_oneOver_0 : decode cX4_oneOver 0 = .ok (.iload_n 1, 1) := by decide +kernel
theorem dX4_oneOver_1 : decode cX4_oneOver 1 = .ok (.ifCond .ne 7, 3) := by decide +kernel
theorem dX4_oneOver_4 : decode cX4_oneOver 4 = .ok (.iconst 0, 1) := by decide +kernel
theorem dX4_oneOver_5 : decode cX4_oneOver 5 = .ok (.goto 21, 3) := by decide +kernel
theorem dX4_oneOver_8 : decode cX4_oneOver 8 = .ok (.aload_n 0, 1) := by decide +kernel
theorem dX4_oneOver_9 : decode cX4_oneOver 9 = .ok (.sipush 255, 3) := by decide +kernel
theorem dX4_oneOver_12 : decode cX4_oneOver 12 = .ok (.aload_n 0, 1) := by decide +kernel
theorem dX4_oneOver_13 : decode cX4_oneOver 13 = .ok (.getfield 13, 3) := by decide +kernel
theorem dX4_oneOver_16 : decode cX4_oneOver 16 = .ok (.iload_n 1, 1) := by decide +kernel
theorem dX4_oneOver_17 : decode cX4_oneOver 17 = .ok (.sipush 255, 3) := by decide +kernel
theorem dX4_oneOver_20 : decode cX4_oneOver 20 = .ok (.iand, 1) := by decide +kernel
theorem dX4_oneOver_21 : decode cX4_oneOver 21 = .ok (.iaload, 1) := by decide +kernel
theorem dX4_oneOver_22 : decode cX4_oneOver 22 = .ok (.isub, 1) := by decide +kernel
theorem dX4_oneOver_23 : decode cX4_oneOver 23 = .ok (.invokevirtual 16, 3) := by decide +kernel
theorem dX4_oneOver_26 : decode cX4_oneOver 26 = .ok (.ireturn, 1) := by decide +kernel
set_option maxRecDepth 20000 in
theorem ggX4_parityWeight_X4_oneOver : GoodIn wsX4_parityWeight wsX4_oneOver := goodIn_r _ [5, 6, 7, 8, 9, 4, 10, 11, 12, 13] (by decide +kernel) (by decide +kernel)
set_option maxRecDepth 20000 in
theorem gX4_parityWeight_X4_oneOver : GoodIn wsX4_parityWeight (wsV RX4 20 RX4 yX4_oneOver wsX4_oneOver) := goodIn_app (goodIn_of _ (by decide +kernel)) ggX4_parityWeight_X4_oneOver
theorem dX4_parityWeight_0 : decode cX4_parityWeight 0 = .ok (.aload_n 0, 1) := by decide +kernel
theorem dX4_parityWeight_1 : decode cX4_parityWeight 1 = .ok (.sipush 128, 3) := by decide +kernel
theorem dX4_parityWeight_4 : decode cX4_parityWeight 4 = .ok (.iload_n 1, 1) := by decide +kernel
theorem dX4_parityWeight_5 : decode cX4_parityWeight 5 = .ok (.iadd, 1) := by decide +kernel
theorem dX4_parityWeight_6 : decode cX4_parityWeight 6 = .ok (.iload_n 2, 1) := by decide +kernel
theorem dX4_parityWeight_7 : decode cX4_parityWeight 7 = .ok (.ixor, 1) := by decide +kernel
theorem dX4_parityWeight_8 : decode cX4_parityWeight 8 = .ok (.invokevirtual 20, 3) := by decide +kernel
theorem dX4_parityWeight_11 : decode cX4_parityWeight 11 = .ok (.ireturn, 1) := by decide +kernel
set_option maxRecDepth 20000 in
theorem ggX4_addProducts_X0_at : GoodIn wsX4_addProducts wsX0_at := goodIn_r _ [5, 6, 7, 23, 24] (by decide +kernel) (by decide +kernel)
set_option maxRecDepth 20000 in
theorem gX4_addProducts_X0_at : GoodIn wsX4_addProducts (wsV RX4 23 RX0 yX0_at wsX0_at) := goodIn_app (goodIn_of _ (by decide +kernel)) ggX4_addProducts_X0_at
set_option maxRecDepth 20000 in
theorem ggX4_addProducts_X4_times : GoodIn wsX4_addProducts wsX4_times := goodIn_r _ [12, 13, 14, 15, 16, 11, 17, 18, 25, 26] (by decide +kernel) (by decide +kernel)
set_option maxRecDepth 20000 in
theorem gX4_addProducts_X4_times : GoodIn wsX4_addProducts (wsV RX4 28 RX4 yX4_times wsX4_times) := goodIn_app (goodIn_of _ (by decide +kernel)) ggX4_addProducts_X4_times
set_option maxRecDepth 20000 in
theorem ggX4_addProducts_X0_put : GoodIn wsX4_addProducts wsX0_put := goodIn_r _ [22, 6, 7, 23, 24] (by decide +kernel) (by decide +kernel)
set_option maxRecDepth 20000 in
theorem gX4_addProducts_X0_put : GoodIn wsX4_addProducts (wsV RX4 32 RX0 yX0_put wsX0_put) := goodIn_app (goodIn_of _ (by decide +kernel)) ggX4_addProducts_X0_put
theorem dX4_addProducts_0 : decode cX4_addProducts 0 = .ok (.iload_n 3, 1) := by decide +kernel
theorem dX4_addProducts_1 : decode cX4_addProducts 1 = .ok (.ifCond .ne 4, 3) := by decide +kernel
theorem dX4_addProducts_4 : decode cX4_addProducts 4 = .ok (.return_, 1) := by decide +kernel
theorem dX4_addProducts_5 : decode cX4_addProducts 5 = .ok (.iconst 0, 1) := by decide +kernel
theorem dX4_addProducts_6 : decode cX4_addProducts 6 = .ok (.istore 7, 2) := by decide +kernel
theorem dX4_addProducts_8 : decode cX4_addProducts 8 = .ok (.iload 7, 2) := by decide +kernel
theorem dX4_addProducts_10 : decode cX4_addProducts 10 = .ok (.iload 6, 2) := by decide +kernel
theorem dX4_addProducts_12 : decode cX4_addProducts 12 = .ok (.if_icmp .ge 45, 3) := by decide +kernel
theorem dX4_addProducts_15 : decode cX4_addProducts 15 = .ok (.aload_n 1, 1) := by decide +kernel
theorem dX4_addProducts_16 : decode cX4_addProducts 16 = .ok (.iload_n 2, 1) := by decide +kernel
theorem dX4_addProducts_17 : decode cX4_addProducts 17 = .ok (.iload 7, 2) := by decide +kernel
theorem dX4_addProducts_19 : decode cX4_addProducts 19 = .ok (.iadd, 1) := by decide +kernel
theorem dX4_addProducts_20 : decode cX4_addProducts 20 = .ok (.invokevirtual 23, 3) := by decide +kernel
theorem dX4_addProducts_23 : decode cX4_addProducts 23 = .ok (.aload_n 0, 1) := by decide +kernel
theorem dX4_addProducts_24 : decode cX4_addProducts 24 = .ok (.iload_n 3, 1) := by decide +kernel
theorem dX4_addProducts_25 : decode cX4_addProducts 25 = .ok (.aload 4, 2) := by decide +kernel
theorem dX4_addProducts_27 : decode cX4_addProducts 27 = .ok (.iload 5, 2) := by decide +kernel
theorem dX4_addProducts_29 : decode cX4_addProducts 29 = .ok (.iload 7, 2) := by decide +kernel
theorem dX4_addProducts_31 : decode cX4_addProducts 31 = .ok (.iadd, 1) := by decide +kernel
theorem dX4_addProducts_32 : decode cX4_addProducts 32 = .ok (.invokevirtual 23, 3) := by decide +kernel
theorem dX4_addProducts_35 : decode cX4_addProducts 35 = .ok (.invokevirtual 28, 3) := by decide +kernel
theorem dX4_addProducts_38 : decode cX4_addProducts 38 = .ok (.ixor, 1) := by decide +kernel
theorem dX4_addProducts_39 : decode cX4_addProducts 39 = .ok (.istore 8, 2) := by decide +kernel
theorem dX4_addProducts_41 : decode cX4_addProducts 41 = .ok (.aload_n 1, 1) := by decide +kernel
theorem dX4_addProducts_42 : decode cX4_addProducts 42 = .ok (.iload_n 2, 1) := by decide +kernel
theorem dX4_addProducts_43 : decode cX4_addProducts 43 = .ok (.iload 7, 2) := by decide +kernel
theorem dX4_addProducts_45 : decode cX4_addProducts 45 = .ok (.iadd, 1) := by decide +kernel
theorem dX4_addProducts_46 : decode cX4_addProducts 46 = .ok (.iload 8, 2) := by decide +kernel
theorem dX4_addProducts_48 : decode cX4_addProducts 48 = .ok (.invokevirtual 32, 3) := by decide +kernel
theorem dX4_addProducts_51 : decode cX4_addProducts 51 = .ok (.iinc 7 1, 3) := by decide +kernel
theorem dX4_addProducts_54 : decode cX4_addProducts 54 = .ok (.goto (-46), 3) := by decide +kernel
theorem dX4_addProducts_57 : decode cX4_addProducts 57 = .ok (.return_, 1) := by decide +kernel
set_option maxRecDepth 20000 in
theorem ggX4_weight_X4_parityWeight : GoodIn wsX4_weight wsX4_parityWeight := goodIn_r _ [5, 6, 7, 8, 4, 9, 10, 11, 12, 13, 14, 15, 16, 17] (by decide +kernel) (by decide +kernel)
set_option maxRecDepth 20000 in
theorem gX4_weight_X4_parityWeight : GoodIn wsX4_weight (wsV RX4 36 RX4 yX4_parityWeight wsX4_parityWeight) := goodIn_app (goodIn_of _ (by decide +kernel)) ggX4_weight_X4_parityWeight
theorem dX4_weight_0 : decode cX4_weight 0 = .ok (.iload_n 1, 1) := by decide +kernel
theorem dX4_weight_1 : decode cX4_weight 1 = .ok (.iload_n 3, 1) := by decide +kernel
theorem dX4_weight_2 : decode cX4_weight 2 = .ok (.if_icmp .ge 14, 3) := by decide +kernel
theorem dX4_weight_5 : decode cX4_weight 5 = .ok (.iload_n 1, 1) := by decide +kernel
theorem dX4_weight_6 : decode cX4_weight 6 = .ok (.iload_n 2, 1) := by decide +kernel
theorem dX4_weight_7 : decode cX4_weight 7 = .ok (.if_icmp .ne 7, 3) := by decide +kernel
theorem dX4_weight_10 : decode cX4_weight 10 = .ok (.iconst 1, 1) := by decide +kernel
theorem dX4_weight_11 : decode cX4_weight 11 = .ok (.goto 4, 3) := by decide +kernel
theorem dX4_weight_14 : decode cX4_weight 14 = .ok (.iconst 0, 1) := by decide +kernel
theorem dX4_weight_15 : decode cX4_weight 15 = .ok (.ireturn, 1) := by decide +kernel
theorem dX4_weight_16 : decode cX4_weight 16 = .ok (.aload_n 0, 1) := by decide +kernel
theorem dX4_weight_17 : decode cX4_weight 17 = .ok (.iload_n 1, 1) := by decide +kernel
theorem dX4_weight_18 : decode cX4_weight 18 = .ok (.iload_n 3, 1) := by decide +kernel
theorem dX4_weight_19 : decode cX4_weight 19 = .ok (.isub, 1) := by decide +kernel
theorem dX4_weight_20 : decode cX4_weight 20 = .ok (.iload_n 2, 1) := by decide +kernel
theorem dX4_weight_21 : decode cX4_weight 21 = .ok (.invokevirtual 36, 3) := by decide +kernel
theorem dX4_weight_24 : decode cX4_weight 24 = .ok (.ireturn, 1) := by decide +kernel
