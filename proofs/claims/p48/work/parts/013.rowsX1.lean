set_option maxRecDepth 20000 in
theorem ggX1_init_X1_eightSteps : GoodIn wsX1_init wsX1_eightSteps := goodIn_r _ [9, 10] (by decide +kernel) (by decide +kernel)
set_option maxRecDepth 20000 in
theorem gX1_init_X1_eightSteps : GoodIn wsX1_init (va_wsS RX1 13 yX1_eightSteps wsX1_eightSteps) := goodIn_app (goodIn_of _ (by decide +kernel)) ggX1_init_X1_eightSteps
theorem dX1_init_0 : decode cX1_init 0 = .ok (.aload_n 0, 1) := by decide +kernel
theorem dX1_init_1 : decode cX1_init 1 = .ok (.invokespecial 1, 3) := by decide +kernel
theorem dX1_init_4 : decode cX1_init 4 = .ok (.aload_n 0, 1) := by decide +kernel
theorem dX1_init_5 : decode cX1_init 5 = .ok (.sipush 256, 3) := by decide +kernel
theorem dX1_init_8 : decode cX1_init 8 = .ok (.newarray .int, 2) := by decide +kernel
theorem dX1_init_10 : decode cX1_init 10 = .ok (.putfield 7, 3) := by decide +kernel
theorem dX1_init_13 : decode cX1_init 13 = .ok (.iconst 0, 1) := by decide +kernel
theorem dX1_init_14 : decode cX1_init 14 = .ok (.istore_n 1, 1) := by decide +kernel
theorem dX1_init_15 : decode cX1_init 15 = .ok (.iload_n 1, 1) := by decide +kernel
theorem dX1_init_16 : decode cX1_init 16 = .ok (.aload_n 0, 1) := by decide +kernel
theorem dX1_init_17 : decode cX1_init 17 = .ok (.getfield 7, 3) := by decide +kernel
theorem dX1_init_20 : decode cX1_init 20 = .ok (.arraylength, 1) := by decide +kernel
theorem dX1_init_21 : decode cX1_init 21 = .ok (.if_icmp .ge 23, 3) := by decide +kernel
theorem dX1_init_24 : decode cX1_init 24 = .ok (.aload_n 0, 1) := by decide +kernel
theorem dX1_init_25 : decode cX1_init 25 = .ok (.getfield 7, 3) := by decide +kernel
theorem dX1_init_28 : decode cX1_init 28 = .ok (.iload_n 1, 1) := by decide +kernel
theorem dX1_init_29 : decode cX1_init 29 = .ok (.iload_n 1, 1) := by decide +kernel
theorem dX1_init_30 : decode cX1_init 30 = .ok (.sipush 256, 3) := by decide +kernel
theorem dX1_init_33 : decode cX1_init 33 = .ok (.imul, 1) := by decide +kernel
theorem dX1_init_34 : decode cX1_init 34 = .ok (.invokestatic 13, 3) := by decide +kernel
theorem dX1_init_37 : decode cX1_init 37 = .ok (.iastore, 1) := by decide +kernel
theorem dX1_init_38 : decode cX1_init 38 = .ok (.iinc 1 1, 3) := by decide +kernel
theorem dX1_init_41 : decode cX1_init 41 = .ok (.goto (-26), 3) := by decide +kernel
theorem dX1_init_44 : decode cX1_init 44 = .ok (.return_, 1) := by decide +kernel
theorem dX1_eightSteps_0 : decode cX1_eightSteps 0 = .ok (.iload_n 0, 1) := by decide +kernel
theorem dX1_eightSteps_1 : decode cX1_eightSteps 1 = .ok (.istore_n 1, 1) := by decide +kernel
theorem dX1_eightSteps_2 : decode cX1_eightSteps 2 = .ok (.iconst 0, 1) := by decide +kernel
theorem dX1_eightSteps_3 : decode cX1_eightSteps 3 = .ok (.istore_n 2, 1) := by decide +kernel
theorem dX1_eightSteps_4 : decode cX1_eightSteps 4 = .ok (.iload_n 2, 1) := by decide +kernel
theorem dX1_eightSteps_5 : decode cX1_eightSteps 5 = .ok (.bipush 8, 2) := by decide +kernel
theorem dX1_eightSteps_7 : decode cX1_eightSteps 7 = .ok (.if_icmp .ge 34, 3) := by decide +kernel
theorem dX1_eightSteps_10 : decode cX1_eightSteps 10 = .ok (.iload_n 1, 1) := by decide +kernel
theorem dX1_eightSteps_11 : decode cX1_eightSteps 11 = .ok (.iconst 2, 1) := by decide +kernel
theorem dX1_eightSteps_12 : decode cX1_eightSteps 12 = .ok (.imul, 1) := by decide +kernel
theorem dX1_eightSteps_13 : decode cX1_eightSteps 13 = .ok (.ldc 17, 2) := by decide +kernel
theorem dX1_eightSteps_15 : decode cX1_eightSteps 15 = .ok (.if_icmp .ge 9, 3) := by decide +kernel
theorem dX1_eightSteps_18 : decode cX1_eightSteps 18 = .ok (.iload_n 1, 1) := by decide +kernel
theorem dX1_eightSteps_19 : decode cX1_eightSteps 19 = .ok (.iconst 2, 1) := by decide +kernel
theorem dX1_eightSteps_20 : decode cX1_eightSteps 20 = .ok (.imul, 1) := by decide +kernel
theorem dX1_eightSteps_21 : decode cX1_eightSteps 21 = .ok (.goto 13, 3) := by decide +kernel
theorem dX1_eightSteps_24 : decode cX1_eightSteps 24 = .ok (.iload_n 1, 1) := by decide +kernel
theorem dX1_eightSteps_25 : decode cX1_eightSteps 25 = .ok (.iconst 2, 1) := by decide +kernel
theorem dX1_eightSteps_26 : decode cX1_eightSteps 26 = .ok (.imul, 1) := by decide +kernel
theorem dX1_eightSteps_27 : decode cX1_eightSteps 27 = .ok (.ldc 17, 2) := by decide +kernel
theorem dX1_eightSteps_29 : decode cX1_eightSteps 29 = .ok (.isub, 1) := by decide +kernel
theorem dX1_eightSteps_30 : decode cX1_eightSteps 30 = .ok (.sipush 4129, 3) := by decide +kernel
theorem dX1_eightSteps_33 : decode cX1_eightSteps 33 = .ok (.ixor, 1) := by decide +kernel
theorem dX1_eightSteps_34 : decode cX1_eightSteps 34 = .ok (.istore_n 1, 1) := by decide +kernel
theorem dX1_eightSteps_35 : decode cX1_eightSteps 35 = .ok (.iinc 2 1, 3) := by decide +kernel
theorem dX1_eightSteps_38 : decode cX1_eightSteps 38 = .ok (.goto (-34), 3) := by decide +kernel
theorem dX1_eightSteps_41 : decode cX1_eightSteps 41 = .ok (.iload_n 1, 1) := by decide +kernel
theorem dX1_eightSteps_42 : decode cX1_eightSteps 42 = .ok (.ireturn, 1) := by decide +kernel
set_option maxRecDepth 20000 in
theorem ggX1_after_X0_at : GoodIn wsX1_after wsX0_at := goodIn_r _ [7, 8, 9, 11, 12] (by decide +kernel) (by decide +kernel)
set_option maxRecDepth 20000 in
theorem gX1_after_X0_at : GoodIn wsX1_after (wsV RX1 19 RX0 yX0_at wsX0_at) := goodIn_app (goodIn_of _ (by decide +kernel)) ggX1_after_X0_at
theorem dX1_after_0 : decode cX1_after 0 = .ok (.iload_n 1, 1) := by decide +kernel
theorem dX1_after_1 : decode cX1_after 1 = .ok (.istore 5, 2) := by decide +kernel
theorem dX1_after_3 : decode cX1_after 3 = .ok (.iload_n 3, 1) := by decide +kernel
theorem dX1_after_4 : decode cX1_after 4 = .ok (.istore 6, 2) := by decide +kernel
theorem dX1_after_6 : decode cX1_after 6 = .ok (.iload 6, 2) := by decide +kernel
theorem dX1_after_8 : decode cX1_after 8 = .ok (.iload 4, 2) := by decide +kernel
theorem dX1_after_10 : decode cX1_after 10 = .ok (.if_icmp .ge 43, 3) := by decide +kernel
theorem dX1_after_13 : decode cX1_after 13 = .ok (.iload 5, 2) := by decide +kernel
theorem dX1_after_15 : decode cX1_after 15 = .ok (.sipush 256, 3) := by decide +kernel
theorem dX1_after_18 : decode cX1_after 18 = .ok (.imul, 1) := by decide +kernel
theorem dX1_after_19 : decode cX1_after 19 = .ok (.ldc 18, 2) := by decide +kernel
theorem dX1_after_21 : decode cX1_after 21 = .ok (.iand, 1) := by decide +kernel
theorem dX1_after_22 : decode cX1_after 22 = .ok (.aload_n 0, 1) := by decide +kernel
theorem dX1_after_23 : decode cX1_after 23 = .ok (.getfield 7, 3) := by decide +kernel
theorem dX1_after_26 : decode cX1_after 26 = .ok (.iload 5, 2) := by decide +kernel
theorem dX1_after_28 : decode cX1_after 28 = .ok (.sipush 256, 3) := by decide +kernel
theorem dX1_after_31 : decode cX1_after 31 = .ok (.idiv, 1) := by decide +kernel
theorem dX1_after_32 : decode cX1_after 32 = .ok (.aload_n 2, 1) := by decide +kernel
theorem dX1_after_33 : decode cX1_after 33 = .ok (.iload 6, 2) := by decide +kernel
theorem dX1_after_35 : decode cX1_after 35 = .ok (.invokevirtual 19, 3) := by decide +kernel
theorem dX1_after_38 : decode cX1_after 38 = .ok (.ixor, 1) := by decide +kernel
theorem dX1_after_39 : decode cX1_after 39 = .ok (.sipush 255, 3) := by decide +kernel
theorem dX1_after_42 : decode cX1_after 42 = .ok (.iand, 1) := by decide +kernel
theorem dX1_after_43 : decode cX1_after 43 = .ok (.iaload, 1) := by decide +kernel
theorem dX1_after_44 : decode cX1_after 44 = .ok (.ixor, 1) := by decide +kernel
theorem dX1_after_45 : decode cX1_after 45 = .ok (.istore 5, 2) := by decide +kernel
theorem dX1_after_47 : decode cX1_after 47 = .ok (.iinc 6 1, 3) := by decide +kernel
theorem dX1_after_50 : decode cX1_after 50 = .ok (.goto (-44), 3) := by decide +kernel
theorem dX1_after_53 : decode cX1_after 53 = .ok (.iload 5, 2) := by decide +kernel
theorem dX1_after_55 : decode cX1_after 55 = .ok (.ireturn, 1) := by decide +kernel
set_option maxRecDepth 20000 in
theorem ggX1_over_X1_after : GoodIn wsX1_over wsX1_after := goodIn_r _ [6, 1, 7, 8, 9, 10, 11, 12, 13, 14, 15, 16, 17] (by decide +kernel) (by decide +kernel)
set_option maxRecDepth 20000 in
theorem gX1_over_X1_after : GoodIn wsX1_over (wsV RX1 24 RX1 yX1_after wsX1_after) := goodIn_app (goodIn_of _ (by decide +kernel)) ggX1_over_X1_after
theorem dX1_over_0 : decode cX1_over 0 = .ok (.aload_n 0, 1) := by decide +kernel
theorem dX1_over_1 : decode cX1_over 1 = .ok (.ldc 18, 2) := by decide +kernel
theorem dX1_over_3 : decode cX1_over 3 = .ok (.aload_n 1, 1) := by decide +kernel
theorem dX1_over_4 : decode cX1_over 4 = .ok (.iload_n 2, 1) := by decide +kernel
theorem dX1_over_5 : decode cX1_over 5 = .ok (.iload_n 3, 1) := by decide +kernel
theorem dX1_over_6 : decode cX1_over 6 = .ok (.invokevirtual 24, 3) := by decide +kernel
theorem dX1_over_9 : decode cX1_over 9 = .ok (.ireturn, 1) := by decide +kernel
