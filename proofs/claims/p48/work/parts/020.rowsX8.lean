set_option maxRecDepth 20000 in
theorem ggX8_init_X0_init : GoodIn wsX8_init wsX0_init := goodIn_r _ [13, 14, 2, 3, 8, 15, 16, 17] (by decide +kernel) (by decide +kernel)
set_option maxRecDepth 20000 in
theorem gX8_init_X0_init : GoodIn wsX8_init (wsX0_init) := ggX8_init_X0_init
theorem dX8_init_0 : decode cX8_init 0 = .ok (.aload_n 0, 1) := by decide +kernel
theorem dX8_init_1 : decode cX8_init 1 = .ok (.invokespecial 3, 3) := by decide +kernel
theorem dX8_init_4 : decode cX8_init 4 = .ok (.aload_n 0, 1) := by decide +kernel
theorem dX8_init_5 : decode cX8_init 5 = .ok (.new 9, 3) := by decide +kernel
theorem dX8_init_8 : decode cX8_init 8 = .ok (.dup, 1) := by decide +kernel
theorem dX8_init_9 : decode cX8_init 9 = .ok (.sipush 200, 3) := by decide +kernel
theorem dX8_init_12 : decode cX8_init 12 = .ok (.invokespecial 13, 3) := by decide +kernel
theorem dX8_init_15 : decode cX8_init 15 = .ok (.putfield 16, 3) := by decide +kernel
theorem dX8_init_18 : decode cX8_init 18 = .ok (.aload_n 0, 1) := by decide +kernel
theorem dX8_init_19 : decode cX8_init 19 = .ok (.bipush 10, 2) := by decide +kernel
theorem dX8_init_21 : decode cX8_init 21 = .ok (.newarray .int, 2) := by decide +kernel
theorem dX8_init_23 : decode cX8_init 23 = .ok (.putfield 20, 3) := by decide +kernel
theorem dX8_init_26 : decode cX8_init 26 = .ok (.aload_n 0, 1) := by decide +kernel
theorem dX8_init_27 : decode cX8_init 27 = .ok (.aload_n 1, 1) := by decide +kernel
theorem dX8_init_28 : decode cX8_init 28 = .ok (.putfield 24, 3) := by decide +kernel
theorem dX8_init_31 : decode cX8_init 31 = .ok (.return_, 1) := by decide +kernel
set_option maxRecDepth 20000 in
theorem ggX8_recover_X10_dataTold : GoodIn wsX8_recover wsX10_dataTold := goodIn_r _ [9, 10, 11, 12, 13, 14, 15, 16, 17, 126, 127, 128, 129, 130, 131] (by decide +kernel) (by decide +kernel)
set_option maxRecDepth 20000 in
theorem gX8_recover_X10_dataTold : GoodIn wsX8_recover (wsV RX8 28 RX10 yX10_dataTold wsX10_dataTold) := goodIn_app (goodIn_of _ (by decide +kernel)) ggX8_recover_X10_dataTold
set_option maxRecDepth 20000 in
theorem ggX8_recover_X10_bodyTold : GoodIn wsX8_recover wsX10_bodyTold := goodIn_r _ [21, 10, 22, 23, 24, 14, 25, 26, 12, 13, 15, 16, 17, 126, 127, 128, 129, 130, 131] (by decide +kernel) (by decide +kernel)
set_option maxRecDepth 20000 in
theorem gX8_recover_X10_bodyTold : GoodIn wsX8_recover (wsV RX8 40 RX10 yX10_bodyTold wsX10_bodyTold) := goodIn_app (goodIn_of _ (by decide +kernel)) ggX8_recover_X10_bodyTold
set_option maxRecDepth 20000 in
theorem ggX8_recover_X8_choose : GoodIn wsX8_recover wsX8_choose := goodIn_r _ [31, 32, 33, 34, 35, 36, 37, 38, 39, 40, 41, 42, 43, 132, 133, 134, 135, 136, 137, 138, 139, 140, 141] (by decide +kernel) (by decide +kernel)
set_option maxRecDepth 20000 in
theorem gX8_recover_X8_choose : GoodIn wsX8_recover (wsV RX8 43 RX8 yX8_choose wsX8_choose) := goodIn_app (goodIn_of _ (by decide +kernel)) ggX8_recover_X8_choose
set_option maxRecDepth 20000 in
theorem ggX8_recover_X8_writeWeights : GoodIn wsX8_recover wsX8_writeWeights := goodIn_r _ [47, 48, 32, 49, 50, 51, 52, 14, 53, 16, 54, 55, 56, 57, 58, 59, 60, 61, 17, 62, 63, 64, 65, 66, 67, 68, 69, 70, 71, 72, 73, 74, 75, 76, 77, 78, 79, 80, 81, 82, 83, 84, 132, 133, 134, 130, 131, 142, 143] (by decide +kernel) (by decide +kernel)
set_option maxRecDepth 20000 in
theorem gX8_recover_X8_writeWeights : GoodIn wsX8_recover (wsV RX8 47 RX8 yX8_writeWeights wsX8_writeWeights) := goodIn_app (goodIn_of _ (by decide +kernel)) ggX8_recover_X8_writeWeights
set_option maxRecDepth 20000 in
theorem ggX8_recover_X8_invert : GoodIn wsX8_recover wsX8_invert := goodIn_r _ [88, 49, 48, 89, 12, 13, 14, 15, 16, 17, 90, 72, 73, 65, 74, 75, 76, 77, 78, 79, 80, 91, 92, 93, 30, 94, 95, 96, 97, 98, 81, 82, 83, 84, 99, 100, 101, 102, 103, 104, 105, 132, 133, 134, 130, 131, 142, 143] (by decide +kernel) (by decide +kernel)
set_option maxRecDepth 20000 in
theorem gX8_recover_X8_invert : GoodIn wsX8_recover (wsV RX8 50 RX8 yX8_invert wsX8_invert) := goodIn_app (goodIn_of _ (by decide +kernel)) ggX8_recover_X8_invert
set_option maxRecDepth 20000 in
theorem ggX8_recover_X0_clear : GoodIn wsX8_recover wsX0_clear := goodIn_r _ [53, 16, 130, 131] (by decide +kernel) (by decide +kernel)
set_option maxRecDepth 20000 in
theorem gX8_recover_X0_clear : GoodIn wsX8_recover (wsV RX8 53 RX0 yX0_clear wsX0_clear) := goodIn_app (goodIn_of _ (by decide +kernel)) ggX8_recover_X0_clear
set_option maxRecDepth 20000 in
theorem ggX8_recover_X9_memberWith : GoodIn wsX8_recover wsX9_memberWith := goodIn_r _ [37, 38, 39, 40, 41, 36, 42, 43, 135, 136, 137, 138, 139, 140, 141] (by decide +kernel) (by decide +kernel)
set_option maxRecDepth 20000 in
theorem gX8_recover_X9_memberWith : GoodIn wsX8_recover (wsV RX8 56 RX9 yX9_memberWith wsX9_memberWith) := goodIn_app (goodIn_of _ (by decide +kernel)) ggX8_recover_X9_memberWith
set_option maxRecDepth 20000 in
theorem ggX8_recover_X0_addPart : GoodIn wsX8_recover wsX0_addPart := goodIn_r _ [109, 26, 12, 13, 14, 15, 16, 17, 58, 59, 60, 61, 130, 131] (by decide +kernel) (by decide +kernel)
set_option maxRecDepth 20000 in
theorem gX8_recover_X0_addPart : GoodIn wsX8_recover (wsV RX8 65 RX0 yX0_addPart wsX0_addPart) := goodIn_app (goodIn_of _ (by decide +kernel)) ggX8_recover_X0_addPart
set_option maxRecDepth 20000 in
theorem ggX8_recover_X8_workOut : GoodIn wsX8_recover wsX8_workOut := goodIn_r _ [113, 32, 48, 49, 114, 115, 116, 14, 117, 16, 54, 55, 56, 57, 58, 59, 60, 61, 17, 33, 34, 35, 36, 37, 38, 39, 40, 41, 42, 43, 89, 12, 13, 15, 99, 100, 101, 65, 102, 103, 104, 96, 97, 98, 75, 76, 77, 78, 79, 80, 105, 82, 83, 84, 132, 133, 134, 126, 127, 128, 129, 130, 131, 135, 136, 137, 138, 139, 140, 141, 142, 143] (by decide +kernel) (by decide +kernel)
set_option maxRecDepth 20000 in
theorem gX8_recover_X8_workOut : GoodIn wsX8_recover (wsV RX8 69 RX8 yX8_workOut wsX8_workOut) := goodIn_app (goodIn_of _ (by decide +kernel)) ggX8_recover_X8_workOut
set_option maxRecDepth 20000 in
theorem ggX8_recover_X10_streamTold : GoodIn wsX8_recover wsX10_streamTold := goodIn_r _ [121, 10, 22, 23, 24, 14, 25, 26, 12, 13, 15, 16, 17, 126, 127, 128, 129, 130, 131] (by decide +kernel) (by decide +kernel)
set_option maxRecDepth 20000 in
theorem gX8_recover_X10_streamTold : GoodIn wsX8_recover (wsV RX8 73 RX10 yX10_streamTold wsX10_streamTold) := goodIn_app (goodIn_of _ (by decide +kernel)) ggX8_recover_X10_streamTold
set_option maxRecDepth 20000 in
theorem ggX8_recover_X0_shorten : GoodIn wsX8_recover wsX0_shorten := goodIn_r _ [125, 16, 130, 131] (by decide +kernel) (by decide +kernel)
set_option maxRecDepth 20000 in
theorem gX8_recover_X0_shorten : GoodIn wsX8_recover (wsV RX8 76 RX0 yX0_shorten wsX0_shorten) := goodIn_app (goodIn_of _ (by decide +kernel)) ggX8_recover_X0_shorten
theorem dX8_recover_0 : decode cX8_recover 0 = .ok (.aload_n 2, 1) := by decide +kernel
theorem dX8_recover_1 : decode cX8_recover 1 = .ok (.invokevirtual 28, 3) := by decide +kernel
theorem dX8_recover_4 : decode cX8_recover 4 = .ok (.bipush 10, 2) := by decide +kernel
theorem dX8_recover_6 : decode cX8_recover 6 = .ok (.invokestatic 34, 3) := by decide +kernel
theorem dX8_recover_9 : decode cX8_recover 9 = .ok (.istore 4, 2) := by decide +kernel
theorem dX8_recover_11 : decode cX8_recover 11 = .ok (.aload_n 2, 1) := by decide +kernel
theorem dX8_recover_12 : decode cX8_recover 12 = .ok (.invokevirtual 40, 3) := by decide +kernel
theorem dX8_recover_15 : decode cX8_recover 15 = .ok (.istore 5, 2) := by decide +kernel
theorem dX8_recover_17 : decode cX8_recover 17 = .ok (.aload_n 0, 1) := by decide +kernel
theorem dX8_recover_18 : decode cX8_recover 18 = .ok (.aload_n 1, 1) := by decide +kernel
theorem dX8_recover_19 : decode cX8_recover 19 = .ok (.iload 4, 2) := by decide +kernel
theorem dX8_recover_21 : decode cX8_recover 21 = .ok (.invokevirtual 43, 3) := by decide +kernel
theorem dX8_recover_24 : decode cX8_recover 24 = .ok (.istore 6, 2) := by decide +kernel
theorem dX8_recover_26 : decode cX8_recover 26 = .ok (.iload 6, 2) := by decide +kernel
theorem dX8_recover_28 : decode cX8_recover 28 = .ok (.ifCond .le 15, 3) := by decide +kernel
theorem dX8_recover_31 : decode cX8_recover 31 = .ok (.aload_n 0, 1) := by decide +kernel
theorem dX8_recover_32 : decode cX8_recover 32 = .ok (.iload 4, 2) := by decide +kernel
theorem dX8_recover_34 : decode cX8_recover 34 = .ok (.invokevirtual 47, 3) := by decide +kernel
theorem dX8_recover_37 : decode cX8_recover 37 = .ok (.aload_n 0, 1) := by decide +kernel
theorem dX8_recover_38 : decode cX8_recover 38 = .ok (.iload 4, 2) := by decide +kernel
theorem dX8_recover_40 : decode cX8_recover 40 = .ok (.invokevirtual 50, 3) := by decide +kernel
theorem dX8_recover_43 : decode cX8_recover 43 = .ok (.aload_n 3, 1) := by decide +kernel
theorem dX8_recover_44 : decode cX8_recover 44 = .ok (.invokevirtual 53, 3) := by decide +kernel
theorem dX8_recover_47 : decode cX8_recover 47 = .ok (.iconst 0, 1) := by decide +kernel
theorem dX8_recover_48 : decode cX8_recover 48 = .ok (.istore 7, 2) := by decide +kernel
theorem dX8_recover_50 : decode cX8_recover 50 = .ok (.iload 7, 2) := by decide +kernel
theorem dX8_recover_52 : decode cX8_recover 52 = .ok (.iload 4, 2) := by decide +kernel
theorem dX8_recover_54 : decode cX8_recover 54 = .ok (.if_icmp .ge 50, 3) := by decide +kernel
theorem dX8_recover_57 : decode cX8_recover 57 = .ok (.aload_n 1, 1) := by decide +kernel
theorem dX8_recover_58 : decode cX8_recover 58 = .ok (.iload 7, 2) := by decide +kernel
theorem dX8_recover_60 : decode cX8_recover 60 = .ok (.invokevirtual 56, 3) := by decide +kernel
theorem dX8_recover_63 : decode cX8_recover 63 = .ok (.astore 8, 2) := by decide +kernel
theorem dX8_recover_65 : decode cX8_recover 65 = .ok (.aload 8, 2) := by decide +kernel
theorem dX8_recover_67 : decode cX8_recover 67 = .ok (.ifnull 19, 3) := by decide +kernel
theorem dX8_recover_70 : decode cX8_recover 70 = .ok (.aload_n 3, 1) := by decide +kernel
theorem dX8_recover_71 : decode cX8_recover 71 = .ok (.aload 8, 2) := by decide +kernel
theorem dX8_recover_73 : decode cX8_recover 73 = .ok (.getfield 62, 3) := by decide +kernel
theorem dX8_recover_76 : decode cX8_recover 76 = .ok (.bipush 10, 2) := by decide +kernel
theorem dX8_recover_78 : decode cX8_recover 78 = .ok (.iload 5, 2) := by decide +kernel
theorem dX8_recover_80 : decode cX8_recover 80 = .ok (.invokevirtual 65, 3) := by decide +kernel
theorem dX8_recover_83 : decode cX8_recover 83 = .ok (.goto 15, 3) := by decide +kernel
theorem dX8_recover_86 : decode cX8_recover 86 = .ok (.aload_n 0, 1) := by decide +kernel
theorem dX8_recover_87 : decode cX8_recover 87 = .ok (.aload_n 1, 1) := by decide +kernel
theorem dX8_recover_88 : decode cX8_recover 88 = .ok (.iload 7, 2) := by decide +kernel
theorem dX8_recover_90 : decode cX8_recover 90 = .ok (.iload 4, 2) := by decide +kernel
theorem dX8_recover_92 : decode cX8_recover 92 = .ok (.iload 5, 2) := by decide +kernel
theorem dX8_recover_94 : decode cX8_recover 94 = .ok (.aload_n 3, 1) := by decide +kernel
theorem dX8_recover_95 : decode cX8_recover 95 = .ok (.invokevirtual 69, 3) := by decide +kernel
theorem dX8_recover_98 : decode cX8_recover 98 = .ok (.iinc 7 1, 3) := by decide +kernel
theorem dX8_recover_101 : decode cX8_recover 101 = .ok (.goto (-51), 3) := by decide +kernel
theorem dX8_recover_104 : decode cX8_recover 104 = .ok (.aload_n 3, 1) := by decide +kernel
theorem dX8_recover_105 : decode cX8_recover 105 = .ok (.aload_n 2, 1) := by decide +kernel
theorem dX8_recover_106 : decode cX8_recover 106 = .ok (.invokevirtual 73, 3) := by decide +kernel
theorem dX8_recover_109 : decode cX8_recover 109 = .ok (.invokevirtual 76, 3) := by decide +kernel
theorem dX8_recover_112 : decode cX8_recover 112 = .ok (.iload 6, 2) := by decide +kernel
theorem dX8_recover_114 : decode cX8_recover 114 = .ok (.ireturn, 1) := by decide +kernel
set_option maxRecDepth 20000 in
theorem ggX8_choose_X9_memberWith : GoodIn wsX8_choose wsX9_memberWith := goodIn_r _ [6, 7, 8, 9, 10, 5, 11, 12, 16, 17, 18, 19, 20, 21, 22] (by decide +kernel) (by decide +kernel)
set_option maxRecDepth 20000 in
theorem gX8_choose_X9_memberWith : GoodIn wsX8_choose (wsV RX8 56 RX9 yX9_memberWith wsX9_memberWith) := goodIn_app (goodIn_of _ (by decide +kernel)) ggX8_choose_X9_memberWith
theorem dX8_choose_0 : decode cX8_choose 0 = .ok (.iconst 0, 1) := by decide +kernel
theorem dX8_choose_1 : decode cX8_choose 1 = .ok (.istore_n 3, 1) := by decide +kernel
theorem dX8_choose_2 : decode cX8_choose 2 = .ok (.iload_n 2, 1) := by decide +kernel
theorem dX8_choose_3 : decode cX8_choose 3 = .ok (.istore 4, 2) := by decide +kernel
theorem dX8_choose_5 : decode cX8_choose 5 = .ok (.iconst 0, 1) := by decide +kernel
theorem dX8_choose_6 : decode cX8_choose 6 = .ok (.istore 5, 2) := by decide +kernel
theorem dX8_choose_8 : decode cX8_choose 8 = .ok (.iload 5, 2) := by decide +kernel
theorem dX8_choose_10 : decode cX8_choose 10 = .ok (.iload_n 2, 1) := by decide +kernel
theorem dX8_choose_11 : decode cX8_choose 11 = .ok (.if_icmp .ge 74, 3) := by decide +kernel
theorem dX8_choose_14 : decode cX8_choose 14 = .ok (.iload 5, 2) := by decide +kernel
theorem dX8_choose_16 : decode cX8_choose 16 = .ok (.aload_n 0, 1) := by decide +kernel
theorem dX8_choose_17 : decode cX8_choose 17 = .ok (.getfield 20, 3) := by decide +kernel
theorem dX8_choose_20 : decode cX8_choose 20 = .ok (.arraylength, 1) := by decide +kernel
theorem dX8_choose_21 : decode cX8_choose 21 = .ok (.if_icmp .ge 64, 3) := by decide +kernel
theorem dX8_choose_24 : decode cX8_choose 24 = .ok (.aload_n 0, 1) := by decide +kernel
theorem dX8_choose_25 : decode cX8_choose 25 = .ok (.getfield 20, 3) := by decide +kernel
theorem dX8_choose_28 : decode cX8_choose 28 = .ok (.iload 5, 2) := by decide +kernel
theorem dX8_choose_30 : decode cX8_choose 30 = .ok (.iload 5, 2) := by decide +kernel
theorem dX8_choose_32 : decode cX8_choose 32 = .ok (.iastore, 1) := by decide +kernel
theorem dX8_choose_33 : decode cX8_choose 33 = .ok (.aload_n 1, 1) := by decide +kernel
theorem dX8_choose_34 : decode cX8_choose 34 = .ok (.iload 5, 2) := by decide +kernel
theorem dX8_choose_36 : decode cX8_choose 36 = .ok (.invokevirtual 56, 3) := by decide +kernel
theorem dX8_choose_39 : decode cX8_choose 39 = .ok (.ifnonnull 40, 3) := by decide +kernel
theorem dX8_choose_42 : decode cX8_choose 42 = .ok (.iload 4, 2) := by decide +kernel
theorem dX8_choose_44 : decode cX8_choose 44 = .ok (.bipush 16, 2) := by decide +kernel
theorem dX8_choose_46 : decode cX8_choose 46 = .ok (.if_icmp .ge 18, 3) := by decide +kernel
theorem dX8_choose_49 : decode cX8_choose 49 = .ok (.aload_n 1, 1) := by decide +kernel
theorem dX8_choose_50 : decode cX8_choose 50 = .ok (.iload 4, 2) := by decide +kernel
theorem dX8_choose_52 : decode cX8_choose 52 = .ok (.invokevirtual 56, 3) := by decide +kernel
theorem dX8_choose_55 : decode cX8_choose 55 = .ok (.ifnonnull 9, 3) := by decide +kernel
theorem dX8_choose_58 : decode cX8_choose 58 = .ok (.iinc 4 1, 3) := by decide +kernel
theorem dX8_choose_61 : decode cX8_choose 61 = .ok (.goto (-19), 3) := by decide +kernel
theorem dX8_choose_64 : decode cX8_choose 64 = .ok (.aload_n 0, 1) := by decide +kernel
theorem dX8_choose_65 : decode cX8_choose 65 = .ok (.getfield 20, 3) := by decide +kernel
theorem dX8_choose_68 : decode cX8_choose 68 = .ok (.iload 5, 2) := by decide +kernel
theorem dX8_choose_70 : decode cX8_choose 70 = .ok (.iload 4, 2) := by decide +kernel
theorem dX8_choose_72 : decode cX8_choose 72 = .ok (.iastore, 1) := by decide +kernel
theorem dX8_choose_73 : decode cX8_choose 73 = .ok (.iinc 4 1, 3) := by decide +kernel
theorem dX8_choose_76 : decode cX8_choose 76 = .ok (.iinc 3 1, 3) := by decide +kernel
theorem dX8_choose_79 : decode cX8_choose 79 = .ok (.iinc 5 1, 3) := by decide +kernel
theorem dX8_choose_82 : decode cX8_choose 82 = .ok (.goto (-74), 3) := by decide +kernel
theorem dX8_choose_85 : decode cX8_choose 85 = .ok (.iload_n 3, 1) := by decide +kernel
theorem dX8_choose_86 : decode cX8_choose 86 = .ok (.ireturn, 1) := by decide +kernel
set_option maxRecDepth 20000 in
theorem ggX8_writeWeights_X0_clear : GoodIn wsX8_writeWeights wsX0_clear := goodIn_r _ [8, 9, 45, 46] (by decide +kernel) (by decide +kernel)
set_option maxRecDepth 20000 in
theorem gX8_writeWeights_X0_clear : GoodIn wsX8_writeWeights (wsV RX8 53 RX0 yX0_clear wsX0_clear) := goodIn_app (goodIn_of _ (by decide +kernel)) ggX8_writeWeights_X0_clear
set_option maxRecDepth 20000 in
theorem ggX8_writeWeights_X0_addTimes : GoodIn wsX8_writeWeights wsX0_addTimes := goodIn_r _ [13, 14, 15, 16, 7, 17, 9, 18, 45, 46] (by decide +kernel) (by decide +kernel)
set_option maxRecDepth 20000 in
theorem gX8_writeWeights_X0_addTimes : GoodIn wsX8_writeWeights (wsV RX8 79 RX0 yX0_addTimes wsX0_addTimes) := goodIn_app (goodIn_of _ (by decide +kernel)) ggX8_writeWeights_X0_addTimes
set_option maxRecDepth 20000 in
theorem ggX8_writeWeights_X4_weight : GoodIn wsX8_writeWeights wsX4_weight := goodIn_r _ [23, 24, 25, 26, 22, 27, 28, 29, 30, 31, 32, 33, 34, 35, 36, 37, 47, 48] (by decide +kernel) (by decide +kernel)
set_option maxRecDepth 20000 in
theorem gX8_writeWeights_X4_weight : GoodIn wsX8_writeWeights (wsV RX8 83 RX4 yX4_weight wsX4_weight) := goodIn_app (goodIn_of _ (by decide +kernel)) ggX8_writeWeights_X4_weight
set_option maxRecDepth 20000 in
theorem ggX8_writeWeights_X0_put : GoodIn wsX8_writeWeights wsX0_put := goodIn_r _ [41, 9, 18, 45, 46] (by decide +kernel) (by decide +kernel)
set_option maxRecDepth 20000 in
theorem gX8_writeWeights_X0_put : GoodIn wsX8_writeWeights (wsV RX8 89 RX0 yX0_put wsX0_put) := goodIn_app (goodIn_of _ (by decide +kernel)) ggX8_writeWeights_X0_put
theorem dX8_writeWeights_0 : decode cX8_writeWeights 0 = .ok (.aload_n 0, 1) := by decide +kernel
theorem dX8_writeWeights_1 : decode cX8_writeWeights 1 = .ok (.getfield 16, 3) := by decide +kernel
theorem dX8_writeWeights_4 : decode cX8_writeWeights 4 = .ok (.invokevirtual 53, 3) := by decide +kernel
theorem dX8_writeWeights_7 : decode cX8_writeWeights 7 = .ok (.aload_n 0, 1) := by decide +kernel
theorem dX8_writeWeights_8 : decode cX8_writeWeights 8 = .ok (.getfield 16, 3) := by decide +kernel
theorem dX8_writeWeights_11 : decode cX8_writeWeights 11 = .ok (.iconst 0, 1) := by decide +kernel
theorem dX8_writeWeights_12 : decode cX8_writeWeights 12 = .ok (.sipush 200, 3) := by decide +kernel
theorem dX8_writeWeights_15 : decode cX8_writeWeights 15 = .ok (.invokevirtual 79, 3) := by decide +kernel
theorem dX8_writeWeights_18 : decode cX8_writeWeights 18 = .ok (.iconst 0, 1) := by decide +kernel
theorem dX8_writeWeights_19 : decode cX8_writeWeights 19 = .ok (.istore_n 2, 1) := by decide +kernel
theorem dX8_writeWeights_20 : decode cX8_writeWeights 20 = .ok (.iload_n 2, 1) := by decide +kernel
theorem dX8_writeWeights_21 : decode cX8_writeWeights 21 = .ok (.iload_n 1, 1) := by decide +kernel
theorem dX8_writeWeights_22 : decode cX8_writeWeights 22 = .ok (.if_icmp .ge 76, 3) := by decide +kernel
theorem dX8_writeWeights_25 : decode cX8_writeWeights 25 = .ok (.iload_n 2, 1) := by decide +kernel
theorem dX8_writeWeights_26 : decode cX8_writeWeights 26 = .ok (.aload_n 0, 1) := by decide +kernel
theorem dX8_writeWeights_27 : decode cX8_writeWeights 27 = .ok (.getfield 20, 3) := by decide +kernel
theorem dX8_writeWeights_30 : decode cX8_writeWeights 30 = .ok (.arraylength, 1) := by decide +kernel
theorem dX8_writeWeights_31 : decode cX8_writeWeights 31 = .ok (.if_icmp .ge 67, 3) := by decide +kernel
theorem dX8_writeWeights_34 : decode cX8_writeWeights 34 = .ok (.iconst 0, 1) := by decide +kernel
theorem dX8_writeWeights_35 : decode cX8_writeWeights 35 = .ok (.istore_n 3, 1) := by decide +kernel
theorem dX8_writeWeights_36 : decode cX8_writeWeights 36 = .ok (.iload_n 3, 1) := by decide +kernel
theorem dX8_writeWeights_37 : decode cX8_writeWeights 37 = .ok (.iload_n 1, 1) := by decide +kernel
theorem dX8_writeWeights_38 : decode cX8_writeWeights 38 = .ok (.if_icmp .ge 37, 3) := by decide +kernel
theorem dX8_writeWeights_41 : decode cX8_writeWeights 41 = .ok (.aload_n 0, 1) := by decide +kernel
theorem dX8_writeWeights_42 : decode cX8_writeWeights 42 = .ok (.getfield 16, 3) := by decide +kernel
theorem dX8_writeWeights_45 : decode cX8_writeWeights 45 = .ok (.iload_n 2, 1) := by decide +kernel
theorem dX8_writeWeights_46 : decode cX8_writeWeights 46 = .ok (.bipush 20, 2) := by decide +kernel
theorem dX8_writeWeights_48 : decode cX8_writeWeights 48 = .ok (.imul, 1) := by decide +kernel
theorem dX8_writeWeights_49 : decode cX8_writeWeights 49 = .ok (.iload_n 3, 1) := by decide +kernel
theorem dX8_writeWeights_50 : decode cX8_writeWeights 50 = .ok (.iadd, 1) := by decide +kernel
theorem dX8_writeWeights_51 : decode cX8_writeWeights 51 = .ok (.aload_n 0, 1) := by decide +kernel
theorem dX8_writeWeights_52 : decode cX8_writeWeights 52 = .ok (.getfield 24, 3) := by decide +kernel
theorem dX8_writeWeights_55 : decode cX8_writeWeights 55 = .ok (.aload_n 0, 1) := by decide +kernel
theorem dX8_writeWeights_56 : decode cX8_writeWeights 56 = .ok (.getfield 20, 3) := by decide +kernel
theorem dX8_writeWeights_59 : decode cX8_writeWeights 59 = .ok (.iload_n 2, 1) := by decide +kernel
theorem dX8_writeWeights_60 : decode cX8_writeWeights 60 = .ok (.iaload, 1) := by decide +kernel
theorem dX8_writeWeights_61 : decode cX8_writeWeights 61 = .ok (.iload_n 3, 1) := by decide +kernel
theorem dX8_writeWeights_62 : decode cX8_writeWeights 62 = .ok (.iload_n 1, 1) := by decide +kernel
theorem dX8_writeWeights_63 : decode cX8_writeWeights 63 = .ok (.invokevirtual 83, 3) := by decide +kernel
theorem dX8_writeWeights_66 : decode cX8_writeWeights 66 = .ok (.invokevirtual 89, 3) := by decide +kernel
theorem dX8_writeWeights_69 : decode cX8_writeWeights 69 = .ok (.iinc 3 1, 3) := by decide +kernel
theorem dX8_writeWeights_72 : decode cX8_writeWeights 72 = .ok (.goto (-36), 3) := by decide +kernel
theorem dX8_writeWeights_75 : decode cX8_writeWeights 75 = .ok (.aload_n 0, 1) := by decide +kernel
theorem dX8_writeWeights_76 : decode cX8_writeWeights 76 = .ok (.getfield 16, 3) := by decide +kernel
theorem dX8_writeWeights_79 : decode cX8_writeWeights 79 = .ok (.iload_n 2, 1) := by decide +kernel
theorem dX8_writeWeights_80 : decode cX8_writeWeights 80 = .ok (.bipush 20, 2) := by decide +kernel
theorem dX8_writeWeights_82 : decode cX8_writeWeights 82 = .ok (.imul, 1) := by decide +kernel
theorem dX8_writeWeights_83 : decode cX8_writeWeights 83 = .ok (.bipush 10, 2) := by decide +kernel
theorem dX8_writeWeights_85 : decode cX8_writeWeights 85 = .ok (.iadd, 1) := by decide +kernel
theorem dX8_writeWeights_86 : decode cX8_writeWeights 86 = .ok (.iload_n 2, 1) := by decide +kernel
theorem dX8_writeWeights_87 : decode cX8_writeWeights 87 = .ok (.iadd, 1) := by decide +kernel
theorem dX8_writeWeights_88 : decode cX8_writeWeights 88 = .ok (.iconst 1, 1) := by decide +kernel
theorem dX8_writeWeights_89 : decode cX8_writeWeights 89 = .ok (.invokevirtual 89, 3) := by decide +kernel
theorem dX8_writeWeights_92 : decode cX8_writeWeights 92 = .ok (.iinc 2 1, 3) := by decide +kernel
theorem dX8_writeWeights_95 : decode cX8_writeWeights 95 = .ok (.goto (-75), 3) := by decide +kernel
theorem dX8_writeWeights_98 : decode cX8_writeWeights 98 = .ok (.return_, 1) := by decide +kernel
set_option maxRecDepth 20000 in
theorem ggX8_invert_X0_at : GoodIn wsX8_invert wsX0_at := goodIn_r _ [7, 8, 9, 44, 45] (by decide +kernel) (by decide +kernel)
set_option maxRecDepth 20000 in
theorem gX8_invert_X0_at : GoodIn wsX8_invert (wsV RX8 92 RX0 yX0_at wsX0_at) := goodIn_app (goodIn_of _ (by decide +kernel)) ggX8_invert_X0_at
set_option maxRecDepth 20000 in
theorem ggX8_invert_X4_oneOver : GoodIn wsX8_invert wsX4_oneOver := goodIn_r _ [14, 15, 16, 17, 18, 13, 19, 20, 46, 47] (by decide +kernel) (by decide +kernel)
set_option maxRecDepth 20000 in
theorem gX8_invert_X4_oneOver : GoodIn wsX8_invert (wsV RX8 96 RX4 yX4_oneOver wsX4_oneOver) := goodIn_app (goodIn_of _ (by decide +kernel)) ggX8_invert_X4_oneOver
set_option maxRecDepth 20000 in
theorem ggX8_invert_X8_scaleRow : GoodIn wsX8_invert wsX8_scaleRow := goodIn_r _ [25, 2, 1, 3, 4, 5, 6, 7, 8, 9, 26, 27, 28, 13, 29, 15, 16, 17, 18, 19, 20, 30, 31, 32, 33, 41, 42, 43, 44, 45, 46, 47] (by decide +kernel) (by decide +kernel)
set_option maxRecDepth 20000 in
theorem gX8_invert_X8_scaleRow : GoodIn wsX8_invert (wsV RX8 99 RX8 yX8_scaleRow wsX8_scaleRow) := goodIn_app (goodIn_of _ (by decide +kernel)) ggX8_invert_X8_scaleRow
set_option maxRecDepth 20000 in
theorem ggX8_invert_X4_addProducts : GoodIn wsX8_invert wsX4_addProducts := goodIn_r _ [37, 38, 4, 5, 6, 7, 8, 9, 39, 27, 28, 13, 29, 15, 16, 17, 18, 19, 20, 40, 31, 32, 33, 44, 45, 46, 47] (by decide +kernel) (by decide +kernel)
set_option maxRecDepth 20000 in
theorem gX8_invert_X4_addProducts : GoodIn wsX8_invert (wsV RX8 102 RX4 yX4_addProducts wsX4_addProducts) := goodIn_app (goodIn_of _ (by decide +kernel)) ggX8_invert_X4_addProducts
theorem dX8_invert_0 : decode cX8_invert 0 = .ok (.iconst 0, 1) := by decide +kernel
theorem dX8_invert_1 : decode cX8_invert 1 = .ok (.istore_n 2, 1) := by decide +kernel
theorem dX8_invert_2 : decode cX8_invert 2 = .ok (.iload_n 2, 1) := by decide +kernel
theorem dX8_invert_3 : decode cX8_invert 3 = .ok (.iload_n 1, 1) := by decide +kernel
theorem dX8_invert_4 : decode cX8_invert 4 = .ok (.if_icmp .ge 98, 3) := by decide +kernel
theorem dX8_invert_7 : decode cX8_invert 7 = .ok (.iload_n 2, 1) := by decide +kernel
theorem dX8_invert_8 : decode cX8_invert 8 = .ok (.bipush 20, 2) := by decide +kernel
theorem dX8_invert_10 : decode cX8_invert 10 = .ok (.imul, 1) := by decide +kernel
theorem dX8_invert_11 : decode cX8_invert 11 = .ok (.istore_n 3, 1) := by decide +kernel
theorem dX8_invert_12 : decode cX8_invert 12 = .ok (.aload_n 0, 1) := by decide +kernel
theorem dX8_invert_13 : decode cX8_invert 13 = .ok (.iload_n 3, 1) := by decide +kernel
theorem dX8_invert_14 : decode cX8_invert 14 = .ok (.aload_n 0, 1) := by decide +kernel
theorem dX8_invert_15 : decode cX8_invert 15 = .ok (.getfield 24, 3) := by decide +kernel
theorem dX8_invert_18 : decode cX8_invert 18 = .ok (.aload_n 0, 1) := by decide +kernel
theorem dX8_invert_19 : decode cX8_invert 19 = .ok (.getfield 16, 3) := by decide +kernel
theorem dX8_invert_22 : decode cX8_invert 22 = .ok (.iload_n 3, 1) := by decide +kernel
theorem dX8_invert_23 : decode cX8_invert 23 = .ok (.iload_n 2, 1) := by decide +kernel
theorem dX8_invert_24 : decode cX8_invert 24 = .ok (.iadd, 1) := by decide +kernel
theorem dX8_invert_25 : decode cX8_invert 25 = .ok (.invokevirtual 92, 3) := by decide +kernel
theorem dX8_invert_28 : decode cX8_invert 28 = .ok (.invokevirtual 96, 3) := by decide +kernel
theorem dX8_invert_31 : decode cX8_invert 31 = .ok (.invokevirtual 99, 3) := by decide +kernel
theorem dX8_invert_34 : decode cX8_invert 34 = .ok (.iconst 0, 1) := by decide +kernel
theorem dX8_invert_35 : decode cX8_invert 35 = .ok (.istore 4, 2) := by decide +kernel
theorem dX8_invert_37 : decode cX8_invert 37 = .ok (.iload 4, 2) := by decide +kernel
theorem dX8_invert_39 : decode cX8_invert 39 = .ok (.iload_n 1, 1) := by decide +kernel
theorem dX8_invert_40 : decode cX8_invert 40 = .ok (.if_icmp .ge 56, 3) := by decide +kernel
theorem dX8_invert_43 : decode cX8_invert 43 = .ok (.iload 4, 2) := by decide +kernel
theorem dX8_invert_45 : decode cX8_invert 45 = .ok (.iload_n 2, 1) := by decide +kernel
theorem dX8_invert_46 : decode cX8_invert 46 = .ok (.if_icmp .eq 44, 3) := by decide +kernel
theorem dX8_invert_49 : decode cX8_invert 49 = .ok (.aload_n 0, 1) := by decide +kernel
theorem dX8_invert_50 : decode cX8_invert 50 = .ok (.getfield 16, 3) := by decide +kernel
theorem dX8_invert_53 : decode cX8_invert 53 = .ok (.iload 4, 2) := by decide +kernel
theorem dX8_invert_55 : decode cX8_invert 55 = .ok (.bipush 20, 2) := by decide +kernel
theorem dX8_invert_57 : decode cX8_invert 57 = .ok (.imul, 1) := by decide +kernel
theorem dX8_invert_58 : decode cX8_invert 58 = .ok (.iload_n 2, 1) := by decide +kernel
theorem dX8_invert_59 : decode cX8_invert 59 = .ok (.iadd, 1) := by decide +kernel
theorem dX8_invert_60 : decode cX8_invert 60 = .ok (.invokevirtual 92, 3) := by decide +kernel
theorem dX8_invert_63 : decode cX8_invert 63 = .ok (.istore 5, 2) := by decide +kernel
theorem dX8_invert_65 : decode cX8_invert 65 = .ok (.aload_n 0, 1) := by decide +kernel
theorem dX8_invert_66 : decode cX8_invert 66 = .ok (.getfield 24, 3) := by decide +kernel
theorem dX8_invert_69 : decode cX8_invert 69 = .ok (.aload_n 0, 1) := by decide +kernel
theorem dX8_invert_70 : decode cX8_invert 70 = .ok (.getfield 16, 3) := by decide +kernel
theorem dX8_invert_73 : decode cX8_invert 73 = .ok (.iload 4, 2) := by decide +kernel
theorem dX8_invert_75 : decode cX8_invert 75 = .ok (.bipush 20, 2) := by decide +kernel
theorem dX8_invert_77 : decode cX8_invert 77 = .ok (.imul, 1) := by decide +kernel
theorem dX8_invert_78 : decode cX8_invert 78 = .ok (.iload 5, 2) := by decide +kernel
theorem dX8_invert_80 : decode cX8_invert 80 = .ok (.aload_n 0, 1) := by decide +kernel
theorem dX8_invert_81 : decode cX8_invert 81 = .ok (.getfield 16, 3) := by decide +kernel
theorem dX8_invert_84 : decode cX8_invert 84 = .ok (.iload_n 3, 1) := by decide +kernel
theorem dX8_invert_85 : decode cX8_invert 85 = .ok (.bipush 20, 2) := by decide +kernel
theorem dX8_invert_87 : decode cX8_invert 87 = .ok (.invokevirtual 102, 3) := by decide +kernel
theorem dX8_invert_90 : decode cX8_invert 90 = .ok (.iinc 4 1, 3) := by decide +kernel
theorem dX8_invert_93 : decode cX8_invert 93 = .ok (.goto (-56), 3) := by decide +kernel
theorem dX8_invert_96 : decode cX8_invert 96 = .ok (.iinc 2 1, 3) := by decide +kernel
theorem dX8_invert_99 : decode cX8_invert 99 = .ok (.goto (-97), 3) := by decide +kernel
theorem dX8_invert_102 : decode cX8_invert 102 = .ok (.return_, 1) := by decide +kernel
set_option maxRecDepth 20000 in
theorem ggX8_scaleRow_X0_at : GoodIn wsX8_scaleRow wsX0_at := goodIn_r _ [7, 8, 9, 28, 29] (by decide +kernel) (by decide +kernel)
set_option maxRecDepth 20000 in
theorem gX8_scaleRow_X0_at : GoodIn wsX8_scaleRow (wsV RX8 92 RX0 yX0_at wsX0_at) := goodIn_app (goodIn_of _ (by decide +kernel)) ggX8_scaleRow_X0_at
set_option maxRecDepth 20000 in
theorem ggX8_scaleRow_X4_times : GoodIn wsX8_scaleRow wsX4_times := goodIn_r _ [14, 15, 16, 17, 18, 13, 19, 20, 30, 31] (by decide +kernel) (by decide +kernel)
set_option maxRecDepth 20000 in
theorem gX8_scaleRow_X4_times : GoodIn wsX8_scaleRow (wsV RX8 106 RX4 yX4_times wsX4_times) := goodIn_app (goodIn_of _ (by decide +kernel)) ggX8_scaleRow_X4_times
set_option maxRecDepth 20000 in
theorem ggX8_scaleRow_X0_put : GoodIn wsX8_scaleRow wsX0_put := goodIn_r _ [24, 8, 9, 28, 29] (by decide +kernel) (by decide +kernel)
set_option maxRecDepth 20000 in
theorem gX8_scaleRow_X0_put : GoodIn wsX8_scaleRow (wsV RX8 89 RX0 yX0_put wsX0_put) := goodIn_app (goodIn_of _ (by decide +kernel)) ggX8_scaleRow_X0_put
theorem dX8_scaleRow_0 : decode cX8_scaleRow 0 = .ok (.iload_n 1, 1) := by decide +kernel
theorem dX8_scaleRow_1 : decode cX8_scaleRow 1 = .ok (.istore_n 3, 1) := by decide +kernel
theorem dX8_scaleRow_2 : decode cX8_scaleRow 2 = .ok (.iload_n 3, 1) := by decide +kernel
theorem dX8_scaleRow_3 : decode cX8_scaleRow 3 = .ok (.iload_n 1, 1) := by decide +kernel
theorem dX8_scaleRow_4 : decode cX8_scaleRow 4 = .ok (.bipush 20, 2) := by decide +kernel
theorem dX8_scaleRow_6 : decode cX8_scaleRow 6 = .ok (.iadd, 1) := by decide +kernel
theorem dX8_scaleRow_7 : decode cX8_scaleRow 7 = .ok (.if_icmp .ge 33, 3) := by decide +kernel
theorem dX8_scaleRow_10 : decode cX8_scaleRow 10 = .ok (.aload_n 0, 1) := by decide +kernel
theorem dX8_scaleRow_11 : decode cX8_scaleRow 11 = .ok (.getfield 16, 3) := by decide +kernel
theorem dX8_scaleRow_14 : decode cX8_scaleRow 14 = .ok (.iload_n 3, 1) := by decide +kernel
theorem dX8_scaleRow_15 : decode cX8_scaleRow 15 = .ok (.aload_n 0, 1) := by decide +kernel
theorem dX8_scaleRow_16 : decode cX8_scaleRow 16 = .ok (.getfield 24, 3) := by decide +kernel
theorem dX8_scaleRow_19 : decode cX8_scaleRow 19 = .ok (.iload_n 2, 1) := by decide +kernel
theorem dX8_scaleRow_20 : decode cX8_scaleRow 20 = .ok (.aload_n 0, 1) := by decide +kernel
theorem dX8_scaleRow_21 : decode cX8_scaleRow 21 = .ok (.getfield 16, 3) := by decide +kernel
theorem dX8_scaleRow_24 : decode cX8_scaleRow 24 = .ok (.iload_n 3, 1) := by decide +kernel
theorem dX8_scaleRow_25 : decode cX8_scaleRow 25 = .ok (.invokevirtual 92, 3) := by decide +kernel
theorem dX8_scaleRow_28 : decode cX8_scaleRow 28 = .ok (.invokevirtual 106, 3) := by decide +kernel
theorem dX8_scaleRow_31 : decode cX8_scaleRow 31 = .ok (.invokevirtual 89, 3) := by decide +kernel
theorem dX8_scaleRow_34 : decode cX8_scaleRow 34 = .ok (.iinc 3 1, 3) := by decide +kernel
theorem dX8_scaleRow_37 : decode cX8_scaleRow 37 = .ok (.goto (-35), 3) := by decide +kernel
theorem dX8_scaleRow_40 : decode cX8_scaleRow 40 = .ok (.return_, 1) := by decide +kernel
set_option maxRecDepth 20000 in
theorem ggX8_workOut_X0_size : GoodIn wsX8_workOut wsX0_size := goodIn_r _ [8, 9, 61, 62] (by decide +kernel) (by decide +kernel)
set_option maxRecDepth 20000 in
theorem gX8_workOut_X0_size : GoodIn wsX8_workOut (wsV RX8 109 RX0 yX0_size wsX0_size) := goodIn_app (goodIn_of _ (by decide +kernel)) ggX8_workOut_X0_size
set_option maxRecDepth 20000 in
theorem ggX8_workOut_X0_addTimes : GoodIn wsX8_workOut wsX0_addTimes := goodIn_r _ [13, 14, 15, 16, 7, 17, 9, 18, 61, 62] (by decide +kernel) (by decide +kernel)
set_option maxRecDepth 20000 in
theorem gX8_workOut_X0_addTimes : GoodIn wsX8_workOut (wsV RX8 79 RX0 yX0_addTimes wsX0_addTimes) := goodIn_app (goodIn_of _ (by decide +kernel)) ggX8_workOut_X0_addTimes
set_option maxRecDepth 20000 in
theorem ggX8_workOut_X9_memberWith : GoodIn wsX8_workOut wsX9_memberWith := goodIn_r _ [23, 24, 25, 26, 27, 22, 28, 29, 63, 64, 65, 66, 67, 68, 69] (by decide +kernel) (by decide +kernel)
set_option maxRecDepth 20000 in
theorem gX8_workOut_X9_memberWith : GoodIn wsX8_workOut (wsV RX8 56 RX9 yX9_memberWith wsX9_memberWith) := goodIn_app (goodIn_of _ (by decide +kernel)) ggX8_workOut_X9_memberWith
set_option maxRecDepth 20000 in
theorem ggX8_workOut_X0_at : GoodIn wsX8_workOut wsX0_at := goodIn_r _ [33, 9, 18, 61, 62] (by decide +kernel) (by decide +kernel)
set_option maxRecDepth 20000 in
theorem gX8_workOut_X0_at : GoodIn wsX8_workOut (wsV RX8 92 RX0 yX0_at wsX0_at) := goodIn_app (goodIn_of _ (by decide +kernel)) ggX8_workOut_X0_at
set_option maxRecDepth 20000 in
theorem ggX8_workOut_X4_addProducts : GoodIn wsX8_workOut wsX4_addProducts := goodIn_r _ [38, 39, 31, 32, 7, 33, 9, 18, 40, 41, 42, 37, 43, 44, 45, 46, 47, 48, 49, 50, 51, 52, 53, 61, 62, 70, 71] (by decide +kernel) (by decide +kernel)
set_option maxRecDepth 20000 in
theorem gX8_workOut_X4_addProducts : GoodIn wsX8_workOut (wsV RX8 102 RX4 yX4_addProducts wsX4_addProducts) := goodIn_app (goodIn_of _ (by decide +kernel)) ggX8_workOut_X4_addProducts
theorem dX8_workOut_0 : decode cX8_workOut 0 = .ok (.aload 5, 2) := by decide +kernel
theorem dX8_workOut_2 : decode cX8_workOut 2 = .ok (.invokevirtual 109, 3) := by decide +kernel
theorem dX8_workOut_5 : decode cX8_workOut 5 = .ok (.istore 6, 2) := by decide +kernel
theorem dX8_workOut_7 : decode cX8_workOut 7 = .ok (.aload 5, 2) := by decide +kernel
theorem dX8_workOut_9 : decode cX8_workOut 9 = .ok (.iconst 0, 1) := by decide +kernel
theorem dX8_workOut_10 : decode cX8_workOut 10 = .ok (.iload 4, 2) := by decide +kernel
theorem dX8_workOut_12 : decode cX8_workOut 12 = .ok (.invokevirtual 79, 3) := by decide +kernel
theorem dX8_workOut_15 : decode cX8_workOut 15 = .ok (.iconst 0, 1) := by decide +kernel
theorem dX8_workOut_16 : decode cX8_workOut 16 = .ok (.istore 7, 2) := by decide +kernel
theorem dX8_workOut_18 : decode cX8_workOut 18 = .ok (.iload 7, 2) := by decide +kernel
theorem dX8_workOut_20 : decode cX8_workOut 20 = .ok (.iload_n 3, 1) := by decide +kernel
theorem dX8_workOut_21 : decode cX8_workOut 21 = .ok (.if_icmp .ge 78, 3) := by decide +kernel
theorem dX8_workOut_24 : decode cX8_workOut 24 = .ok (.iload 7, 2) := by decide +kernel
theorem dX8_workOut_26 : decode cX8_workOut 26 = .ok (.aload_n 0, 1) := by decide +kernel
theorem dX8_workOut_27 : decode cX8_workOut 27 = .ok (.getfield 20, 3) := by decide +kernel
theorem dX8_workOut_30 : decode cX8_workOut 30 = .ok (.arraylength, 1) := by decide +kernel
theorem dX8_workOut_31 : decode cX8_workOut 31 = .ok (.if_icmp .ge 68, 3) := by decide +kernel
theorem dX8_workOut_34 : decode cX8_workOut 34 = .ok (.aload_n 1, 1) := by decide +kernel
theorem dX8_workOut_35 : decode cX8_workOut 35 = .ok (.aload_n 0, 1) := by decide +kernel
theorem dX8_workOut_36 : decode cX8_workOut 36 = .ok (.getfield 20, 3) := by decide +kernel
theorem dX8_workOut_39 : decode cX8_workOut 39 = .ok (.iload 7, 2) := by decide +kernel
theorem dX8_workOut_41 : decode cX8_workOut 41 = .ok (.iaload, 1) := by decide +kernel
theorem dX8_workOut_42 : decode cX8_workOut 42 = .ok (.invokevirtual 56, 3) := by decide +kernel
theorem dX8_workOut_45 : decode cX8_workOut 45 = .ok (.astore 8, 2) := by decide +kernel
theorem dX8_workOut_47 : decode cX8_workOut 47 = .ok (.aload_n 0, 1) := by decide +kernel
theorem dX8_workOut_48 : decode cX8_workOut 48 = .ok (.getfield 16, 3) := by decide +kernel
theorem dX8_workOut_51 : decode cX8_workOut 51 = .ok (.iload_n 2, 1) := by decide +kernel
theorem dX8_workOut_52 : decode cX8_workOut 52 = .ok (.bipush 20, 2) := by decide +kernel
theorem dX8_workOut_54 : decode cX8_workOut 54 = .ok (.imul, 1) := by decide +kernel
theorem dX8_workOut_55 : decode cX8_workOut 55 = .ok (.bipush 10, 2) := by decide +kernel
theorem dX8_workOut_57 : decode cX8_workOut 57 = .ok (.iadd, 1) := by decide +kernel
theorem dX8_workOut_58 : decode cX8_workOut 58 = .ok (.iload 7, 2) := by decide +kernel
theorem dX8_workOut_60 : decode cX8_workOut 60 = .ok (.iadd, 1) := by decide +kernel
theorem dX8_workOut_61 : decode cX8_workOut 61 = .ok (.invokevirtual 92, 3) := by decide +kernel
theorem dX8_workOut_64 : decode cX8_workOut 64 = .ok (.istore 9, 2) := by decide +kernel
theorem dX8_workOut_66 : decode cX8_workOut 66 = .ok (.aload 8, 2) := by decide +kernel
theorem dX8_workOut_68 : decode cX8_workOut 68 = .ok (.ifnull 25, 3) := by decide +kernel
theorem dX8_workOut_71 : decode cX8_workOut 71 = .ok (.aload_n 0, 1) := by decide +kernel
theorem dX8_workOut_72 : decode cX8_workOut 72 = .ok (.getfield 24, 3) := by decide +kernel
theorem dX8_workOut_75 : decode cX8_workOut 75 = .ok (.aload 5, 2) := by decide +kernel
theorem dX8_workOut_77 : decode cX8_workOut 77 = .ok (.iload 6, 2) := by decide +kernel
theorem dX8_workOut_79 : decode cX8_workOut 79 = .ok (.iload 9, 2) := by decide +kernel
theorem dX8_workOut_81 : decode cX8_workOut 81 = .ok (.aload 8, 2) := by decide +kernel
theorem dX8_workOut_83 : decode cX8_workOut 83 = .ok (.getfield 62, 3) := by decide +kernel
theorem dX8_workOut_86 : decode cX8_workOut 86 = .ok (.bipush 10, 2) := by decide +kernel
theorem dX8_workOut_88 : decode cX8_workOut 88 = .ok (.iload 4, 2) := by decide +kernel
theorem dX8_workOut_90 : decode cX8_workOut 90 = .ok (.invokevirtual 102, 3) := by decide +kernel
theorem dX8_workOut_93 : decode cX8_workOut 93 = .ok (.iinc 7 1, 3) := by decide +kernel
theorem dX8_workOut_96 : decode cX8_workOut 96 = .ok (.goto (-78), 3) := by decide +kernel
theorem dX8_workOut_99 : decode cX8_workOut 99 = .ok (.return_, 1) := by decide +kernel
