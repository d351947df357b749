set_option maxRecDepth 20000 in
theorem ggX7_init_X0_init : GoodIn wsX7_init wsX0_init := goodIn_r _ [16, 17, 2, 3, 18, 19, 26, 27] (by decide +kernel) (by decide +kernel)
set_option maxRecDepth 20000 in
theorem gX7_init_X0_init : GoodIn wsX7_init (wsX0_init) := ggX7_init_X0_init
set_option maxRecDepth 20000 in
theorem ggX7_init_X5_init : GoodIn wsX7_init wsX5_init := goodIn_r _ [21, 22, 2, 3, 23, 5, 6, 24, 25, 15, 16, 17, 18, 19, 26, 27, 36, 37, 38, 39, 40] (by decide +kernel) (by decide +kernel)
set_option maxRecDepth 20000 in
theorem gX7_init_X5_init_n31 : GoodIn wsX7_init (wsX5_init) := ggX7_init_X5_init
theorem dX7_init_0 : decode cX7_init 0 = .ok (.aload_n 0, 1) := by decide +kernel
theorem dX7_init_1 : decode cX7_init 1 = .ok (.invokespecial 3, 3) := by decide +kernel
theorem dX7_init_4 : decode cX7_init 4 = .ok (.aload_n 0, 1) := by decide +kernel
theorem dX7_init_5 : decode cX7_init 5 = .ok (.new 9, 3) := by decide +kernel
theorem dX7_init_8 : decode cX7_init 8 = .ok (.dup, 1) := by decide +kernel
theorem dX7_init_9 : decode cX7_init 9 = .ok (.ldc 11, 2) := by decide +kernel
theorem dX7_init_11 : decode cX7_init 11 = .ok (.invokespecial 12, 3) := by decide +kernel
theorem dX7_init_14 : decode cX7_init 14 = .ok (.putfield 15, 3) := by decide +kernel
theorem dX7_init_17 : decode cX7_init 17 = .ok (.aload_n 0, 1) := by decide +kernel
theorem dX7_init_18 : decode cX7_init 18 = .ok (.bipush 40, 2) := by decide +kernel
theorem dX7_init_20 : decode cX7_init 20 = .ok (.anewarray 21, 3) := by decide +kernel
theorem dX7_init_23 : decode cX7_init 23 = .ok (.putfield 23, 3) := by decide +kernel
theorem dX7_init_26 : decode cX7_init 26 = .ok (.aload_n 0, 1) := by decide +kernel
theorem dX7_init_27 : decode cX7_init 27 = .ok (.aload_n 1, 1) := by decide +kernel
theorem dX7_init_28 : decode cX7_init 28 = .ok (.putfield 27, 3) := by decide +kernel
theorem dX7_init_31 : decode cX7_init 31 = .ok (.iconst 0, 1) := by decide +kernel
theorem dX7_init_32 : decode cX7_init 32 = .ok (.istore_n 2, 1) := by decide +kernel
theorem dX7_init_33 : decode cX7_init 33 = .ok (.iload_n 2, 1) := by decide +kernel
theorem dX7_init_34 : decode cX7_init 34 = .ok (.aload_n 0, 1) := by decide +kernel
theorem dX7_init_35 : decode cX7_init 35 = .ok (.getfield 23, 3) := by decide +kernel
theorem dX7_init_38 : decode cX7_init 38 = .ok (.arraylength, 1) := by decide +kernel
theorem dX7_init_39 : decode cX7_init 39 = .ok (.if_icmp .ge 22, 3) := by decide +kernel
theorem dX7_init_42 : decode cX7_init 42 = .ok (.aload_n 0, 1) := by decide +kernel
theorem dX7_init_43 : decode cX7_init 43 = .ok (.getfield 23, 3) := by decide +kernel
theorem dX7_init_46 : decode cX7_init 46 = .ok (.iload_n 2, 1) := by decide +kernel
theorem dX7_init_47 : decode cX7_init 47 = .ok (.new 21, 3) := by decide +kernel
theorem dX7_init_50 : decode cX7_init 50 = .ok (.dup, 1) := by decide +kernel
theorem dX7_init_51 : decode cX7_init 51 = .ok (.invokespecial 31, 3) := by decide +kernel
theorem dX7_init_54 : decode cX7_init 54 = .ok (.aastore, 1) := by decide +kernel
theorem dX7_init_55 : decode cX7_init 55 = .ok (.iinc 2 1, 3) := by decide +kernel
theorem dX7_init_58 : decode cX7_init 58 = .ok (.goto (-25), 3) := by decide +kernel
theorem dX7_init_61 : decode cX7_init 61 = .ok (.return_, 1) := by decide +kernel
theorem dX7_at_0 : decode cX7_at 0 = .ok (.iload_n 1, 1) := by decide +kernel
theorem dX7_at_1 : decode cX7_at 1 = .ok (.ifCond .lt 29, 3) := by decide +kernel
theorem dX7_at_4 : decode cX7_at 4 = .ok (.iload_n 1, 1) := by decide +kernel
theorem dX7_at_5 : decode cX7_at 5 = .ok (.aload_n 0, 1) := by decide +kernel
theorem dX7_at_6 : decode cX7_at 6 = .ok (.getfield 32, 3) := by decide +kernel
theorem dX7_at_9 : decode cX7_at 9 = .ok (.if_icmp .ge 21, 3) := by decide +kernel
theorem dX7_at_12 : decode cX7_at 12 = .ok (.iload_n 1, 1) := by decide +kernel
theorem dX7_at_13 : decode cX7_at 13 = .ok (.aload_n 0, 1) := by decide +kernel
theorem dX7_at_14 : decode cX7_at 14 = .ok (.getfield 23, 3) := by decide +kernel
theorem dX7_at_17 : decode cX7_at 17 = .ok (.arraylength, 1) := by decide +kernel
theorem dX7_at_18 : decode cX7_at 18 = .ok (.if_icmp .ge 12, 3) := by decide +kernel
theorem dX7_at_21 : decode cX7_at 21 = .ok (.aload_n 0, 1) := by decide +kernel
theorem dX7_at_22 : decode cX7_at 22 = .ok (.getfield 23, 3) := by decide +kernel
theorem dX7_at_25 : decode cX7_at 25 = .ok (.iload_n 1, 1) := by decide +kernel
theorem dX7_at_26 : decode cX7_at 26 = .ok (.aaload, 1) := by decide +kernel
theorem dX7_at_27 : decode cX7_at 27 = .ok (.goto 4, 3) := by decide +kernel
theorem dX7_at_30 : decode cX7_at 30 = .ok (.aconst_null, 1) := by decide +kernel
theorem dX7_at_31 : decode cX7_at 31 = .ok (.areturn, 1) := by decide +kernel
theorem dX7_close_0 : decode cX7_close 0 = .ok (.aload_n 0, 1) := by decide +kernel
theorem dX7_close_1 : decode cX7_close 1 = .ok (.iconst 0, 1) := by decide +kernel
theorem dX7_close_2 : decode cX7_close 2 = .ok (.putfield 36, 3) := by decide +kernel
theorem dX7_close_5 : decode cX7_close 5 = .ok (.return_, 1) := by decide +kernel
set_option maxRecDepth 20000 in
theorem ggX7_begin_X7_indexStands : GoodIn wsX7_begin wsX7_indexStands := goodIn_r _ [10, 11, 12, 13, 14, 15, 9, 16, 17, 18, 19, 20, 21, 22, 23, 24, 25, 26, 27, 28, 29, 30, 31, 32, 33, 34, 35, 36, 37, 38, 39, 40, 41, 42, 43, 44, 70, 71, 72, 73, 74, 75, 76, 77, 78, 79, 80] (by decide +kernel) (by decide +kernel)
set_option maxRecDepth 20000 in
theorem gX7_begin_X7_indexStands : GoodIn wsX7_begin (wsV RX7 46 RX7 yX7_indexStands wsX7_indexStands) := goodIn_app (goodIn_of _ (by decide +kernel)) ggX7_begin_X7_indexStands
set_option maxRecDepth 20000 in
theorem ggX7_begin_X7_takeIndexed : GoodIn wsX7_begin wsX7_takeIndexed := goodIn_r _ [48, 11, 49, 50, 51, 52, 53, 5, 13, 14, 15, 9, 16, 17, 18, 19, 20, 21, 22, 23, 24, 25, 26, 27, 28, 29, 30, 31, 32, 54, 55, 56, 57, 70, 71, 72, 73, 74, 75, 76, 77, 81, 82, 83, 84, 85, 78, 79] (by decide +kernel) (by decide +kernel)
set_option maxRecDepth 20000 in
theorem gX7_begin_X7_takeIndexed : GoodIn wsX7_begin (wsV RX7 53 RX7 yX7_takeIndexed wsX7_takeIndexed) := goodIn_app (goodIn_of _ (by decide +kernel)) ggX7_begin_X7_takeIndexed
set_option maxRecDepth 20000 in
theorem ggX7_begin_X7_lookForFiles : GoodIn wsX7_begin wsX7_lookForFiles := goodIn_r _ [61, 5, 49, 11, 62, 63, 64, 9, 65, 17, 18, 19, 20, 21, 22, 32, 28, 29, 30, 31, 66, 67, 68, 69, 23, 24, 25, 26, 27, 70, 71, 72, 73, 74, 75, 76, 77, 81, 82, 83, 84, 85, 78, 79] (by decide +kernel) (by decide +kernel)
set_option maxRecDepth 20000 in
theorem gX7_begin_X7_lookForFiles : GoodIn wsX7_begin (wsV RX7 56 RX7 yX7_lookForFiles wsX7_lookForFiles) := goodIn_app (goodIn_of _ (by decide +kernel)) ggX7_begin_X7_lookForFiles
theorem dX7_begin_0 : decode cX7_begin 0 = .ok (.aload_n 0, 1) := by decide +kernel
theorem dX7_begin_1 : decode cX7_begin 1 = .ok (.iconst 1, 1) := by decide +kernel
theorem dX7_begin_2 : decode cX7_begin 2 = .ok (.putfield 36, 3) := by decide +kernel
theorem dX7_begin_5 : decode cX7_begin 5 = .ok (.aload_n 0, 1) := by decide +kernel
theorem dX7_begin_6 : decode cX7_begin 6 = .ok (.iload_n 1, 1) := by decide +kernel
theorem dX7_begin_7 : decode cX7_begin 7 = .ok (.putfield 40, 3) := by decide +kernel
theorem dX7_begin_10 : decode cX7_begin 10 = .ok (.aload_n 0, 1) := by decide +kernel
theorem dX7_begin_11 : decode cX7_begin 11 = .ok (.iload_n 2, 1) := by decide +kernel
theorem dX7_begin_12 : decode cX7_begin 12 = .ok (.putfield 43, 3) := by decide +kernel
theorem dX7_begin_15 : decode cX7_begin 15 = .ok (.aload_n 0, 1) := by decide +kernel
theorem dX7_begin_16 : decode cX7_begin 16 = .ok (.aload_n 0, 1) := by decide +kernel
theorem dX7_begin_17 : decode cX7_begin 17 = .ok (.invokevirtual 46, 3) := by decide +kernel
theorem dX7_begin_20 : decode cX7_begin 20 = .ok (.putfield 50, 3) := by decide +kernel
theorem dX7_begin_23 : decode cX7_begin 23 = .ok (.aload_n 0, 1) := by decide +kernel
theorem dX7_begin_24 : decode cX7_begin 24 = .ok (.iconst 0, 1) := by decide +kernel
theorem dX7_begin_25 : decode cX7_begin 25 = .ok (.putfield 32, 3) := by decide +kernel
theorem dX7_begin_28 : decode cX7_begin 28 = .ok (.aload_n 0, 1) := by decide +kernel
theorem dX7_begin_29 : decode cX7_begin 29 = .ok (.getfield 50, 3) := by decide +kernel
theorem dX7_begin_32 : decode cX7_begin 32 = .ok (.ifCond .eq 10, 3) := by decide +kernel
theorem dX7_begin_35 : decode cX7_begin 35 = .ok (.aload_n 0, 1) := by decide +kernel
theorem dX7_begin_36 : decode cX7_begin 36 = .ok (.invokevirtual 53, 3) := by decide +kernel
theorem dX7_begin_39 : decode cX7_begin 39 = .ok (.goto 7, 3) := by decide +kernel
theorem dX7_begin_42 : decode cX7_begin 42 = .ok (.aload_n 0, 1) := by decide +kernel
theorem dX7_begin_43 : decode cX7_begin 43 = .ok (.invokevirtual 56, 3) := by decide +kernel
theorem dX7_begin_46 : decode cX7_begin 46 = .ok (.return_, 1) := by decide +kernel
set_option maxRecDepth 20000 in
theorem ggX7_judgeFiles_X7_at : GoodIn wsX7_judgeFiles wsX7_at := goodIn_r _ [6, 1, 7, 78, 79, 80, 81, 82, 83, 84, 85] (by decide +kernel) (by decide +kernel)
set_option maxRecDepth 20000 in
theorem gX7_judgeFiles_X7_at : GoodIn wsX7_judgeFiles (wsV RX7 59 RX7 yX7_at wsX7_at) := goodIn_app (goodIn_of _ (by decide +kernel)) ggX7_judgeFiles_X7_at
set_option maxRecDepth 20000 in
theorem ggX7_judgeFiles_X7_readsWell : GoodIn wsX7_judgeFiles wsX7_readsWell := goodIn_r _ [11, 12, 13, 14, 15, 16, 5, 17, 18, 19, 20, 21, 22, 23, 24, 25, 26, 27, 28, 29, 30, 31, 32, 33, 34, 35, 36, 37, 38, 39, 40, 41, 42, 43, 44, 45, 46, 47, 48, 49, 50, 51, 52, 53, 54, 55, 56, 57, 58, 59, 60, 61, 62, 63, 64, 65, 66, 67, 68, 69, 70, 71, 72, 73, 74, 75, 76, 77, 86, 87, 88, 89, 90, 78, 79, 80, 81, 82, 83, 84, 85, 91, 92, 93] (by decide +kernel) (by decide +kernel)
set_option maxRecDepth 20000 in
theorem gX7_judgeFiles_X7_readsWell : GoodIn wsX7_judgeFiles (wsV RX7 63 RX7 yX7_readsWell wsX7_readsWell) := goodIn_app (goodIn_of _ (by decide +kernel)) ggX7_judgeFiles_X7_readsWell
theorem dX7_judgeFiles_0 : decode cX7_judgeFiles 0 = .ok (.iconst 0, 1) := by decide +kernel
theorem dX7_judgeFiles_1 : decode cX7_judgeFiles 1 = .ok (.istore_n 1, 1) := by decide +kernel
theorem dX7_judgeFiles_2 : decode cX7_judgeFiles 2 = .ok (.iload_n 1, 1) := by decide +kernel
theorem dX7_judgeFiles_3 : decode cX7_judgeFiles 3 = .ok (.aload_n 0, 1) := by decide +kernel
theorem dX7_judgeFiles_4 : decode cX7_judgeFiles 4 = .ok (.getfield 32, 3) := by decide +kernel
theorem dX7_judgeFiles_7 : decode cX7_judgeFiles 7 = .ok (.if_icmp .ge 28, 3) := by decide +kernel
theorem dX7_judgeFiles_10 : decode cX7_judgeFiles 10 = .ok (.aload_n 0, 1) := by decide +kernel
theorem dX7_judgeFiles_11 : decode cX7_judgeFiles 11 = .ok (.iload_n 1, 1) := by decide +kernel
theorem dX7_judgeFiles_12 : decode cX7_judgeFiles 12 = .ok (.invokevirtual 59, 3) := by decide +kernel
theorem dX7_judgeFiles_15 : decode cX7_judgeFiles 15 = .ok (.astore_n 2, 1) := by decide +kernel
theorem dX7_judgeFiles_16 : decode cX7_judgeFiles 16 = .ok (.aload_n 2, 1) := by decide +kernel
theorem dX7_judgeFiles_17 : decode cX7_judgeFiles 17 = .ok (.ifnull 12, 3) := by decide +kernel
theorem dX7_judgeFiles_20 : decode cX7_judgeFiles 20 = .ok (.aload_n 2, 1) := by decide +kernel
theorem dX7_judgeFiles_21 : decode cX7_judgeFiles 21 = .ok (.aload_n 0, 1) := by decide +kernel
theorem dX7_judgeFiles_22 : decode cX7_judgeFiles 22 = .ok (.aload_n 2, 1) := by decide +kernel
theorem dX7_judgeFiles_23 : decode cX7_judgeFiles 23 = .ok (.invokevirtual 63, 3) := by decide +kernel
theorem dX7_judgeFiles_26 : decode cX7_judgeFiles 26 = .ok (.putfield 67, 3) := by decide +kernel
theorem dX7_judgeFiles_29 : decode cX7_judgeFiles 29 = .ok (.iinc 1 1, 3) := by decide +kernel
theorem dX7_judgeFiles_32 : decode cX7_judgeFiles 32 = .ok (.goto (-30), 3) := by decide +kernel
theorem dX7_judgeFiles_35 : decode cX7_judgeFiles 35 = .ok (.return_, 1) := by decide +kernel
set_option maxRecDepth 20000 in
theorem ggX7_tailPlace_X0_size : GoodIn wsX7_tailPlace wsX0_size := goodIn_r _ [6, 7, 16, 17] (by decide +kernel) (by decide +kernel)
set_option maxRecDepth 20000 in
theorem gX7_tailPlace_X0_size : GoodIn wsX7_tailPlace (wsV RX7 70 RX0 yX0_size wsX0_size) := goodIn_app (goodIn_of _ (by decide +kernel)) ggX7_tailPlace_X0_size
theorem dX7_tailPlace_0 : decode cX7_tailPlace 0 = .ok (.aload_n 0, 1) := by decide +kernel
theorem dX7_tailPlace_1 : decode cX7_tailPlace 1 = .ok (.getfield 15, 3) := by decide +kernel
theorem dX7_tailPlace_4 : decode cX7_tailPlace 4 = .ok (.invokevirtual 70, 3) := by decide +kernel
theorem dX7_tailPlace_7 : decode cX7_tailPlace 7 = .ok (.bipush 6, 2) := by decide +kernel
theorem dX7_tailPlace_9 : decode cX7_tailPlace 9 = .ok (.isub, 1) := by decide +kernel
theorem dX7_tailPlace_10 : decode cX7_tailPlace 10 = .ok (.ireturn, 1) := by decide +kernel
set_option maxRecDepth 20000 in
theorem ggX7_indexStands_X7_tailPlace : GoodIn wsX7_indexStands wsX7_tailPlace := goodIn_r _ [7, 1, 8, 9, 10, 11, 12, 13, 36, 37, 38, 39, 40, 41, 42, 43, 44, 45] (by decide +kernel) (by decide +kernel)
set_option maxRecDepth 20000 in
theorem gX7_indexStands_X7_tailPlace : GoodIn wsX7_indexStands (wsV RX7 74 RX7 yX7_tailPlace wsX7_tailPlace) := goodIn_app (goodIn_of _ (by decide +kernel)) ggX7_indexStands_X7_tailPlace
set_option maxRecDepth 20000 in
theorem ggX7_indexStands_X0_word : GoodIn wsX7_indexStands wsX0_word := goodIn_r _ [17, 18, 19, 20, 11, 21, 13, 22, 44, 45] (by decide +kernel) (by decide +kernel)
set_option maxRecDepth 20000 in
theorem gX7_indexStands_X0_word : GoodIn wsX7_indexStands (wsV RX7 77 RX0 yX0_word wsX0_word) := goodIn_app (goodIn_of _ (by decide +kernel)) ggX7_indexStands_X0_word
set_option maxRecDepth 20000 in
theorem ggX7_indexStands_X0_at : GoodIn wsX7_indexStands wsX0_at := goodIn_r _ [21, 13, 22, 44, 45] (by decide +kernel) (by decide +kernel)
set_option maxRecDepth 20000 in
theorem gX7_indexStands_X0_at : GoodIn wsX7_indexStands (wsV RX7 81 RX0 yX0_at wsX0_at) := goodIn_app (goodIn_of _ (by decide +kernel)) ggX7_indexStands_X0_at
set_option maxRecDepth 20000 in
theorem ggX7_indexStands_X1_over : GoodIn wsX7_indexStands wsX1_over := goodIn_r _ [28, 29, 30, 31, 32, 27, 33, 34, 35, 19, 20, 11, 21, 13, 22, 46, 44, 45] (by decide +kernel) (by decide +kernel)
set_option maxRecDepth 20000 in
theorem gX7_indexStands_X1_over : GoodIn wsX7_indexStands (wsV RX7 83 RX1 yX1_over wsX1_over) := goodIn_app (goodIn_of _ (by decide +kernel)) ggX7_indexStands_X1_over
theorem dX7_indexStands_0 : decode cX7_indexStands 0 = .ok (.aload_n 0, 1) := by decide +kernel
theorem dX7_indexStands_1 : decode cX7_indexStands 1 = .ok (.invokevirtual 74, 3) := by decide +kernel
theorem dX7_indexStands_4 : decode cX7_indexStands 4 = .ok (.istore_n 1, 1) := by decide +kernel
theorem dX7_indexStands_5 : decode cX7_indexStands 5 = .ok (.aload_n 0, 1) := by decide +kernel
theorem dX7_indexStands_6 : decode cX7_indexStands 6 = .ok (.getfield 15, 3) := by decide +kernel
theorem dX7_indexStands_9 : decode cX7_indexStands 9 = .ok (.iload_n 1, 1) := by decide +kernel
theorem dX7_indexStands_10 : decode cX7_indexStands 10 = .ok (.iconst 2, 1) := by decide +kernel
theorem dX7_indexStands_11 : decode cX7_indexStands 11 = .ok (.iadd, 1) := by decide +kernel
theorem dX7_indexStands_12 : decode cX7_indexStands 12 = .ok (.invokevirtual 77, 3) := by decide +kernel
theorem dX7_indexStands_15 : decode cX7_indexStands 15 = .ok (.istore_n 2, 1) := by decide +kernel
theorem dX7_indexStands_16 : decode cX7_indexStands 16 = .ok (.iload_n 1, 1) := by decide +kernel
theorem dX7_indexStands_17 : decode cX7_indexStands 17 = .ok (.ifCond .lt 65, 3) := by decide +kernel
theorem dX7_indexStands_20 : decode cX7_indexStands 20 = .ok (.aload_n 0, 1) := by decide +kernel
theorem dX7_indexStands_21 : decode cX7_indexStands 21 = .ok (.getfield 15, 3) := by decide +kernel
theorem dX7_indexStands_24 : decode cX7_indexStands 24 = .ok (.iload_n 1, 1) := by decide +kernel
theorem dX7_indexStands_25 : decode cX7_indexStands 25 = .ok (.invokevirtual 81, 3) := by decide +kernel
theorem dX7_indexStands_28 : decode cX7_indexStands 28 = .ok (.bipush 88, 2) := by decide +kernel
theorem dX7_indexStands_30 : decode cX7_indexStands 30 = .ok (.if_icmp .ne 52, 3) := by decide +kernel
theorem dX7_indexStands_33 : decode cX7_indexStands 33 = .ok (.iload_n 2, 1) := by decide +kernel
theorem dX7_indexStands_34 : decode cX7_indexStands 34 = .ok (.bipush 6, 2) := by decide +kernel
theorem dX7_indexStands_36 : decode cX7_indexStands 36 = .ok (.aload_n 0, 1) := by decide +kernel
theorem dX7_indexStands_37 : decode cX7_indexStands 37 = .ok (.getfield 15, 3) := by decide +kernel
theorem dX7_indexStands_40 : decode cX7_indexStands 40 = .ok (.iload_n 1, 1) := by decide +kernel
theorem dX7_indexStands_41 : decode cX7_indexStands 41 = .ok (.iconst 1, 1) := by decide +kernel
theorem dX7_indexStands_42 : decode cX7_indexStands 42 = .ok (.iadd, 1) := by decide +kernel
theorem dX7_indexStands_43 : decode cX7_indexStands 43 = .ok (.invokevirtual 81, 3) := by decide +kernel
theorem dX7_indexStands_46 : decode cX7_indexStands 46 = .ok (.imul, 1) := by decide +kernel
theorem dX7_indexStands_47 : decode cX7_indexStands 47 = .ok (.iadd, 1) := by decide +kernel
theorem dX7_indexStands_48 : decode cX7_indexStands 48 = .ok (.iload_n 1, 1) := by decide +kernel
theorem dX7_indexStands_49 : decode cX7_indexStands 49 = .ok (.if_icmp .ne 33, 3) := by decide +kernel
theorem dX7_indexStands_52 : decode cX7_indexStands 52 = .ok (.aload_n 0, 1) := by decide +kernel
theorem dX7_indexStands_53 : decode cX7_indexStands 53 = .ok (.getfield 27, 3) := by decide +kernel
theorem dX7_indexStands_56 : decode cX7_indexStands 56 = .ok (.aload_n 0, 1) := by decide +kernel
theorem dX7_indexStands_57 : decode cX7_indexStands 57 = .ok (.getfield 15, 3) := by decide +kernel
theorem dX7_indexStands_60 : decode cX7_indexStands 60 = .ok (.iload_n 2, 1) := by decide +kernel
theorem dX7_indexStands_61 : decode cX7_indexStands 61 = .ok (.iload_n 1, 1) := by decide +kernel
theorem dX7_indexStands_62 : decode cX7_indexStands 62 = .ok (.invokevirtual 83, 3) := by decide +kernel
theorem dX7_indexStands_65 : decode cX7_indexStands 65 = .ok (.aload_n 0, 1) := by decide +kernel
theorem dX7_indexStands_66 : decode cX7_indexStands 66 = .ok (.getfield 15, 3) := by decide +kernel
theorem dX7_indexStands_69 : decode cX7_indexStands 69 = .ok (.iload_n 1, 1) := by decide +kernel
theorem dX7_indexStands_70 : decode cX7_indexStands 70 = .ok (.iconst 4, 1) := by decide +kernel
theorem dX7_indexStands_71 : decode cX7_indexStands 71 = .ok (.iadd, 1) := by decide +kernel
theorem dX7_indexStands_72 : decode cX7_indexStands 72 = .ok (.invokevirtual 77, 3) := by decide +kernel
theorem dX7_indexStands_75 : decode cX7_indexStands 75 = .ok (.if_icmp .ne 7, 3) := by decide +kernel
theorem dX7_indexStands_78 : decode cX7_indexStands 78 = .ok (.iconst 1, 1) := by decide +kernel
theorem dX7_indexStands_79 : decode cX7_indexStands 79 = .ok (.goto 4, 3) := by decide +kernel
theorem dX7_indexStands_82 : decode cX7_indexStands 82 = .ok (.iconst 0, 1) := by decide +kernel
theorem dX7_indexStands_83 : decode cX7_indexStands 83 = .ok (.ireturn, 1) := by decide +kernel
set_option maxRecDepth 20000 in
theorem ggX7_takeIndexed_X7_tailPlace : GoodIn wsX7_takeIndexed wsX7_tailPlace := goodIn_r _ [12, 1, 13, 14, 15, 16, 17, 18, 33, 34, 35, 36, 37, 38, 39, 40, 46, 47] (by decide +kernel) (by decide +kernel)
set_option maxRecDepth 20000 in
theorem gX7_takeIndexed_X7_tailPlace : GoodIn wsX7_takeIndexed (wsV RX7 74 RX7 yX7_tailPlace wsX7_tailPlace) := goodIn_app (goodIn_of _ (by decide +kernel)) ggX7_takeIndexed_X7_tailPlace
set_option maxRecDepth 20000 in
theorem ggX7_takeIndexed_X0_word : GoodIn wsX7_takeIndexed wsX0_word := goodIn_r _ [22, 23, 24, 25, 16, 26, 18, 27, 46, 47] (by decide +kernel) (by decide +kernel)
set_option maxRecDepth 20000 in
theorem gX7_takeIndexed_X0_word : GoodIn wsX7_takeIndexed (wsV RX7 77 RX0 yX0_word wsX0_word) := goodIn_app (goodIn_of _ (by decide +kernel)) ggX7_takeIndexed_X0_word
set_option maxRecDepth 20000 in
theorem ggX7_takeIndexed_X0_at : GoodIn wsX7_takeIndexed wsX0_at := goodIn_r _ [26, 18, 27, 46, 47] (by decide +kernel) (by decide +kernel)
set_option maxRecDepth 20000 in
theorem gX7_takeIndexed_X0_at : GoodIn wsX7_takeIndexed (wsV RX7 81 RX0 yX0_at wsX0_at) := goodIn_app (goodIn_of _ (by decide +kernel)) ggX7_takeIndexed_X0_at
set_option maxRecDepth 20000 in
theorem ggX7_takeIndexed_X7_at : GoodIn wsX7_takeIndexed wsX7_at := goodIn_r _ [32, 7, 2, 33, 34, 35, 36, 37, 38, 39, 40] (by decide +kernel) (by decide +kernel)
set_option maxRecDepth 20000 in
theorem gX7_takeIndexed_X7_at : GoodIn wsX7_takeIndexed (wsV RX7 59 RX7 yX7_at wsX7_at) := goodIn_app (goodIn_of _ (by decide +kernel)) ggX7_takeIndexed_X7_at
theorem dX7_takeIndexed_0 : decode cX7_takeIndexed 0 = .ok (.aload_n 0, 1) := by decide +kernel
theorem dX7_takeIndexed_1 : decode cX7_takeIndexed 1 = .ok (.invokevirtual 74, 3) := by decide +kernel
theorem dX7_takeIndexed_4 : decode cX7_takeIndexed 4 = .ok (.istore_n 1, 1) := by decide +kernel
theorem dX7_takeIndexed_5 : decode cX7_takeIndexed 5 = .ok (.aload_n 0, 1) := by decide +kernel
theorem dX7_takeIndexed_6 : decode cX7_takeIndexed 6 = .ok (.getfield 15, 3) := by decide +kernel
theorem dX7_takeIndexed_9 : decode cX7_takeIndexed 9 = .ok (.iload_n 1, 1) := by decide +kernel
theorem dX7_takeIndexed_10 : decode cX7_takeIndexed 10 = .ok (.iconst 2, 1) := by decide +kernel
theorem dX7_takeIndexed_11 : decode cX7_takeIndexed 11 = .ok (.iadd, 1) := by decide +kernel
theorem dX7_takeIndexed_12 : decode cX7_takeIndexed 12 = .ok (.invokevirtual 77, 3) := by decide +kernel
theorem dX7_takeIndexed_15 : decode cX7_takeIndexed 15 = .ok (.istore_n 2, 1) := by decide +kernel
theorem dX7_takeIndexed_16 : decode cX7_takeIndexed 16 = .ok (.aload_n 0, 1) := by decide +kernel
theorem dX7_takeIndexed_17 : decode cX7_takeIndexed 17 = .ok (.aload_n 0, 1) := by decide +kernel
theorem dX7_takeIndexed_18 : decode cX7_takeIndexed 18 = .ok (.getfield 15, 3) := by decide +kernel
theorem dX7_takeIndexed_21 : decode cX7_takeIndexed 21 = .ok (.iload_n 1, 1) := by decide +kernel
theorem dX7_takeIndexed_22 : decode cX7_takeIndexed 22 = .ok (.iconst 1, 1) := by decide +kernel
theorem dX7_takeIndexed_23 : decode cX7_takeIndexed 23 = .ok (.iadd, 1) := by decide +kernel
theorem dX7_takeIndexed_24 : decode cX7_takeIndexed 24 = .ok (.invokevirtual 81, 3) := by decide +kernel
theorem dX7_takeIndexed_27 : decode cX7_takeIndexed 27 = .ok (.aload_n 0, 1) := by decide +kernel
theorem dX7_takeIndexed_28 : decode cX7_takeIndexed 28 = .ok (.getfield 23, 3) := by decide +kernel
theorem dX7_takeIndexed_31 : decode cX7_takeIndexed 31 = .ok (.arraylength, 1) := by decide +kernel
theorem dX7_takeIndexed_32 : decode cX7_takeIndexed 32 = .ok (.invokestatic 89, 3) := by decide +kernel
theorem dX7_takeIndexed_35 : decode cX7_takeIndexed 35 = .ok (.putfield 32, 3) := by decide +kernel
theorem dX7_takeIndexed_38 : decode cX7_takeIndexed 38 = .ok (.iconst 0, 1) := by decide +kernel
theorem dX7_takeIndexed_39 : decode cX7_takeIndexed 39 = .ok (.istore_n 3, 1) := by decide +kernel
theorem dX7_takeIndexed_40 : decode cX7_takeIndexed 40 = .ok (.iload_n 3, 1) := by decide +kernel
theorem dX7_takeIndexed_41 : decode cX7_takeIndexed 41 = .ok (.aload_n 0, 1) := by decide +kernel
theorem dX7_takeIndexed_42 : decode cX7_takeIndexed 42 = .ok (.getfield 32, 3) := by decide +kernel
theorem dX7_takeIndexed_45 : decode cX7_takeIndexed 45 = .ok (.if_icmp .ge 75, 3) := by decide +kernel
theorem dX7_takeIndexed_48 : decode cX7_takeIndexed 48 = .ok (.iload_n 2, 1) := by decide +kernel
theorem dX7_takeIndexed_49 : decode cX7_takeIndexed 49 = .ok (.iload_n 3, 1) := by decide +kernel
theorem dX7_takeIndexed_50 : decode cX7_takeIndexed 50 = .ok (.bipush 6, 2) := by decide +kernel
theorem dX7_takeIndexed_52 : decode cX7_takeIndexed 52 = .ok (.imul, 1) := by decide +kernel
theorem dX7_takeIndexed_53 : decode cX7_takeIndexed 53 = .ok (.iadd, 1) := by decide +kernel
theorem dX7_takeIndexed_54 : decode cX7_takeIndexed 54 = .ok (.istore 4, 2) := by decide +kernel
theorem dX7_takeIndexed_56 : decode cX7_takeIndexed 56 = .ok (.aload_n 0, 1) := by decide +kernel
theorem dX7_takeIndexed_57 : decode cX7_takeIndexed 57 = .ok (.iload_n 3, 1) := by decide +kernel
theorem dX7_takeIndexed_58 : decode cX7_takeIndexed 58 = .ok (.invokevirtual 59, 3) := by decide +kernel
theorem dX7_takeIndexed_61 : decode cX7_takeIndexed 61 = .ok (.astore 5, 2) := by decide +kernel
theorem dX7_takeIndexed_63 : decode cX7_takeIndexed 63 = .ok (.aload 5, 2) := by decide +kernel
theorem dX7_takeIndexed_65 : decode cX7_takeIndexed 65 = .ok (.ifnull 49, 3) := by decide +kernel
theorem dX7_takeIndexed_68 : decode cX7_takeIndexed 68 = .ok (.aload 5, 2) := by decide +kernel
theorem dX7_takeIndexed_70 : decode cX7_takeIndexed 70 = .ok (.aload_n 0, 1) := by decide +kernel
theorem dX7_takeIndexed_71 : decode cX7_takeIndexed 71 = .ok (.getfield 15, 3) := by decide +kernel
theorem dX7_takeIndexed_74 : decode cX7_takeIndexed 74 = .ok (.iload 4, 2) := by decide +kernel
theorem dX7_takeIndexed_76 : decode cX7_takeIndexed 76 = .ok (.invokevirtual 77, 3) := by decide +kernel
theorem dX7_takeIndexed_79 : decode cX7_takeIndexed 79 = .ok (.putfield 95, 3) := by decide +kernel
theorem dX7_takeIndexed_82 : decode cX7_takeIndexed 82 = .ok (.aload 5, 2) := by decide +kernel
theorem dX7_takeIndexed_84 : decode cX7_takeIndexed 84 = .ok (.aload_n 0, 1) := by decide +kernel
theorem dX7_takeIndexed_85 : decode cX7_takeIndexed 85 = .ok (.getfield 15, 3) := by decide +kernel
theorem dX7_takeIndexed_88 : decode cX7_takeIndexed 88 = .ok (.iload 4, 2) := by decide +kernel
theorem dX7_takeIndexed_90 : decode cX7_takeIndexed 90 = .ok (.iconst 2, 1) := by decide +kernel
theorem dX7_takeIndexed_91 : decode cX7_takeIndexed 91 = .ok (.iadd, 1) := by decide +kernel
theorem dX7_takeIndexed_92 : decode cX7_takeIndexed 92 = .ok (.invokevirtual 77, 3) := by decide +kernel
theorem dX7_takeIndexed_95 : decode cX7_takeIndexed 95 = .ok (.putfield 98, 3) := by decide +kernel
theorem dX7_takeIndexed_98 : decode cX7_takeIndexed 98 = .ok (.aload 5, 2) := by decide +kernel
theorem dX7_takeIndexed_100 : decode cX7_takeIndexed 100 = .ok (.aload_n 0, 1) := by decide +kernel
theorem dX7_takeIndexed_101 : decode cX7_takeIndexed 101 = .ok (.getfield 15, 3) := by decide +kernel
theorem dX7_takeIndexed_104 : decode cX7_takeIndexed 104 = .ok (.iload 4, 2) := by decide +kernel
theorem dX7_takeIndexed_106 : decode cX7_takeIndexed 106 = .ok (.iconst 4, 1) := by decide +kernel
theorem dX7_takeIndexed_107 : decode cX7_takeIndexed 107 = .ok (.iadd, 1) := by decide +kernel
theorem dX7_takeIndexed_108 : decode cX7_takeIndexed 108 = .ok (.invokevirtual 77, 3) := by decide +kernel
theorem dX7_takeIndexed_111 : decode cX7_takeIndexed 111 = .ok (.putfield 101, 3) := by decide +kernel
theorem dX7_takeIndexed_114 : decode cX7_takeIndexed 114 = .ok (.iinc 3 1, 3) := by decide +kernel
theorem dX7_takeIndexed_117 : decode cX7_takeIndexed 117 = .ok (.goto (-77), 3) := by decide +kernel
theorem dX7_takeIndexed_120 : decode cX7_takeIndexed 120 = .ok (.return_, 1) := by decide +kernel
set_option maxRecDepth 20000 in
theorem ggX7_lookForFiles_X7_liesAt : GoodIn wsX7_lookForFiles wsX7_liesAt := goodIn_r _ [8, 3, 9, 10, 11, 12, 13, 14, 15, 16, 17, 18, 19, 20, 21, 22, 7, 23, 24, 25, 26, 27, 28, 29, 30, 31, 32, 33, 34, 35, 36, 42, 43] (by decide +kernel) (by decide +kernel)
set_option maxRecDepth 20000 in
theorem gX7_lookForFiles_X7_liesAt : GoodIn wsX7_lookForFiles (wsV RX7 104 RX7 yX7_liesAt wsX7_liesAt) := goodIn_app (goodIn_of _ (by decide +kernel)) ggX7_lookForFiles_X7_liesAt
set_option maxRecDepth 20000 in
theorem ggX7_lookForFiles_X0_word : GoodIn wsX7_lookForFiles wsX0_word := goodIn_r _ [27, 28, 16, 17, 12, 18, 14, 19, 42, 43] (by decide +kernel) (by decide +kernel)
set_option maxRecDepth 20000 in
theorem gX7_lookForFiles_X0_word : GoodIn wsX7_lookForFiles (wsV RX7 77 RX0 yX0_word wsX0_word) := goodIn_app (goodIn_of _ (by decide +kernel)) ggX7_lookForFiles_X0_word
set_option maxRecDepth 20000 in
theorem ggX7_lookForFiles_X7_endOfFile : GoodIn wsX7_lookForFiles wsX7_endOfFile := goodIn_r _ [23, 3, 24, 25, 26, 12, 27, 28, 16, 17, 18, 14, 19, 29, 30, 31, 32, 33, 34, 35, 36, 42, 43] (by decide +kernel) (by decide +kernel)
set_option maxRecDepth 20000 in
theorem gX7_lookForFiles_X7_endOfFile : GoodIn wsX7_lookForFiles (wsV RX7 108 RX7 yX7_endOfFile wsX7_endOfFile) := goodIn_app (goodIn_of _ (by decide +kernel)) ggX7_lookForFiles_X7_endOfFile
theorem dX7_lookForFiles_0 : decode cX7_lookForFiles 0 = .ok (.iconst 0, 1) := by decide +kernel
theorem dX7_lookForFiles_1 : decode cX7_lookForFiles 1 = .ok (.istore_n 1, 1) := by decide +kernel
theorem dX7_lookForFiles_2 : decode cX7_lookForFiles 2 = .ok (.aload_n 0, 1) := by decide +kernel
theorem dX7_lookForFiles_3 : decode cX7_lookForFiles 3 = .ok (.getfield 32, 3) := by decide +kernel
theorem dX7_lookForFiles_6 : decode cX7_lookForFiles 6 = .ok (.aload_n 0, 1) := by decide +kernel
theorem dX7_lookForFiles_7 : decode cX7_lookForFiles 7 = .ok (.getfield 23, 3) := by decide +kernel
theorem dX7_lookForFiles_10 : decode cX7_lookForFiles 10 = .ok (.arraylength, 1) := by decide +kernel
theorem dX7_lookForFiles_11 : decode cX7_lookForFiles 11 = .ok (.if_icmp .ge 64, 3) := by decide +kernel
theorem dX7_lookForFiles_14 : decode cX7_lookForFiles 14 = .ok (.aload_n 0, 1) := by decide +kernel
theorem dX7_lookForFiles_15 : decode cX7_lookForFiles 15 = .ok (.iload_n 1, 1) := by decide +kernel
theorem dX7_lookForFiles_16 : decode cX7_lookForFiles 16 = .ok (.invokevirtual 104, 3) := by decide +kernel
theorem dX7_lookForFiles_19 : decode cX7_lookForFiles 19 = .ok (.ifCond .eq 56, 3) := by decide +kernel
theorem dX7_lookForFiles_22 : decode cX7_lookForFiles 22 = .ok (.aload_n 0, 1) := by decide +kernel
theorem dX7_lookForFiles_23 : decode cX7_lookForFiles 23 = .ok (.getfield 23, 3) := by decide +kernel
theorem dX7_lookForFiles_26 : decode cX7_lookForFiles 26 = .ok (.aload_n 0, 1) := by decide +kernel
theorem dX7_lookForFiles_27 : decode cX7_lookForFiles 27 = .ok (.getfield 32, 3) := by decide +kernel
theorem dX7_lookForFiles_30 : decode cX7_lookForFiles 30 = .ok (.aaload, 1) := by decide +kernel
theorem dX7_lookForFiles_31 : decode cX7_lookForFiles 31 = .ok (.astore_n 2, 1) := by decide +kernel
theorem dX7_lookForFiles_32 : decode cX7_lookForFiles 32 = .ok (.aload_n 2, 1) := by decide +kernel
theorem dX7_lookForFiles_33 : decode cX7_lookForFiles 33 = .ok (.aload_n 0, 1) := by decide +kernel
theorem dX7_lookForFiles_34 : decode cX7_lookForFiles 34 = .ok (.getfield 15, 3) := by decide +kernel
theorem dX7_lookForFiles_37 : decode cX7_lookForFiles 37 = .ok (.iload_n 1, 1) := by decide +kernel
theorem dX7_lookForFiles_38 : decode cX7_lookForFiles 38 = .ok (.iconst 2, 1) := by decide +kernel
theorem dX7_lookForFiles_39 : decode cX7_lookForFiles 39 = .ok (.iadd, 1) := by decide +kernel
theorem dX7_lookForFiles_40 : decode cX7_lookForFiles 40 = .ok (.invokevirtual 77, 3) := by decide +kernel
theorem dX7_lookForFiles_43 : decode cX7_lookForFiles 43 = .ok (.putfield 95, 3) := by decide +kernel
theorem dX7_lookForFiles_46 : decode cX7_lookForFiles 46 = .ok (.aload_n 2, 1) := by decide +kernel
theorem dX7_lookForFiles_47 : decode cX7_lookForFiles 47 = .ok (.iload_n 1, 1) := by decide +kernel
theorem dX7_lookForFiles_48 : decode cX7_lookForFiles 48 = .ok (.putfield 98, 3) := by decide +kernel
theorem dX7_lookForFiles_51 : decode cX7_lookForFiles 51 = .ok (.aload_n 2, 1) := by decide +kernel
theorem dX7_lookForFiles_52 : decode cX7_lookForFiles 52 = .ok (.iconst (-1), 1) := by decide +kernel
theorem dX7_lookForFiles_53 : decode cX7_lookForFiles 53 = .ok (.putfield 101, 3) := by decide +kernel
theorem dX7_lookForFiles_56 : decode cX7_lookForFiles 56 = .ok (.aload_n 0, 1) := by decide +kernel
theorem dX7_lookForFiles_57 : decode cX7_lookForFiles 57 = .ok (.iload_n 1, 1) := by decide +kernel
theorem dX7_lookForFiles_58 : decode cX7_lookForFiles 58 = .ok (.invokevirtual 108, 3) := by decide +kernel
theorem dX7_lookForFiles_61 : decode cX7_lookForFiles 61 = .ok (.istore_n 1, 1) := by decide +kernel
theorem dX7_lookForFiles_62 : decode cX7_lookForFiles 62 = .ok (.aload_n 0, 1) := by decide +kernel
theorem dX7_lookForFiles_63 : decode cX7_lookForFiles 63 = .ok (.dup, 1) := by decide +kernel
theorem dX7_lookForFiles_64 : decode cX7_lookForFiles 64 = .ok (.getfield 32, 3) := by decide +kernel
theorem dX7_lookForFiles_67 : decode cX7_lookForFiles 67 = .ok (.iconst 1, 1) := by decide +kernel
theorem dX7_lookForFiles_68 : decode cX7_lookForFiles 68 = .ok (.iadd, 1) := by decide +kernel
theorem dX7_lookForFiles_69 : decode cX7_lookForFiles 69 = .ok (.putfield 32, 3) := by decide +kernel
theorem dX7_lookForFiles_72 : decode cX7_lookForFiles 72 = .ok (.goto (-70), 3) := by decide +kernel
theorem dX7_lookForFiles_75 : decode cX7_lookForFiles 75 = .ok (.return_, 1) := by decide +kernel
set_option maxRecDepth 20000 in
theorem ggX7_endOfFile_X0_word : GoodIn wsX7_endOfFile wsX0_word := goodIn_r _ [6, 7, 8, 9, 5, 10, 11, 12, 21, 22] (by decide +kernel) (by decide +kernel)
set_option maxRecDepth 20000 in
theorem gX7_endOfFile_X0_word : GoodIn wsX7_endOfFile (wsV RX7 77 RX0 yX0_word wsX0_word) := goodIn_app (goodIn_of _ (by decide +kernel)) ggX7_endOfFile_X0_word
theorem dX7_endOfFile_0 : decode cX7_endOfFile 0 = .ok (.iload_n 1, 1) := by decide +kernel
theorem dX7_endOfFile_1 : decode cX7_endOfFile 1 = .ok (.bipush 8, 2) := by decide +kernel
theorem dX7_endOfFile_3 : decode cX7_endOfFile 3 = .ok (.iadd, 1) := by decide +kernel
theorem dX7_endOfFile_4 : decode cX7_endOfFile 4 = .ok (.aload_n 0, 1) := by decide +kernel
theorem dX7_endOfFile_5 : decode cX7_endOfFile 5 = .ok (.getfield 15, 3) := by decide +kernel
theorem dX7_endOfFile_8 : decode cX7_endOfFile 8 = .ok (.iload_n 1, 1) := by decide +kernel
theorem dX7_endOfFile_9 : decode cX7_endOfFile 9 = .ok (.iconst 4, 1) := by decide +kernel
theorem dX7_endOfFile_10 : decode cX7_endOfFile 10 = .ok (.iadd, 1) := by decide +kernel
theorem dX7_endOfFile_11 : decode cX7_endOfFile 11 = .ok (.invokevirtual 77, 3) := by decide +kernel
theorem dX7_endOfFile_14 : decode cX7_endOfFile 14 = .ok (.iadd, 1) := by decide +kernel
theorem dX7_endOfFile_15 : decode cX7_endOfFile 15 = .ok (.ireturn, 1) := by decide +kernel
set_option maxRecDepth 20000 in
theorem ggX7_liesAt_X0_size : GoodIn wsX7_liesAt wsX0_size := goodIn_r _ [6, 7, 31, 32] (by decide +kernel) (by decide +kernel)
set_option maxRecDepth 20000 in
theorem gX7_liesAt_X0_size : GoodIn wsX7_liesAt (wsV RX7 70 RX0 yX0_size wsX0_size) := goodIn_app (goodIn_of _ (by decide +kernel)) ggX7_liesAt_X0_size
set_option maxRecDepth 20000 in
theorem ggX7_liesAt_X0_at : GoodIn wsX7_liesAt wsX0_at := goodIn_r _ [11, 7, 12, 31, 32] (by decide +kernel) (by decide +kernel)
set_option maxRecDepth 20000 in
theorem gX7_liesAt_X0_at : GoodIn wsX7_liesAt (wsV RX7 81 RX0 yX0_at wsX0_at) := goodIn_app (goodIn_of _ (by decide +kernel)) ggX7_liesAt_X0_at
set_option maxRecDepth 20000 in
theorem ggX7_liesAt_X7_endOfFile : GoodIn wsX7_liesAt wsX7_endOfFile := goodIn_r _ [17, 1, 18, 19, 20, 5, 21, 22, 9, 10, 11, 7, 12, 23, 24, 25, 26, 27, 28, 29, 30, 31, 32] (by decide +kernel) (by decide +kernel)
set_option maxRecDepth 20000 in
theorem gX7_liesAt_X7_endOfFile : GoodIn wsX7_liesAt (wsV RX7 108 RX7 yX7_endOfFile wsX7_endOfFile) := goodIn_app (goodIn_of _ (by decide +kernel)) ggX7_liesAt_X7_endOfFile
theorem dX7_liesAt_0 : decode cX7_liesAt 0 = .ok (.iload_n 1, 1) := by decide +kernel
theorem dX7_liesAt_1 : decode cX7_liesAt 1 = .ok (.ifCond .lt 63, 3) := by decide +kernel
theorem dX7_liesAt_4 : decode cX7_liesAt 4 = .ok (.iload_n 1, 1) := by decide +kernel
theorem dX7_liesAt_5 : decode cX7_liesAt 5 = .ok (.bipush 8, 2) := by decide +kernel
theorem dX7_liesAt_7 : decode cX7_liesAt 7 = .ok (.iadd, 1) := by decide +kernel
theorem dX7_liesAt_8 : decode cX7_liesAt 8 = .ok (.aload_n 0, 1) := by decide +kernel
theorem dX7_liesAt_9 : decode cX7_liesAt 9 = .ok (.getfield 15, 3) := by decide +kernel
theorem dX7_liesAt_12 : decode cX7_liesAt 12 = .ok (.invokevirtual 70, 3) := by decide +kernel
theorem dX7_liesAt_15 : decode cX7_liesAt 15 = .ok (.if_icmp .gt 49, 3) := by decide +kernel
theorem dX7_liesAt_18 : decode cX7_liesAt 18 = .ok (.aload_n 0, 1) := by decide +kernel
theorem dX7_liesAt_19 : decode cX7_liesAt 19 = .ok (.getfield 15, 3) := by decide +kernel
theorem dX7_liesAt_22 : decode cX7_liesAt 22 = .ok (.iload_n 1, 1) := by decide +kernel
theorem dX7_liesAt_23 : decode cX7_liesAt 23 = .ok (.invokevirtual 81, 3) := by decide +kernel
theorem dX7_liesAt_26 : decode cX7_liesAt 26 = .ok (.bipush 69, 2) := by decide +kernel
theorem dX7_liesAt_28 : decode cX7_liesAt 28 = .ok (.if_icmp .ne 36, 3) := by decide +kernel
theorem dX7_liesAt_31 : decode cX7_liesAt 31 = .ok (.aload_n 0, 1) := by decide +kernel
theorem dX7_liesAt_32 : decode cX7_liesAt 32 = .ok (.getfield 15, 3) := by decide +kernel
theorem dX7_liesAt_35 : decode cX7_liesAt 35 = .ok (.iload_n 1, 1) := by decide +kernel
theorem dX7_liesAt_36 : decode cX7_liesAt 36 = .ok (.iconst 1, 1) := by decide +kernel
theorem dX7_liesAt_37 : decode cX7_liesAt 37 = .ok (.iadd, 1) := by decide +kernel
theorem dX7_liesAt_38 : decode cX7_liesAt 38 = .ok (.invokevirtual 81, 3) := by decide +kernel
theorem dX7_liesAt_41 : decode cX7_liesAt 41 = .ok (.iconst 1, 1) := by decide +kernel
theorem dX7_liesAt_42 : decode cX7_liesAt 42 = .ok (.if_icmp .gt 22, 3) := by decide +kernel
theorem dX7_liesAt_45 : decode cX7_liesAt 45 = .ok (.aload_n 0, 1) := by decide +kernel
theorem dX7_liesAt_46 : decode cX7_liesAt 46 = .ok (.iload_n 1, 1) := by decide +kernel
theorem dX7_liesAt_47 : decode cX7_liesAt 47 = .ok (.invokevirtual 108, 3) := by decide +kernel
theorem dX7_liesAt_50 : decode cX7_liesAt 50 = .ok (.aload_n 0, 1) := by decide +kernel
theorem dX7_liesAt_51 : decode cX7_liesAt 51 = .ok (.getfield 15, 3) := by decide +kernel
theorem dX7_liesAt_54 : decode cX7_liesAt 54 = .ok (.invokevirtual 70, 3) := by decide +kernel
theorem dX7_liesAt_57 : decode cX7_liesAt 57 = .ok (.if_icmp .gt 7, 3) := by decide +kernel
theorem dX7_liesAt_60 : decode cX7_liesAt 60 = .ok (.iconst 1, 1) := by decide +kernel
theorem dX7_liesAt_61 : decode cX7_liesAt 61 = .ok (.goto 4, 3) := by decide +kernel
theorem dX7_liesAt_64 : decode cX7_liesAt 64 = .ok (.iconst 0, 1) := by decide +kernel
theorem dX7_liesAt_65 : decode cX7_liesAt 65 = .ok (.ireturn, 1) := by decide +kernel
set_option maxRecDepth 20000 in
theorem ggX7_readsWell_X7_liesAt : GoodIn wsX7_readsWell wsX7_liesAt := goodIn_r _ [7, 1, 8, 9, 10, 11, 12, 13, 14, 15, 16, 17, 18, 19, 20, 21, 6, 22, 23, 24, 25, 26, 27, 73, 74, 75, 76, 77, 78, 79, 80, 81, 82] (by decide +kernel) (by decide +kernel)
set_option maxRecDepth 20000 in
theorem gX7_readsWell_X7_liesAt : GoodIn wsX7_readsWell (wsV RX7 104 RX7 yX7_liesAt wsX7_liesAt) := goodIn_app (goodIn_of _ (by decide +kernel)) ggX7_readsWell_X7_liesAt
set_option maxRecDepth 20000 in
theorem ggX7_readsWell_X0_word : GoodIn wsX7_readsWell wsX0_word := goodIn_r _ [26, 27, 15, 16, 11, 17, 13, 18, 81, 82] (by decide +kernel) (by decide +kernel)
set_option maxRecDepth 20000 in
theorem gX7_readsWell_X0_word : GoodIn wsX7_readsWell (wsV RX7 77 RX0 yX0_word wsX0_word) := goodIn_app (goodIn_of _ (by decide +kernel)) ggX7_readsWell_X0_word
set_option maxRecDepth 20000 in
theorem ggX7_readsWell_X7_takeContent : GoodIn wsX7_readsWell wsX7_takeContent := goodIn_r _ [31, 1, 19, 20, 21, 6, 22, 23, 24, 25, 11, 26, 27, 15, 16, 17, 13, 18, 14, 32, 33, 34, 35, 36, 37, 38, 39, 40, 41, 9, 10, 12, 42, 43, 44, 45, 46, 47, 48, 49, 50, 51, 52, 53, 54, 55, 68, 69, 70, 71, 72, 73, 74, 75, 76, 77, 78, 79, 80, 81, 82] (by decide +kernel) (by decide +kernel)
set_option maxRecDepth 20000 in
theorem gX7_readsWell_X7_takeContent : GoodIn wsX7_readsWell (wsV RX7 111 RX7 yX7_takeContent wsX7_takeContent) := goodIn_app (goodIn_of _ (by decide +kernel)) ggX7_readsWell_X7_takeContent
set_option maxRecDepth 20000 in
theorem ggX7_readsWell_X0_size : GoodIn wsX7_readsWell wsX0_size := goodIn_r _ [12, 13, 81, 82] (by decide +kernel) (by decide +kernel)
set_option maxRecDepth 20000 in
theorem gX7_readsWell_X0_size : GoodIn wsX7_readsWell (wsV RX7 70 RX0 yX0_size wsX0_size) := goodIn_app (goodIn_of _ (by decide +kernel)) ggX7_readsWell_X0_size
set_option maxRecDepth 20000 in
theorem ggX7_readsWell_X1_over : GoodIn wsX7_readsWell wsX1_over := goodIn_r _ [60, 61, 62, 63, 64, 59, 65, 66, 67, 15, 16, 11, 17, 13, 18, 83, 81, 82] (by decide +kernel) (by decide +kernel)
set_option maxRecDepth 20000 in
theorem gX7_readsWell_X1_over : GoodIn wsX7_readsWell (wsV RX7 83 RX1 yX1_over wsX1_over) := goodIn_app (goodIn_of _ (by decide +kernel)) ggX7_readsWell_X1_over
theorem dX7_readsWell_0 : decode cX7_readsWell 0 = .ok (.aload_n 0, 1) := by decide +kernel
theorem dX7_readsWell_1 : decode cX7_readsWell 1 = .ok (.aload_n 1, 1) := by decide +kernel
theorem dX7_readsWell_2 : decode cX7_readsWell 2 = .ok (.getfield 98, 3) := by decide +kernel
theorem dX7_readsWell_5 : decode cX7_readsWell 5 = .ok (.invokevirtual 104, 3) := by decide +kernel
theorem dX7_readsWell_8 : decode cX7_readsWell 8 = .ok (.ifCond .eq 92, 3) := by decide +kernel
theorem dX7_readsWell_11 : decode cX7_readsWell 11 = .ok (.aload_n 0, 1) := by decide +kernel
theorem dX7_readsWell_12 : decode cX7_readsWell 12 = .ok (.getfield 15, 3) := by decide +kernel
theorem dX7_readsWell_15 : decode cX7_readsWell 15 = .ok (.aload_n 1, 1) := by decide +kernel
theorem dX7_readsWell_16 : decode cX7_readsWell 16 = .ok (.getfield 98, 3) := by decide +kernel
theorem dX7_readsWell_19 : decode cX7_readsWell 19 = .ok (.iconst 2, 1) := by decide +kernel
theorem dX7_readsWell_20 : decode cX7_readsWell 20 = .ok (.iadd, 1) := by decide +kernel
theorem dX7_readsWell_21 : decode cX7_readsWell 21 = .ok (.invokevirtual 77, 3) := by decide +kernel
theorem dX7_readsWell_24 : decode cX7_readsWell 24 = .ok (.aload_n 1, 1) := by decide +kernel
theorem dX7_readsWell_25 : decode cX7_readsWell 25 = .ok (.getfield 95, 3) := by decide +kernel
theorem dX7_readsWell_28 : decode cX7_readsWell 28 = .ok (.if_icmp .ne 72, 3) := by decide +kernel
theorem dX7_readsWell_31 : decode cX7_readsWell 31 = .ok (.aload_n 0, 1) := by decide +kernel
theorem dX7_readsWell_32 : decode cX7_readsWell 32 = .ok (.aload_n 1, 1) := by decide +kernel
theorem dX7_readsWell_33 : decode cX7_readsWell 33 = .ok (.invokevirtual 111, 3) := by decide +kernel
theorem dX7_readsWell_36 : decode cX7_readsWell 36 = .ok (.ifCond .eq 64, 3) := by decide +kernel
theorem dX7_readsWell_39 : decode cX7_readsWell 39 = .ok (.aload_n 1, 1) := by decide +kernel
theorem dX7_readsWell_40 : decode cX7_readsWell 40 = .ok (.getfield 101, 3) := by decide +kernel
theorem dX7_readsWell_43 : decode cX7_readsWell 43 = .ok (.ifCond .lt 17, 3) := by decide +kernel
theorem dX7_readsWell_46 : decode cX7_readsWell 46 = .ok (.aload_n 1, 1) := by decide +kernel
theorem dX7_readsWell_47 : decode cX7_readsWell 47 = .ok (.getfield 114, 3) := by decide +kernel
theorem dX7_readsWell_50 : decode cX7_readsWell 50 = .ok (.invokevirtual 70, 3) := by decide +kernel
theorem dX7_readsWell_53 : decode cX7_readsWell 53 = .ok (.aload_n 1, 1) := by decide +kernel
theorem dX7_readsWell_54 : decode cX7_readsWell 54 = .ok (.getfield 101, 3) := by decide +kernel
theorem dX7_readsWell_57 : decode cX7_readsWell 57 = .ok (.if_icmp .ne 43, 3) := by decide +kernel
theorem dX7_readsWell_60 : decode cX7_readsWell 60 = .ok (.aload_n 0, 1) := by decide +kernel
theorem dX7_readsWell_61 : decode cX7_readsWell 61 = .ok (.getfield 27, 3) := by decide +kernel
theorem dX7_readsWell_64 : decode cX7_readsWell 64 = .ok (.aload_n 1, 1) := by decide +kernel
theorem dX7_readsWell_65 : decode cX7_readsWell 65 = .ok (.getfield 114, 3) := by decide +kernel
theorem dX7_readsWell_68 : decode cX7_readsWell 68 = .ok (.iconst 0, 1) := by decide +kernel
theorem dX7_readsWell_69 : decode cX7_readsWell 69 = .ok (.aload_n 1, 1) := by decide +kernel
theorem dX7_readsWell_70 : decode cX7_readsWell 70 = .ok (.getfield 114, 3) := by decide +kernel
theorem dX7_readsWell_73 : decode cX7_readsWell 73 = .ok (.invokevirtual 70, 3) := by decide +kernel
theorem dX7_readsWell_76 : decode cX7_readsWell 76 = .ok (.invokevirtual 83, 3) := by decide +kernel
theorem dX7_readsWell_79 : decode cX7_readsWell 79 = .ok (.aload_n 0, 1) := by decide +kernel
theorem dX7_readsWell_80 : decode cX7_readsWell 80 = .ok (.getfield 15, 3) := by decide +kernel
theorem dX7_readsWell_83 : decode cX7_readsWell 83 = .ok (.aload_n 1, 1) := by decide +kernel
theorem dX7_readsWell_84 : decode cX7_readsWell 84 = .ok (.getfield 98, 3) := by decide +kernel
theorem dX7_readsWell_87 : decode cX7_readsWell 87 = .ok (.bipush 6, 2) := by decide +kernel
theorem dX7_readsWell_89 : decode cX7_readsWell 89 = .ok (.iadd, 1) := by decide +kernel
theorem dX7_readsWell_90 : decode cX7_readsWell 90 = .ok (.invokevirtual 77, 3) := by decide +kernel
theorem dX7_readsWell_93 : decode cX7_readsWell 93 = .ok (.if_icmp .ne 7, 3) := by decide +kernel
theorem dX7_readsWell_96 : decode cX7_readsWell 96 = .ok (.iconst 1, 1) := by decide +kernel
theorem dX7_readsWell_97 : decode cX7_readsWell 97 = .ok (.goto 4, 3) := by decide +kernel
theorem dX7_readsWell_100 : decode cX7_readsWell 100 = .ok (.iconst 0, 1) := by decide +kernel
theorem dX7_readsWell_101 : decode cX7_readsWell 101 = .ok (.ireturn, 1) := by decide +kernel
set_option maxRecDepth 20000 in
theorem ggX7_takeContent_X7_endOfFile : GoodIn wsX7_takeContent wsX7_endOfFile := goodIn_r _ [6, 1, 7, 8, 9, 10, 11, 12, 13, 14, 15, 16, 17, 51, 52, 53, 54, 55, 56, 57, 58, 59, 60] (by decide +kernel) (by decide +kernel)
set_option maxRecDepth 20000 in
theorem gX7_takeContent_X7_endOfFile : GoodIn wsX7_takeContent (wsV RX7 108 RX7 yX7_endOfFile wsX7_endOfFile) := goodIn_app (goodIn_of _ (by decide +kernel)) ggX7_takeContent_X7_endOfFile
set_option maxRecDepth 20000 in
theorem ggX7_takeContent_X0_at : GoodIn wsX7_takeContent wsX0_at := goodIn_r _ [15, 16, 17, 59, 60] (by decide +kernel) (by decide +kernel)
set_option maxRecDepth 20000 in
theorem gX7_takeContent_X0_at : GoodIn wsX7_takeContent (wsV RX7 81 RX0 yX0_at wsX0_at) := goodIn_app (goodIn_of _ (by decide +kernel)) ggX7_takeContent_X0_at
set_option maxRecDepth 20000 in
theorem ggX7_takeContent_X6_unpack : GoodIn wsX7_takeContent wsX6_unpack := goodIn_r _ [22, 23, 24, 25, 10, 26, 16, 27, 13, 14, 15, 17, 28, 29, 30, 31, 32, 33, 34, 35, 36, 37, 38, 39, 40, 41, 42, 43, 12, 59, 60] (by decide +kernel) (by decide +kernel)
set_option maxRecDepth 20000 in
theorem gX7_takeContent_X6_unpack : GoodIn wsX7_takeContent (va_wsS RX7 117 yX6_unpack wsX6_unpack) := goodIn_app (goodIn_of _ (by decide +kernel)) ggX7_takeContent_X6_unpack
set_option maxRecDepth 20000 in
theorem ggX7_takeContent_X0_clear : GoodIn wsX7_takeContent wsX0_clear := goodIn_r _ [26, 16, 59, 60] (by decide +kernel) (by decide +kernel)
set_option maxRecDepth 20000 in
theorem gX7_takeContent_X0_clear : GoodIn wsX7_takeContent (wsV RX7 123 RX0 yX0_clear wsX0_clear) := goodIn_app (goodIn_of _ (by decide +kernel)) ggX7_takeContent_X0_clear
set_option maxRecDepth 20000 in
theorem ggX7_takeContent_X0_addPart : GoodIn wsX7_takeContent wsX0_addPart := goodIn_r _ [43, 12, 13, 14, 10, 15, 16, 17, 36, 37, 38, 39, 59, 60] (by decide +kernel) (by decide +kernel)
set_option maxRecDepth 20000 in
theorem gX7_takeContent_X0_addPart : GoodIn wsX7_takeContent (wsV RX7 126 RX0 yX0_addPart wsX0_addPart) := goodIn_app (goodIn_of _ (by decide +kernel)) ggX7_takeContent_X0_addPart
theorem dX7_takeContent_0 : decode cX7_takeContent 0 = .ok (.aload_n 1, 1) := by decide +kernel
theorem dX7_takeContent_1 : decode cX7_takeContent 1 = .ok (.getfield 98, 3) := by decide +kernel
theorem dX7_takeContent_4 : decode cX7_takeContent 4 = .ok (.bipush 8, 2) := by decide +kernel
theorem dX7_takeContent_6 : decode cX7_takeContent 6 = .ok (.iadd, 1) := by decide +kernel
theorem dX7_takeContent_7 : decode cX7_takeContent 7 = .ok (.istore_n 2, 1) := by decide +kernel
theorem dX7_takeContent_8 : decode cX7_takeContent 8 = .ok (.aload_n 0, 1) := by decide +kernel
theorem dX7_takeContent_9 : decode cX7_takeContent 9 = .ok (.aload_n 1, 1) := by decide +kernel
theorem dX7_takeContent_10 : decode cX7_takeContent 10 = .ok (.getfield 98, 3) := by decide +kernel
theorem dX7_takeContent_13 : decode cX7_takeContent 13 = .ok (.invokevirtual 108, 3) := by decide +kernel
theorem dX7_takeContent_16 : decode cX7_takeContent 16 = .ok (.istore_n 3, 1) := by decide +kernel
theorem dX7_takeContent_17 : decode cX7_takeContent 17 = .ok (.aload_n 0, 1) := by decide +kernel
theorem dX7_takeContent_18 : decode cX7_takeContent 18 = .ok (.getfield 15, 3) := by decide +kernel
theorem dX7_takeContent_21 : decode cX7_takeContent 21 = .ok (.aload_n 1, 1) := by decide +kernel
theorem dX7_takeContent_22 : decode cX7_takeContent 22 = .ok (.getfield 98, 3) := by decide +kernel
theorem dX7_takeContent_25 : decode cX7_takeContent 25 = .ok (.iconst 1, 1) := by decide +kernel
theorem dX7_takeContent_26 : decode cX7_takeContent 26 = .ok (.iadd, 1) := by decide +kernel
theorem dX7_takeContent_27 : decode cX7_takeContent 27 = .ok (.invokevirtual 81, 3) := by decide +kernel
theorem dX7_takeContent_30 : decode cX7_takeContent 30 = .ok (.iconst 1, 1) := by decide +kernel
theorem dX7_takeContent_31 : decode cX7_takeContent 31 = .ok (.if_icmp .ne 17, 3) := by decide +kernel
theorem dX7_takeContent_34 : decode cX7_takeContent 34 = .ok (.aload_n 0, 1) := by decide +kernel
theorem dX7_takeContent_35 : decode cX7_takeContent 35 = .ok (.getfield 15, 3) := by decide +kernel
theorem dX7_takeContent_38 : decode cX7_takeContent 38 = .ok (.iload_n 2, 1) := by decide +kernel
theorem dX7_takeContent_39 : decode cX7_takeContent 39 = .ok (.iload_n 3, 1) := by decide +kernel
theorem dX7_takeContent_40 : decode cX7_takeContent 40 = .ok (.aload_n 1, 1) := by decide +kernel
theorem dX7_takeContent_41 : decode cX7_takeContent 41 = .ok (.getfield 114, 3) := by decide +kernel
theorem dX7_takeContent_44 : decode cX7_takeContent 44 = .ok (.invokestatic 117, 3) := by decide +kernel
theorem dX7_takeContent_47 : decode cX7_takeContent 47 = .ok (.ireturn, 1) := by decide +kernel
theorem dX7_takeContent_48 : decode cX7_takeContent 48 = .ok (.iload_n 3, 1) := by decide +kernel
theorem dX7_takeContent_49 : decode cX7_takeContent 49 = .ok (.iload_n 2, 1) := by decide +kernel
theorem dX7_takeContent_50 : decode cX7_takeContent 50 = .ok (.isub, 1) := by decide +kernel
theorem dX7_takeContent_51 : decode cX7_takeContent 51 = .ok (.sipush 240, 3) := by decide +kernel
theorem dX7_takeContent_54 : decode cX7_takeContent 54 = .ok (.if_icmp .le 5, 3) := by decide +kernel
theorem dX7_takeContent_57 : decode cX7_takeContent 57 = .ok (.iconst 0, 1) := by decide +kernel
theorem dX7_takeContent_58 : decode cX7_takeContent 58 = .ok (.ireturn, 1) := by decide +kernel
theorem dX7_takeContent_59 : decode cX7_takeContent 59 = .ok (.aload_n 1, 1) := by decide +kernel
theorem dX7_takeContent_60 : decode cX7_takeContent 60 = .ok (.getfield 114, 3) := by decide +kernel
theorem dX7_takeContent_63 : decode cX7_takeContent 63 = .ok (.invokevirtual 123, 3) := by decide +kernel
theorem dX7_takeContent_66 : decode cX7_takeContent 66 = .ok (.aload_n 1, 1) := by decide +kernel
theorem dX7_takeContent_67 : decode cX7_takeContent 67 = .ok (.getfield 114, 3) := by decide +kernel
theorem dX7_takeContent_70 : decode cX7_takeContent 70 = .ok (.aload_n 0, 1) := by decide +kernel
theorem dX7_takeContent_71 : decode cX7_takeContent 71 = .ok (.getfield 15, 3) := by decide +kernel
theorem dX7_takeContent_74 : decode cX7_takeContent 74 = .ok (.iload_n 2, 1) := by decide +kernel
theorem dX7_takeContent_75 : decode cX7_takeContent 75 = .ok (.iload_n 3, 1) := by decide +kernel
theorem dX7_takeContent_76 : decode cX7_takeContent 76 = .ok (.iload_n 2, 1) := by decide +kernel
theorem dX7_takeContent_77 : decode cX7_takeContent 77 = .ok (.isub, 1) := by decide +kernel
theorem dX7_takeContent_78 : decode cX7_takeContent 78 = .ok (.invokevirtual 126, 3) := by decide +kernel
theorem dX7_takeContent_81 : decode cX7_takeContent 81 = .ok (.iconst 1, 1) := by decide +kernel
theorem dX7_takeContent_82 : decode cX7_takeContent 82 = .ok (.ireturn, 1) := by decide +kernel
