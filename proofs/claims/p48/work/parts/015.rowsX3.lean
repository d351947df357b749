set_option maxRecDepth 20000 in
theorem ggX3_init_X0_init : GoodIn wsX3_init wsX0_init := goodIn_r _ [11, 12, 2, 3, 13, 14, 15, 16] (by decide +kernel) (by decide +kernel)
set_option maxRecDepth 20000 in
theorem gX3_init_X0_init : GoodIn wsX3_init (wsX0_init) := ggX3_init_X0_init
theorem dX3_init_0 : decode cX3_init 0 = .ok (.aload_n 0, 1) := by decide +kernel
theorem dX3_init_1 : decode cX3_init 1 = .ok (.invokespecial 3, 3) := by decide +kernel
theorem dX3_init_4 : decode cX3_init 4 = .ok (.aload_n 0, 1) := by decide +kernel
theorem dX3_init_5 : decode cX3_init 5 = .ok (.new 9, 3) := by decide +kernel
theorem dX3_init_8 : decode cX3_init 8 = .ok (.dup, 1) := by decide +kernel
theorem dX3_init_9 : decode cX3_init 9 = .ok (.sipush 240, 3) := by decide +kernel
theorem dX3_init_12 : decode cX3_init 12 = .ok (.invokespecial 11, 3) := by decide +kernel
theorem dX3_init_15 : decode cX3_init 15 = .ok (.putfield 14, 3) := by decide +kernel
theorem dX3_init_18 : decode cX3_init 18 = .ok (.aload_n 0, 1) := by decide +kernel
theorem dX3_init_19 : decode cX3_init 19 = .ok (.new 9, 3) := by decide +kernel
theorem dX3_init_22 : decode cX3_init 22 = .ok (.dup, 1) := by decide +kernel
theorem dX3_init_23 : decode cX3_init 23 = .ok (.sipush 242, 3) := by decide +kernel
theorem dX3_init_26 : decode cX3_init 26 = .ok (.invokespecial 11, 3) := by decide +kernel
theorem dX3_init_29 : decode cX3_init 29 = .ok (.putfield 20, 3) := by decide +kernel
theorem dX3_init_32 : decode cX3_init 32 = .ok (.return_, 1) := by decide +kernel
set_option maxRecDepth 20000 in
theorem ggX3_fill_X0_fillFrom : GoodIn wsX3_fill wsX0_fillFrom := goodIn_r _ [9, 10, 11, 12, 8, 13, 14, 15, 16, 17, 18, 19, 20, 21, 22, 23, 24, 25, 26, 27, 28, 29, 30, 31, 71, 72] (by decide +kernel) (by decide +kernel)
set_option maxRecDepth 20000 in
theorem gX3_fill_X0_fillFrom : GoodIn wsX3_fill (wsV RX3 27 RX0 yX0_fillFrom wsX0_fillFrom) := goodIn_app (goodIn_of _ (by decide +kernel)) ggX3_fill_X0_fillFrom
set_option maxRecDepth 20000 in
theorem ggX3_fill_X0_size : GoodIn wsX3_fill wsX0_size := goodIn_r _ [18, 14, 71, 72] (by decide +kernel) (by decide +kernel)
set_option maxRecDepth 20000 in
theorem gX3_fill_X0_size : GoodIn wsX3_fill (wsV RX3 31 RX0 yX0_size wsX0_size) := goodIn_app (goodIn_of _ (by decide +kernel)) ggX3_fill_X0_size
set_option maxRecDepth 20000 in
theorem ggX3_fill_X1_over : GoodIn wsX3_fill wsX1_over := goodIn_r _ [37, 38, 39, 40, 41, 36, 42, 43, 44, 24, 25, 8, 26, 14, 27, 73, 71, 72] (by decide +kernel) (by decide +kernel)
set_option maxRecDepth 20000 in
theorem gX3_fill_X1_over : GoodIn wsX3_fill (wsV RX3 35 RX1 yX1_over wsX1_over) := goodIn_app (goodIn_of _ (by decide +kernel)) ggX3_fill_X1_over
set_option maxRecDepth 20000 in
theorem ggX3_fill_X6_pack : GoodIn wsX3_fill wsX6_pack := goodIn_r _ [48, 49, 11, 12, 8, 13, 14, 50, 16, 17, 18, 51, 52, 47, 53, 54, 24, 25, 26, 27, 55, 56, 57, 58, 59, 60, 61, 62, 29, 30, 31, 63, 64, 65, 66, 20, 21, 22, 23, 28, 71, 72] (by decide +kernel) (by decide +kernel)
set_option maxRecDepth 20000 in
theorem gX3_fill_X6_pack : GoodIn wsX3_fill (va_wsS RX3 44 yX6_pack wsX6_pack) := goodIn_app (goodIn_of _ (by decide +kernel)) ggX3_fill_X6_pack
theorem dX3_fill_0 : decode cX3_fill 0 = .ok (.aload_n 0, 1) := by decide +kernel
theorem dX3_fill_1 : decode cX3_fill 1 = .ok (.iload_n 1, 1) := by decide +kernel
theorem dX3_fill_2 : decode cX3_fill 2 = .ok (.putfield 23, 3) := by decide +kernel
theorem dX3_fill_5 : decode cX3_fill 5 = .ok (.aload_n 0, 1) := by decide +kernel
theorem dX3_fill_6 : decode cX3_fill 6 = .ok (.getfield 14, 3) := by decide +kernel
theorem dX3_fill_9 : decode cX3_fill 9 = .ok (.aload_n 2, 1) := by decide +kernel
theorem dX3_fill_10 : decode cX3_fill 10 = .ok (.invokevirtual 27, 3) := by decide +kernel
theorem dX3_fill_13 : decode cX3_fill 13 = .ok (.aload_n 0, 1) := by decide +kernel
theorem dX3_fill_14 : decode cX3_fill 14 = .ok (.aload_n 3, 1) := by decide +kernel
theorem dX3_fill_15 : decode cX3_fill 15 = .ok (.aload_n 0, 1) := by decide +kernel
theorem dX3_fill_16 : decode cX3_fill 16 = .ok (.getfield 14, 3) := by decide +kernel
theorem dX3_fill_19 : decode cX3_fill 19 = .ok (.iconst 0, 1) := by decide +kernel
theorem dX3_fill_20 : decode cX3_fill 20 = .ok (.aload_n 0, 1) := by decide +kernel
theorem dX3_fill_21 : decode cX3_fill 21 = .ok (.getfield 14, 3) := by decide +kernel
theorem dX3_fill_24 : decode cX3_fill 24 = .ok (.invokevirtual 31, 3) := by decide +kernel
theorem dX3_fill_27 : decode cX3_fill 27 = .ok (.invokevirtual 35, 3) := by decide +kernel
theorem dX3_fill_30 : decode cX3_fill 30 = .ok (.putfield 41, 3) := by decide +kernel
theorem dX3_fill_33 : decode cX3_fill 33 = .ok (.aload_n 0, 1) := by decide +kernel
theorem dX3_fill_34 : decode cX3_fill 34 = .ok (.getfield 14, 3) := by decide +kernel
theorem dX3_fill_37 : decode cX3_fill 37 = .ok (.aload_n 0, 1) := by decide +kernel
theorem dX3_fill_38 : decode cX3_fill 38 = .ok (.getfield 20, 3) := by decide +kernel
theorem dX3_fill_41 : decode cX3_fill 41 = .ok (.invokestatic 44, 3) := by decide +kernel
theorem dX3_fill_44 : decode cX3_fill 44 = .ok (.return_, 1) := by decide +kernel
set_option maxRecDepth 20000 in
theorem ggX3_goesPacked_X0_size : GoodIn wsX3_goesPacked wsX0_size := goodIn_r _ [7, 8, 13, 14] (by decide +kernel) (by decide +kernel)
set_option maxRecDepth 20000 in
theorem gX3_goesPacked_X0_size : GoodIn wsX3_goesPacked (wsV RX3 31 RX0 yX0_size wsX0_size) := goodIn_app (goodIn_of _ (by decide +kernel)) ggX3_goesPacked_X0_size
theorem dX3_goesPacked_0 : decode cX3_goesPacked 0 = .ok (.aload_n 0, 1) := by decide +kernel
theorem dX3_goesPacked_1 : decode cX3_goesPacked 1 = .ok (.getfield 20, 3) := by decide +kernel
theorem dX3_goesPacked_4 : decode cX3_goesPacked 4 = .ok (.invokevirtual 31, 3) := by decide +kernel
theorem dX3_goesPacked_7 : decode cX3_goesPacked 7 = .ok (.aload_n 0, 1) := by decide +kernel
theorem dX3_goesPacked_8 : decode cX3_goesPacked 8 = .ok (.getfield 14, 3) := by decide +kernel
theorem dX3_goesPacked_11 : decode cX3_goesPacked 11 = .ok (.invokevirtual 31, 3) := by decide +kernel
theorem dX3_goesPacked_14 : decode cX3_goesPacked 14 = .ok (.if_icmp .ge 7, 3) := by decide +kernel
theorem dX3_goesPacked_17 : decode cX3_goesPacked 17 = .ok (.iconst 1, 1) := by decide +kernel
theorem dX3_goesPacked_18 : decode cX3_goesPacked 18 = .ok (.goto 4, 3) := by decide +kernel
theorem dX3_goesPacked_21 : decode cX3_goesPacked 21 = .ok (.iconst 0, 1) := by decide +kernel
theorem dX3_goesPacked_22 : decode cX3_goesPacked 22 = .ok (.ireturn, 1) := by decide +kernel
set_option maxRecDepth 20000 in
theorem ggX3_streamSize_X3_goesPacked : GoodIn wsX3_streamSize wsX3_goesPacked := goodIn_r _ [7, 1, 2, 8, 9, 10, 11, 12, 13, 14, 15, 16, 17, 18, 19] (by decide +kernel) (by decide +kernel)
set_option maxRecDepth 20000 in
theorem gX3_streamSize_X3_goesPacked : GoodIn wsX3_streamSize (wsV RX3 50 RX3 yX3_goesPacked wsX3_goesPacked) := goodIn_app (goodIn_of _ (by decide +kernel)) ggX3_streamSize_X3_goesPacked
set_option maxRecDepth 20000 in
theorem ggX3_streamSize_X0_size : GoodIn wsX3_streamSize wsX0_size := goodIn_r _ [12, 13, 18, 19] (by decide +kernel) (by decide +kernel)
set_option maxRecDepth 20000 in
theorem gX3_streamSize_X0_size : GoodIn wsX3_streamSize (wsV RX3 31 RX0 yX0_size wsX0_size) := goodIn_app (goodIn_of _ (by decide +kernel)) ggX3_streamSize_X0_size
theorem dX3_streamSize_0 : decode cX3_streamSize 0 = .ok (.bipush 8, 2) := by decide +kernel
theorem dX3_streamSize_2 : decode cX3_streamSize 2 = .ok (.aload_n 0, 1) := by decide +kernel
theorem dX3_streamSize_3 : decode cX3_streamSize 3 = .ok (.invokevirtual 50, 3) := by decide +kernel
theorem dX3_streamSize_6 : decode cX3_streamSize 6 = .ok (.ifCond .eq 13, 3) := by decide +kernel
theorem dX3_streamSize_9 : decode cX3_streamSize 9 = .ok (.aload_n 0, 1) := by decide +kernel
theorem dX3_streamSize_10 : decode cX3_streamSize 10 = .ok (.getfield 20, 3) := by decide +kernel
theorem dX3_streamSize_13 : decode cX3_streamSize 13 = .ok (.invokevirtual 31, 3) := by decide +kernel
theorem dX3_streamSize_16 : decode cX3_streamSize 16 = .ok (.goto 10, 3) := by decide +kernel
theorem dX3_streamSize_19 : decode cX3_streamSize 19 = .ok (.aload_n 0, 1) := by decide +kernel
theorem dX3_streamSize_20 : decode cX3_streamSize 20 = .ok (.getfield 14, 3) := by decide +kernel
theorem dX3_streamSize_23 : decode cX3_streamSize 23 = .ok (.invokevirtual 31, 3) := by decide +kernel
theorem dX3_streamSize_26 : decode cX3_streamSize 26 = .ok (.iadd, 1) := by decide +kernel
theorem dX3_streamSize_27 : decode cX3_streamSize 27 = .ok (.ireturn, 1) := by decide +kernel
set_option maxRecDepth 20000 in
theorem ggX3_writeTo_X3_goesPacked : GoodIn wsX3_writeTo wsX3_goesPacked := goodIn_r _ [9, 1, 2, 10, 11, 12, 13, 14, 15, 34, 35, 36, 37, 38, 39] (by decide +kernel) (by decide +kernel)
set_option maxRecDepth 20000 in
theorem gX3_writeTo_X3_goesPacked : GoodIn wsX3_writeTo (wsV RX3 50 RX3 yX3_goesPacked wsX3_goesPacked) := goodIn_app (goodIn_of _ (by decide +kernel)) ggX3_writeTo_X3_goesPacked
set_option maxRecDepth 20000 in
theorem ggX3_writeTo_X0_add : GoodIn wsX3_writeTo wsX0_add := goodIn_r _ [19, 15, 20, 38, 39] (by decide +kernel) (by decide +kernel)
set_option maxRecDepth 20000 in
theorem gX3_writeTo_X0_add : GoodIn wsX3_writeTo (wsV RX3 54 RX0 yX0_add wsX0_add) := goodIn_app (goodIn_of _ (by decide +kernel)) ggX3_writeTo_X0_add
set_option maxRecDepth 20000 in
theorem ggX3_writeTo_X0_addWord : GoodIn wsX3_writeTo wsX0_addWord := goodIn_r _ [24, 25, 17, 18, 13, 19, 15, 20, 38, 39] (by decide +kernel) (by decide +kernel)
set_option maxRecDepth 20000 in
theorem gX3_writeTo_X0_addWord : GoodIn wsX3_writeTo (wsV RX3 57 RX0 yX0_addWord wsX0_addWord) := goodIn_app (goodIn_of _ (by decide +kernel)) ggX3_writeTo_X0_addWord
set_option maxRecDepth 20000 in
theorem ggX3_writeTo_X0_size : GoodIn wsX3_writeTo wsX0_size := goodIn_r _ [14, 15, 38, 39] (by decide +kernel) (by decide +kernel)
set_option maxRecDepth 20000 in
theorem gX3_writeTo_X0_size : GoodIn wsX3_writeTo (wsV RX3 31 RX0 yX0_size wsX0_size) := goodIn_app (goodIn_of _ (by decide +kernel)) ggX3_writeTo_X0_size
set_option maxRecDepth 20000 in
theorem ggX3_writeTo_X0_addPart : GoodIn wsX3_writeTo wsX0_addPart := goodIn_r _ [29, 30, 31, 32, 13, 33, 15, 20, 25, 17, 18, 19, 38, 39] (by decide +kernel) (by decide +kernel)
set_option maxRecDepth 20000 in
theorem gX3_writeTo_X0_addPart : GoodIn wsX3_writeTo (wsV RX3 60 RX0 yX0_addPart wsX0_addPart) := goodIn_app (goodIn_of _ (by decide +kernel)) ggX3_writeTo_X0_addPart
theorem dX3_writeTo_0 : decode cX3_writeTo 0 = .ok (.aload_n 0, 1) := by decide +kernel
theorem dX3_writeTo_1 : decode cX3_writeTo 1 = .ok (.invokevirtual 50, 3) := by decide +kernel
theorem dX3_writeTo_4 : decode cX3_writeTo 4 = .ok (.ifCond .eq 10, 3) := by decide +kernel
theorem dX3_writeTo_7 : decode cX3_writeTo 7 = .ok (.aload_n 0, 1) := by decide +kernel
theorem dX3_writeTo_8 : decode cX3_writeTo 8 = .ok (.getfield 20, 3) := by decide +kernel
theorem dX3_writeTo_11 : decode cX3_writeTo 11 = .ok (.goto 7, 3) := by decide +kernel
theorem dX3_writeTo_14 : decode cX3_writeTo 14 = .ok (.aload_n 0, 1) := by decide +kernel
theorem dX3_writeTo_15 : decode cX3_writeTo 15 = .ok (.getfield 14, 3) := by decide +kernel
theorem dX3_writeTo_18 : decode cX3_writeTo 18 = .ok (.astore_n 2, 1) := by decide +kernel
theorem dX3_writeTo_19 : decode cX3_writeTo 19 = .ok (.aload_n 1, 1) := by decide +kernel
theorem dX3_writeTo_20 : decode cX3_writeTo 20 = .ok (.bipush 69, 2) := by decide +kernel
theorem dX3_writeTo_22 : decode cX3_writeTo 22 = .ok (.invokevirtual 54, 3) := by decide +kernel
theorem dX3_writeTo_25 : decode cX3_writeTo 25 = .ok (.aload_n 1, 1) := by decide +kernel
theorem dX3_writeTo_26 : decode cX3_writeTo 26 = .ok (.aload_n 0, 1) := by decide +kernel
theorem dX3_writeTo_27 : decode cX3_writeTo 27 = .ok (.invokevirtual 50, 3) := by decide +kernel
theorem dX3_writeTo_30 : decode cX3_writeTo 30 = .ok (.ifCond .eq 7, 3) := by decide +kernel
theorem dX3_writeTo_33 : decode cX3_writeTo 33 = .ok (.iconst 1, 1) := by decide +kernel
theorem dX3_writeTo_34 : decode cX3_writeTo 34 = .ok (.goto 4, 3) := by decide +kernel
theorem dX3_writeTo_37 : decode cX3_writeTo 37 = .ok (.iconst 0, 1) := by decide +kernel
theorem dX3_writeTo_38 : decode cX3_writeTo 38 = .ok (.invokevirtual 54, 3) := by decide +kernel
theorem dX3_writeTo_41 : decode cX3_writeTo 41 = .ok (.aload_n 1, 1) := by decide +kernel
theorem dX3_writeTo_42 : decode cX3_writeTo 42 = .ok (.aload_n 0, 1) := by decide +kernel
theorem dX3_writeTo_43 : decode cX3_writeTo 43 = .ok (.getfield 23, 3) := by decide +kernel
theorem dX3_writeTo_46 : decode cX3_writeTo 46 = .ok (.invokevirtual 57, 3) := by decide +kernel
theorem dX3_writeTo_49 : decode cX3_writeTo 49 = .ok (.aload_n 1, 1) := by decide +kernel
theorem dX3_writeTo_50 : decode cX3_writeTo 50 = .ok (.aload_n 2, 1) := by decide +kernel
theorem dX3_writeTo_51 : decode cX3_writeTo 51 = .ok (.invokevirtual 31, 3) := by decide +kernel
theorem dX3_writeTo_54 : decode cX3_writeTo 54 = .ok (.invokevirtual 57, 3) := by decide +kernel
theorem dX3_writeTo_57 : decode cX3_writeTo 57 = .ok (.aload_n 1, 1) := by decide +kernel
theorem dX3_writeTo_58 : decode cX3_writeTo 58 = .ok (.aload_n 0, 1) := by decide +kernel
theorem dX3_writeTo_59 : decode cX3_writeTo 59 = .ok (.getfield 41, 3) := by decide +kernel
theorem dX3_writeTo_62 : decode cX3_writeTo 62 = .ok (.invokevirtual 57, 3) := by decide +kernel
theorem dX3_writeTo_65 : decode cX3_writeTo 65 = .ok (.aload_n 1, 1) := by decide +kernel
theorem dX3_writeTo_66 : decode cX3_writeTo 66 = .ok (.aload_n 2, 1) := by decide +kernel
theorem dX3_writeTo_67 : decode cX3_writeTo 67 = .ok (.iconst 0, 1) := by decide +kernel
theorem dX3_writeTo_68 : decode cX3_writeTo 68 = .ok (.aload_n 2, 1) := by decide +kernel
theorem dX3_writeTo_69 : decode cX3_writeTo 69 = .ok (.invokevirtual 31, 3) := by decide +kernel
theorem dX3_writeTo_72 : decode cX3_writeTo 72 = .ok (.invokevirtual 60, 3) := by decide +kernel
theorem dX3_writeTo_75 : decode cX3_writeTo 75 = .ok (.return_, 1) := by decide +kernel
