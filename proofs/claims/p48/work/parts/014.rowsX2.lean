set_option maxRecDepth 20000 in
theorem ggX2_init_X0_init : GoodIn wsX2_init wsX0_init := goodIn_r _ [16, 17, 2, 3, 18, 19, 27, 28] (by decide +kernel) (by decide +kernel)
set_option maxRecDepth 20000 in
theorem gX2_init_X0_init : GoodIn wsX2_init (wsX0_init) := ggX2_init_X0_init
set_option maxRecDepth 20000 in
theorem ggX2_init_X3_init : GoodIn wsX2_init wsX3_init := goodIn_r _ [21, 22, 2, 3, 23, 5, 6, 24, 25, 26, 15, 16, 17, 18, 19, 27, 28, 34, 35, 36, 37] (by decide +kernel) (by decide +kernel)
set_option maxRecDepth 20000 in
theorem gX2_init_X3_init_n33 : GoodIn wsX2_init (wsX3_init) := ggX2_init_X3_init
theorem dX2_init_0 : decode cX2_init 0 = .ok (.aload_n 0, 1) := by decide +kernel
theorem dX2_init_1 : decode cX2_init 1 = .ok (.invokespecial 3, 3) := by decide +kernel
theorem dX2_init_4 : decode cX2_init 4 = .ok (.aload_n 0, 1) := by decide +kernel
theorem dX2_init_5 : decode cX2_init 5 = .ok (.new 9, 3) := by decide +kernel
theorem dX2_init_8 : decode cX2_init 8 = .ok (.dup, 1) := by decide +kernel
theorem dX2_init_9 : decode cX2_init 9 = .ok (.sipush 240, 3) := by decide +kernel
theorem dX2_init_12 : decode cX2_init 12 = .ok (.invokespecial 11, 3) := by decide +kernel
theorem dX2_init_15 : decode cX2_init 15 = .ok (.putfield 14, 3) := by decide +kernel
theorem dX2_init_18 : decode cX2_init 18 = .ok (.aload_n 0, 1) := by decide +kernel
theorem dX2_init_19 : decode cX2_init 19 = .ok (.new 9, 3) := by decide +kernel
theorem dX2_init_22 : decode cX2_init 22 = .ok (.dup, 1) := by decide +kernel
theorem dX2_init_23 : decode cX2_init 23 = .ok (.sipush 4070, 3) := by decide +kernel
theorem dX2_init_26 : decode cX2_init 26 = .ok (.invokespecial 11, 3) := by decide +kernel
theorem dX2_init_29 : decode cX2_init 29 = .ok (.putfield 20, 3) := by decide +kernel
theorem dX2_init_32 : decode cX2_init 32 = .ok (.aload_n 0, 1) := by decide +kernel
theorem dX2_init_33 : decode cX2_init 33 = .ok (.bipush 16, 2) := by decide +kernel
theorem dX2_init_35 : decode cX2_init 35 = .ok (.anewarray 23, 3) := by decide +kernel
theorem dX2_init_38 : decode cX2_init 38 = .ok (.putfield 25, 3) := by decide +kernel
theorem dX2_init_41 : decode cX2_init 41 = .ok (.aload_n 0, 1) := by decide +kernel
theorem dX2_init_42 : decode cX2_init 42 = .ok (.aload_n 1, 1) := by decide +kernel
theorem dX2_init_43 : decode cX2_init 43 = .ok (.putfield 29, 3) := by decide +kernel
theorem dX2_init_46 : decode cX2_init 46 = .ok (.iconst 0, 1) := by decide +kernel
theorem dX2_init_47 : decode cX2_init 47 = .ok (.istore_n 2, 1) := by decide +kernel
theorem dX2_init_48 : decode cX2_init 48 = .ok (.iload_n 2, 1) := by decide +kernel
theorem dX2_init_49 : decode cX2_init 49 = .ok (.aload_n 0, 1) := by decide +kernel
theorem dX2_init_50 : decode cX2_init 50 = .ok (.getfield 25, 3) := by decide +kernel
theorem dX2_init_53 : decode cX2_init 53 = .ok (.arraylength, 1) := by decide +kernel
theorem dX2_init_54 : decode cX2_init 54 = .ok (.if_icmp .ge 22, 3) := by decide +kernel
theorem dX2_init_57 : decode cX2_init 57 = .ok (.aload_n 0, 1) := by decide +kernel
theorem dX2_init_58 : decode cX2_init 58 = .ok (.getfield 25, 3) := by decide +kernel
theorem dX2_init_61 : decode cX2_init 61 = .ok (.iload_n 2, 1) := by decide +kernel
theorem dX2_init_62 : decode cX2_init 62 = .ok (.new 23, 3) := by decide +kernel
theorem dX2_init_65 : decode cX2_init 65 = .ok (.dup, 1) := by decide +kernel
theorem dX2_init_66 : decode cX2_init 66 = .ok (.invokespecial 33, 3) := by decide +kernel
theorem dX2_init_69 : decode cX2_init 69 = .ok (.aastore, 1) := by decide +kernel
theorem dX2_init_70 : decode cX2_init 70 = .ok (.iinc 2 1, 3) := by decide +kernel
theorem dX2_init_73 : decode cX2_init 73 = .ok (.goto (-25), 3) := by decide +kernel
theorem dX2_init_76 : decode cX2_init 76 = .ok (.return_, 1) := by decide +kernel
theorem dX2_count_0 : decode cX2_count 0 = .ok (.aload_n 0, 1) := by decide +kernel
theorem dX2_count_1 : decode cX2_count 1 = .ok (.getfield 34, 3) := by decide +kernel
theorem dX2_count_4 : decode cX2_count 4 = .ok (.ireturn, 1) := by decide +kernel
theorem dX2_at_0 : decode cX2_at 0 = .ok (.iload_n 1, 1) := by decide +kernel
theorem dX2_at_1 : decode cX2_at 1 = .ok (.ifCond .lt 29, 3) := by decide +kernel
theorem dX2_at_4 : decode cX2_at 4 = .ok (.iload_n 1, 1) := by decide +kernel
theorem dX2_at_5 : decode cX2_at 5 = .ok (.aload_n 0, 1) := by decide +kernel
theorem dX2_at_6 : decode cX2_at 6 = .ok (.getfield 34, 3) := by decide +kernel
theorem dX2_at_9 : decode cX2_at 9 = .ok (.if_icmp .ge 21, 3) := by decide +kernel
theorem dX2_at_12 : decode cX2_at 12 = .ok (.iload_n 1, 1) := by decide +kernel
theorem dX2_at_13 : decode cX2_at 13 = .ok (.aload_n 0, 1) := by decide +kernel
theorem dX2_at_14 : decode cX2_at 14 = .ok (.getfield 25, 3) := by decide +kernel
theorem dX2_at_17 : decode cX2_at 17 = .ok (.arraylength, 1) := by decide +kernel
theorem dX2_at_18 : decode cX2_at 18 = .ok (.if_icmp .ge 12, 3) := by decide +kernel
theorem dX2_at_21 : decode cX2_at 21 = .ok (.aload_n 0, 1) := by decide +kernel
theorem dX2_at_22 : decode cX2_at 22 = .ok (.getfield 25, 3) := by decide +kernel
theorem dX2_at_25 : decode cX2_at 25 = .ok (.iload_n 1, 1) := by decide +kernel
theorem dX2_at_26 : decode cX2_at 26 = .ok (.aaload, 1) := by decide +kernel
theorem dX2_at_27 : decode cX2_at 27 = .ok (.goto 4, 3) := by decide +kernel
theorem dX2_at_30 : decode cX2_at 30 = .ok (.aconst_null, 1) := by decide +kernel
theorem dX2_at_31 : decode cX2_at 31 = .ok (.areturn, 1) := by decide +kernel
set_option maxRecDepth 20000 in
theorem ggX2_hasRoomFor_X2_placeOf : GoodIn wsX2_hasRoomFor wsX2_placeOf := goodIn_r _ [7, 8, 9, 10, 6, 11, 1, 12, 13, 14, 15, 2, 21, 22, 23, 24, 16, 17, 18, 19, 20] (by decide +kernel) (by decide +kernel)
set_option maxRecDepth 20000 in
theorem gX2_hasRoomFor_X2_placeOf : GoodIn wsX2_hasRoomFor (wsV RX2 38 RX2 yX2_placeOf wsX2_placeOf) := goodIn_app (goodIn_of _ (by decide +kernel)) ggX2_hasRoomFor_X2_placeOf
theorem dX2_hasRoomFor_0 : decode cX2_hasRoomFor 0 = .ok (.aload_n 0, 1) := by decide +kernel
theorem dX2_hasRoomFor_1 : decode cX2_hasRoomFor 1 = .ok (.getfield 34, 3) := by decide +kernel
theorem dX2_hasRoomFor_4 : decode cX2_hasRoomFor 4 = .ok (.aload_n 0, 1) := by decide +kernel
theorem dX2_hasRoomFor_5 : decode cX2_hasRoomFor 5 = .ok (.getfield 25, 3) := by decide +kernel
theorem dX2_hasRoomFor_8 : decode cX2_hasRoomFor 8 = .ok (.arraylength, 1) := by decide +kernel
theorem dX2_hasRoomFor_9 : decode cX2_hasRoomFor 9 = .ok (.if_icmp .lt 11, 3) := by decide +kernel
theorem dX2_hasRoomFor_12 : decode cX2_hasRoomFor 12 = .ok (.aload_n 0, 1) := by decide +kernel
theorem dX2_hasRoomFor_13 : decode cX2_hasRoomFor 13 = .ok (.iload_n 1, 1) := by decide +kernel
theorem dX2_hasRoomFor_14 : decode cX2_hasRoomFor 14 = .ok (.invokevirtual 38, 3) := by decide +kernel
theorem dX2_hasRoomFor_17 : decode cX2_hasRoomFor 17 = .ok (.ifCond .lt 7, 3) := by decide +kernel
theorem dX2_hasRoomFor_20 : decode cX2_hasRoomFor 20 = .ok (.iconst 1, 1) := by decide +kernel
theorem dX2_hasRoomFor_21 : decode cX2_hasRoomFor 21 = .ok (.goto 4, 3) := by decide +kernel
theorem dX2_hasRoomFor_24 : decode cX2_hasRoomFor 24 = .ok (.iconst 0, 1) := by decide +kernel
theorem dX2_hasRoomFor_25 : decode cX2_hasRoomFor 25 = .ok (.ireturn, 1) := by decide +kernel
set_option maxRecDepth 20000 in
theorem ggX2_placeOf_X2_placeFor : GoodIn wsX2_placeOf wsX2_placeFor := goodIn_r _ [5, 6, 7, 8, 9, 4, 10, 11, 16, 17, 18, 19, 20, 12, 13, 14, 15] (by decide +kernel) (by decide +kernel)
set_option maxRecDepth 20000 in
theorem gX2_placeOf_X2_placeFor : GoodIn wsX2_placeOf (wsV RX2 42 RX2 yX2_placeFor wsX2_placeFor) := goodIn_app (goodIn_of _ (by decide +kernel)) ggX2_placeOf_X2_placeFor
set_option maxRecDepth 20000 in
theorem ggX2_placeOf_X2_at : GoodIn wsX2_placeOf wsX2_at := goodIn_r _ [10, 6, 11, 16, 17, 18, 19, 20] (by decide +kernel) (by decide +kernel)
set_option maxRecDepth 20000 in
theorem gX2_placeOf_X2_at : GoodIn wsX2_placeOf (wsV RX2 45 RX2 yX2_at wsX2_at) := goodIn_app (goodIn_of _ (by decide +kernel)) ggX2_placeOf_X2_at
theorem dX2_placeOf_0 : decode cX2_placeOf 0 = .ok (.aload_n 0, 1) := by decide +kernel
theorem dX2_placeOf_1 : decode cX2_placeOf 1 = .ok (.iload_n 1, 1) := by decide +kernel
theorem dX2_placeOf_2 : decode cX2_placeOf 2 = .ok (.invokevirtual 42, 3) := by decide +kernel
theorem dX2_placeOf_5 : decode cX2_placeOf 5 = .ok (.istore_n 2, 1) := by decide +kernel
theorem dX2_placeOf_6 : decode cX2_placeOf 6 = .ok (.aload_n 0, 1) := by decide +kernel
theorem dX2_placeOf_7 : decode cX2_placeOf 7 = .ok (.iload_n 2, 1) := by decide +kernel
theorem dX2_placeOf_8 : decode cX2_placeOf 8 = .ok (.invokevirtual 45, 3) := by decide +kernel
theorem dX2_placeOf_11 : decode cX2_placeOf 11 = .ok (.astore_n 3, 1) := by decide +kernel
theorem dX2_placeOf_12 : decode cX2_placeOf 12 = .ok (.aload_n 3, 1) := by decide +kernel
theorem dX2_placeOf_13 : decode cX2_placeOf 13 = .ok (.ifnull 15, 3) := by decide +kernel
theorem dX2_placeOf_16 : decode cX2_placeOf 16 = .ok (.aload_n 3, 1) := by decide +kernel
theorem dX2_placeOf_17 : decode cX2_placeOf 17 = .ok (.getfield 49, 3) := by decide +kernel
theorem dX2_placeOf_20 : decode cX2_placeOf 20 = .ok (.iload_n 1, 1) := by decide +kernel
theorem dX2_placeOf_21 : decode cX2_placeOf 21 = .ok (.if_icmp .ne 7, 3) := by decide +kernel
theorem dX2_placeOf_24 : decode cX2_placeOf 24 = .ok (.iload_n 2, 1) := by decide +kernel
theorem dX2_placeOf_25 : decode cX2_placeOf 25 = .ok (.goto 4, 3) := by decide +kernel
theorem dX2_placeOf_28 : decode cX2_placeOf 28 = .ok (.iconst (-1), 1) := by decide +kernel
theorem dX2_placeOf_29 : decode cX2_placeOf 29 = .ok (.ireturn, 1) := by decide +kernel
set_option maxRecDepth 20000 in
theorem ggX2_placeFor_X2_at : GoodIn wsX2_placeFor wsX2_at := goodIn_r _ [6, 1, 7, 8, 9, 10, 11, 12] (by decide +kernel) (by decide +kernel)
set_option maxRecDepth 20000 in
theorem gX2_placeFor_X2_at : GoodIn wsX2_placeFor (wsV RX2 45 RX2 yX2_at wsX2_at) := goodIn_app (goodIn_of _ (by decide +kernel)) ggX2_placeFor_X2_at
theorem dX2_placeFor_0 : decode cX2_placeFor 0 = .ok (.iconst 0, 1) := by decide +kernel
theorem dX2_placeFor_1 : decode cX2_placeFor 1 = .ok (.istore_n 2, 1) := by decide +kernel
theorem dX2_placeFor_2 : decode cX2_placeFor 2 = .ok (.iload_n 2, 1) := by decide +kernel
theorem dX2_placeFor_3 : decode cX2_placeFor 3 = .ok (.aload_n 0, 1) := by decide +kernel
theorem dX2_placeFor_4 : decode cX2_placeFor 4 = .ok (.getfield 34, 3) := by decide +kernel
theorem dX2_placeFor_7 : decode cX2_placeFor 7 = .ok (.if_icmp .ge 29, 3) := by decide +kernel
theorem dX2_placeFor_10 : decode cX2_placeFor 10 = .ok (.aload_n 0, 1) := by decide +kernel
theorem dX2_placeFor_11 : decode cX2_placeFor 11 = .ok (.iload_n 2, 1) := by decide +kernel
theorem dX2_placeFor_12 : decode cX2_placeFor 12 = .ok (.invokevirtual 45, 3) := by decide +kernel
theorem dX2_placeFor_15 : decode cX2_placeFor 15 = .ok (.astore_n 3, 1) := by decide +kernel
theorem dX2_placeFor_16 : decode cX2_placeFor 16 = .ok (.aload_n 3, 1) := by decide +kernel
theorem dX2_placeFor_17 : decode cX2_placeFor 17 = .ok (.ifnull 11, 3) := by decide +kernel
theorem dX2_placeFor_20 : decode cX2_placeFor 20 = .ok (.aload_n 3, 1) := by decide +kernel
theorem dX2_placeFor_21 : decode cX2_placeFor 21 = .ok (.getfield 49, 3) := by decide +kernel
theorem dX2_placeFor_24 : decode cX2_placeFor 24 = .ok (.iload_n 1, 1) := by decide +kernel
theorem dX2_placeFor_25 : decode cX2_placeFor 25 = .ok (.if_icmp .lt 5, 3) := by decide +kernel
theorem dX2_placeFor_28 : decode cX2_placeFor 28 = .ok (.iload_n 2, 1) := by decide +kernel
theorem dX2_placeFor_29 : decode cX2_placeFor 29 = .ok (.ireturn, 1) := by decide +kernel
theorem dX2_placeFor_30 : decode cX2_placeFor 30 = .ok (.iinc 2 1, 3) := by decide +kernel
theorem dX2_placeFor_33 : decode cX2_placeFor 33 = .ok (.goto (-31), 3) := by decide +kernel
theorem dX2_placeFor_36 : decode cX2_placeFor 36 = .ok (.aload_n 0, 1) := by decide +kernel
theorem dX2_placeFor_37 : decode cX2_placeFor 37 = .ok (.getfield 34, 3) := by decide +kernel
theorem dX2_placeFor_40 : decode cX2_placeFor 40 = .ok (.ireturn, 1) := by decide +kernel
set_option maxRecDepth 20000 in
theorem ggX2_put_X2_hasRoomFor : GoodIn wsX2_put wsX2_hasRoomFor := goodIn_r _ [7, 1, 8, 9, 10, 11, 6, 12, 13, 14, 15, 16, 17, 18, 19, 20, 96, 97, 98, 99, 100, 101, 102, 103, 104] (by decide +kernel) (by decide +kernel)
set_option maxRecDepth 20000 in
theorem gX2_put_X2_hasRoomFor : GoodIn wsX2_put (wsV RX2 52 RX2 yX2_hasRoomFor wsX2_hasRoomFor) := goodIn_app (goodIn_of _ (by decide +kernel)) ggX2_put_X2_hasRoomFor
set_option maxRecDepth 20000 in
theorem ggX2_put_X2_placeFor : GoodIn wsX2_put wsX2_placeFor := goodIn_r _ [16, 1, 17, 18, 19, 6, 20, 8, 96, 97, 98, 99, 100, 101, 102, 103, 104] (by decide +kernel) (by decide +kernel)
set_option maxRecDepth 20000 in
theorem gX2_put_X2_placeFor : GoodIn wsX2_put (wsV RX2 42 RX2 yX2_placeFor wsX2_placeFor) := goodIn_app (goodIn_of _ (by decide +kernel)) ggX2_put_X2_placeFor
set_option maxRecDepth 20000 in
theorem ggX2_put_X2_placeOf : GoodIn wsX2_put wsX2_placeOf := goodIn_r _ [12, 13, 14, 15, 6, 16, 1, 17, 18, 19, 20, 8, 101, 102, 103, 104, 96, 97, 98, 99, 100] (by decide +kernel) (by decide +kernel)
set_option maxRecDepth 20000 in
theorem gX2_put_X2_placeOf : GoodIn wsX2_put (wsV RX2 38 RX2 yX2_placeOf wsX2_placeOf) := goodIn_app (goodIn_of _ (by decide +kernel)) ggX2_put_X2_placeOf
set_option maxRecDepth 20000 in
theorem ggX2_put_X2_swap : GoodIn wsX2_put wsX2_swap := goodIn_r _ [24, 8, 96, 97, 98, 99, 100] (by decide +kernel) (by decide +kernel)
set_option maxRecDepth 20000 in
theorem gX2_put_X2_swap : GoodIn wsX2_put (wsV RX2 56 RX2 yX2_swap wsX2_swap) := goodIn_app (goodIn_of _ (by decide +kernel)) ggX2_put_X2_swap
set_option maxRecDepth 20000 in
theorem ggX2_put_X2_at : GoodIn wsX2_put wsX2_at := goodIn_r _ [20, 1, 8, 96, 97, 98, 99, 100] (by decide +kernel) (by decide +kernel)
set_option maxRecDepth 20000 in
theorem gX2_put_X2_at : GoodIn wsX2_put (wsV RX2 45 RX2 yX2_at wsX2_at) := goodIn_app (goodIn_of _ (by decide +kernel)) ggX2_put_X2_at
set_option maxRecDepth 20000 in
theorem ggX2_put_X3_fill : GoodIn wsX2_put wsX3_fill := goodIn_r _ [29, 30, 31, 32, 33, 34, 35, 36, 37, 38, 39, 40, 41, 42, 43, 44, 45, 46, 47, 48, 49, 50, 51, 52, 53, 54, 55, 56, 57, 58, 59, 60, 61, 62, 63, 64, 65, 66, 67, 68, 69, 70, 71, 72, 73, 74, 75, 76, 77, 78, 79, 80, 81, 82, 83, 84, 85, 86, 87, 88, 89, 90, 91, 92, 93, 94, 95, 101, 102, 103, 104, 105, 106, 107] (by decide +kernel) (by decide +kernel)
set_option maxRecDepth 20000 in
theorem gX2_put_X3_fill : GoodIn wsX2_put (wsV RX2 60 RX3 yX3_fill wsX3_fill) := goodIn_app (goodIn_of _ (by decide +kernel)) ggX2_put_X3_fill
theorem dX2_put_0 : decode cX2_put 0 = .ok (.aload_n 0, 1) := by decide +kernel
theorem dX2_put_1 : decode cX2_put 1 = .ok (.iload_n 1, 1) := by decide +kernel
theorem dX2_put_2 : decode cX2_put 2 = .ok (.invokevirtual 52, 3) := by decide +kernel
theorem dX2_put_5 : decode cX2_put 5 = .ok (.ifCond .ne 4, 3) := by decide +kernel
theorem dX2_put_8 : decode cX2_put 8 = .ok (.return_, 1) := by decide +kernel
theorem dX2_put_9 : decode cX2_put 9 = .ok (.aload_n 0, 1) := by decide +kernel
theorem dX2_put_10 : decode cX2_put 10 = .ok (.iload_n 1, 1) := by decide +kernel
theorem dX2_put_11 : decode cX2_put 11 = .ok (.invokevirtual 42, 3) := by decide +kernel
theorem dX2_put_14 : decode cX2_put 14 = .ok (.istore_n 3, 1) := by decide +kernel
theorem dX2_put_15 : decode cX2_put 15 = .ok (.aload_n 0, 1) := by decide +kernel
theorem dX2_put_16 : decode cX2_put 16 = .ok (.iload_n 1, 1) := by decide +kernel
theorem dX2_put_17 : decode cX2_put 17 = .ok (.invokevirtual 38, 3) := by decide +kernel
theorem dX2_put_20 : decode cX2_put 20 = .ok (.ifCond .ge 41, 3) := by decide +kernel
theorem dX2_put_23 : decode cX2_put 23 = .ok (.aload_n 0, 1) := by decide +kernel
theorem dX2_put_24 : decode cX2_put 24 = .ok (.getfield 34, 3) := by decide +kernel
theorem dX2_put_27 : decode cX2_put 27 = .ok (.istore 4, 2) := by decide +kernel
theorem dX2_put_29 : decode cX2_put 29 = .ok (.iload 4, 2) := by decide +kernel
theorem dX2_put_31 : decode cX2_put 31 = .ok (.iload_n 3, 1) := by decide +kernel
theorem dX2_put_32 : decode cX2_put 32 = .ok (.if_icmp .le 19, 3) := by decide +kernel
theorem dX2_put_35 : decode cX2_put 35 = .ok (.aload_n 0, 1) := by decide +kernel
theorem dX2_put_36 : decode cX2_put 36 = .ok (.iload 4, 2) := by decide +kernel
theorem dX2_put_38 : decode cX2_put 38 = .ok (.iconst 1, 1) := by decide +kernel
theorem dX2_put_39 : decode cX2_put 39 = .ok (.isub, 1) := by decide +kernel
theorem dX2_put_40 : decode cX2_put 40 = .ok (.iload 4, 2) := by decide +kernel
theorem dX2_put_42 : decode cX2_put 42 = .ok (.invokevirtual 56, 3) := by decide +kernel
theorem dX2_put_45 : decode cX2_put 45 = .ok (.iinc 4 (-1), 3) := by decide +kernel
theorem dX2_put_48 : decode cX2_put 48 = .ok (.goto (-19), 3) := by decide +kernel
theorem dX2_put_51 : decode cX2_put 51 = .ok (.aload_n 0, 1) := by decide +kernel
theorem dX2_put_52 : decode cX2_put 52 = .ok (.dup, 1) := by decide +kernel
theorem dX2_put_53 : decode cX2_put 53 = .ok (.getfield 34, 3) := by decide +kernel
theorem dX2_put_56 : decode cX2_put 56 = .ok (.iconst 1, 1) := by decide +kernel
theorem dX2_put_57 : decode cX2_put 57 = .ok (.iadd, 1) := by decide +kernel
theorem dX2_put_58 : decode cX2_put 58 = .ok (.putfield 34, 3) := by decide +kernel
theorem dX2_put_61 : decode cX2_put 61 = .ok (.aload_n 0, 1) := by decide +kernel
theorem dX2_put_62 : decode cX2_put 62 = .ok (.iload_n 3, 1) := by decide +kernel
theorem dX2_put_63 : decode cX2_put 63 = .ok (.invokevirtual 45, 3) := by decide +kernel
theorem dX2_put_66 : decode cX2_put 66 = .ok (.astore 4, 2) := by decide +kernel
theorem dX2_put_68 : decode cX2_put 68 = .ok (.aload 4, 2) := by decide +kernel
theorem dX2_put_70 : decode cX2_put 70 = .ok (.ifnull 14, 3) := by decide +kernel
theorem dX2_put_73 : decode cX2_put 73 = .ok (.aload 4, 2) := by decide +kernel
theorem dX2_put_75 : decode cX2_put 75 = .ok (.iload_n 1, 1) := by decide +kernel
theorem dX2_put_76 : decode cX2_put 76 = .ok (.aload_n 2, 1) := by decide +kernel
theorem dX2_put_77 : decode cX2_put 77 = .ok (.aload_n 0, 1) := by decide +kernel
theorem dX2_put_78 : decode cX2_put 78 = .ok (.getfield 29, 3) := by decide +kernel
theorem dX2_put_81 : decode cX2_put 81 = .ok (.invokevirtual 60, 3) := by decide +kernel
theorem dX2_put_84 : decode cX2_put 84 = .ok (.return_, 1) := by decide +kernel
theorem dX2_swap_0 : decode cX2_swap 0 = .ok (.iload_n 1, 1) := by decide +kernel
theorem dX2_swap_1 : decode cX2_swap 1 = .ok (.ifCond .lt 51, 3) := by decide +kernel
theorem dX2_swap_4 : decode cX2_swap 4 = .ok (.iload_n 1, 1) := by decide +kernel
theorem dX2_swap_5 : decode cX2_swap 5 = .ok (.aload_n 0, 1) := by decide +kernel
theorem dX2_swap_6 : decode cX2_swap 6 = .ok (.getfield 25, 3) := by decide +kernel
theorem dX2_swap_9 : decode cX2_swap 9 = .ok (.arraylength, 1) := by decide +kernel
theorem dX2_swap_10 : decode cX2_swap 10 = .ok (.if_icmp .ge 42, 3) := by decide +kernel
theorem dX2_swap_13 : decode cX2_swap 13 = .ok (.iload_n 2, 1) := by decide +kernel
theorem dX2_swap_14 : decode cX2_swap 14 = .ok (.ifCond .lt 38, 3) := by decide +kernel
theorem dX2_swap_17 : decode cX2_swap 17 = .ok (.iload_n 2, 1) := by decide +kernel
theorem dX2_swap_18 : decode cX2_swap 18 = .ok (.aload_n 0, 1) := by decide +kernel
theorem dX2_swap_19 : decode cX2_swap 19 = .ok (.getfield 25, 3) := by decide +kernel
theorem dX2_swap_22 : decode cX2_swap 22 = .ok (.arraylength, 1) := by decide +kernel
theorem dX2_swap_23 : decode cX2_swap 23 = .ok (.if_icmp .ge 29, 3) := by decide +kernel
theorem dX2_swap_26 : decode cX2_swap 26 = .ok (.aload_n 0, 1) := by decide +kernel
theorem dX2_swap_27 : decode cX2_swap 27 = .ok (.getfield 25, 3) := by decide +kernel
theorem dX2_swap_30 : decode cX2_swap 30 = .ok (.iload_n 1, 1) := by decide +kernel
theorem dX2_swap_31 : decode cX2_swap 31 = .ok (.aaload, 1) := by decide +kernel
theorem dX2_swap_32 : decode cX2_swap 32 = .ok (.astore_n 3, 1) := by decide +kernel
theorem dX2_swap_33 : decode cX2_swap 33 = .ok (.aload_n 0, 1) := by decide +kernel
theorem dX2_swap_34 : decode cX2_swap 34 = .ok (.getfield 25, 3) := by decide +kernel
theorem dX2_swap_37 : decode cX2_swap 37 = .ok (.iload_n 1, 1) := by decide +kernel
theorem dX2_swap_38 : decode cX2_swap 38 = .ok (.aload_n 0, 1) := by decide +kernel
theorem dX2_swap_39 : decode cX2_swap 39 = .ok (.getfield 25, 3) := by decide +kernel
theorem dX2_swap_42 : decode cX2_swap 42 = .ok (.iload_n 2, 1) := by decide +kernel
theorem dX2_swap_43 : decode cX2_swap 43 = .ok (.aaload, 1) := by decide +kernel
theorem dX2_swap_44 : decode cX2_swap 44 = .ok (.aastore, 1) := by decide +kernel
theorem dX2_swap_45 : decode cX2_swap 45 = .ok (.aload_n 0, 1) := by decide +kernel
theorem dX2_swap_46 : decode cX2_swap 46 = .ok (.getfield 25, 3) := by decide +kernel
theorem dX2_swap_49 : decode cX2_swap 49 = .ok (.iload_n 2, 1) := by decide +kernel
theorem dX2_swap_50 : decode cX2_swap 50 = .ok (.aload_n 3, 1) := by decide +kernel
theorem dX2_swap_51 : decode cX2_swap 51 = .ok (.aastore, 1) := by decide +kernel
theorem dX2_swap_52 : decode cX2_swap 52 = .ok (.return_, 1) := by decide +kernel
set_option maxRecDepth 20000 in
theorem ggX2_streamSize_X2_at : GoodIn wsX2_streamSize wsX2_at := goodIn_r _ [6, 1, 7, 25, 26, 27, 28, 29] (by decide +kernel) (by decide +kernel)
set_option maxRecDepth 20000 in
theorem gX2_streamSize_X2_at : GoodIn wsX2_streamSize (wsV RX2 45 RX2 yX2_at wsX2_at) := goodIn_app (goodIn_of _ (by decide +kernel)) ggX2_streamSize_X2_at
set_option maxRecDepth 20000 in
theorem ggX2_streamSize_X3_streamSize : GoodIn wsX2_streamSize wsX3_streamSize := goodIn_r _ [12, 13, 14, 15, 16, 17, 11, 18, 19, 20, 21, 22, 23, 24, 30, 31, 32, 33, 34, 35] (by decide +kernel) (by decide +kernel)
set_option maxRecDepth 20000 in
theorem gX2_streamSize_X3_streamSize : GoodIn wsX2_streamSize (wsV RX2 71 RX3 yX3_streamSize wsX3_streamSize) := goodIn_app (goodIn_of _ (by decide +kernel)) ggX2_streamSize_X3_streamSize
theorem dX2_streamSize_0 : decode cX2_streamSize 0 = .ok (.bipush 6, 2) := by decide +kernel
theorem dX2_streamSize_2 : decode cX2_streamSize 2 = .ok (.istore_n 1, 1) := by decide +kernel
theorem dX2_streamSize_3 : decode cX2_streamSize 3 = .ok (.iconst 0, 1) := by decide +kernel
theorem dX2_streamSize_4 : decode cX2_streamSize 4 = .ok (.istore_n 2, 1) := by decide +kernel
theorem dX2_streamSize_5 : decode cX2_streamSize 5 = .ok (.iload_n 2, 1) := by decide +kernel
theorem dX2_streamSize_6 : decode cX2_streamSize 6 = .ok (.aload_n 0, 1) := by decide +kernel
theorem dX2_streamSize_7 : decode cX2_streamSize 7 = .ok (.getfield 34, 3) := by decide +kernel
theorem dX2_streamSize_10 : decode cX2_streamSize 10 = .ok (.if_icmp .ge 33, 3) := by decide +kernel
theorem dX2_streamSize_13 : decode cX2_streamSize 13 = .ok (.aload_n 0, 1) := by decide +kernel
theorem dX2_streamSize_14 : decode cX2_streamSize 14 = .ok (.iload_n 2, 1) := by decide +kernel
theorem dX2_streamSize_15 : decode cX2_streamSize 15 = .ok (.invokevirtual 45, 3) := by decide +kernel
theorem dX2_streamSize_18 : decode cX2_streamSize 18 = .ok (.astore_n 3, 1) := by decide +kernel
theorem dX2_streamSize_19 : decode cX2_streamSize 19 = .ok (.iload_n 1, 1) := by decide +kernel
theorem dX2_streamSize_20 : decode cX2_streamSize 20 = .ok (.aload_n 3, 1) := by decide +kernel
theorem dX2_streamSize_21 : decode cX2_streamSize 21 = .ok (.ifnonnull 7, 3) := by decide +kernel
theorem dX2_streamSize_24 : decode cX2_streamSize 24 = .ok (.iconst 0, 1) := by decide +kernel
theorem dX2_streamSize_25 : decode cX2_streamSize 25 = .ok (.goto 10, 3) := by decide +kernel
theorem dX2_streamSize_28 : decode cX2_streamSize 28 = .ok (.aload_n 3, 1) := by decide +kernel
theorem dX2_streamSize_29 : decode cX2_streamSize 29 = .ok (.invokevirtual 71, 3) := by decide +kernel
theorem dX2_streamSize_32 : decode cX2_streamSize 32 = .ok (.bipush 6, 2) := by decide +kernel
theorem dX2_streamSize_34 : decode cX2_streamSize 34 = .ok (.iadd, 1) := by decide +kernel
theorem dX2_streamSize_35 : decode cX2_streamSize 35 = .ok (.iadd, 1) := by decide +kernel
theorem dX2_streamSize_36 : decode cX2_streamSize 36 = .ok (.istore_n 1, 1) := by decide +kernel
theorem dX2_streamSize_37 : decode cX2_streamSize 37 = .ok (.iinc 2 1, 3) := by decide +kernel
theorem dX2_streamSize_40 : decode cX2_streamSize 40 = .ok (.goto (-35), 3) := by decide +kernel
theorem dX2_streamSize_43 : decode cX2_streamSize 43 = .ok (.iload_n 1, 1) := by decide +kernel
theorem dX2_streamSize_44 : decode cX2_streamSize 44 = .ok (.ireturn, 1) := by decide +kernel
set_option maxRecDepth 20000 in
theorem ggX2_writtenStream_X0_clear : GoodIn wsX2_writtenStream wsX0_clear := goodIn_r _ [8, 9, 79, 80] (by decide +kernel) (by decide +kernel)
set_option maxRecDepth 20000 in
theorem gX2_writtenStream_X0_clear : GoodIn wsX2_writtenStream (wsV RX2 74 RX0 yX0_clear wsX0_clear) := goodIn_app (goodIn_of _ (by decide +kernel)) ggX2_writtenStream_X0_clear
set_option maxRecDepth 20000 in
theorem ggX2_writtenStream_X2_at : GoodIn wsX2_writtenStream wsX2_at := goodIn_r _ [14, 2, 15, 74, 75, 76, 77, 78] (by decide +kernel) (by decide +kernel)
set_option maxRecDepth 20000 in
theorem gX2_writtenStream_X2_at : GoodIn wsX2_writtenStream (wsV RX2 45 RX2 yX2_at wsX2_at) := goodIn_app (goodIn_of _ (by decide +kernel)) ggX2_writtenStream_X2_at
set_option maxRecDepth 20000 in
theorem ggX2_writtenStream_X3_writeTo : GoodIn wsX2_writtenStream wsX3_writeTo := goodIn_r _ [20, 21, 22, 23, 24, 25, 26, 27, 19, 28, 29, 30, 31, 7, 32, 9, 33, 34, 35, 36, 37, 38, 39, 40, 41, 42, 43, 44, 45, 46, 47, 48, 49, 50, 81, 82, 83, 84, 79, 80] (by decide +kernel) (by decide +kernel)
set_option maxRecDepth 20000 in
theorem gX2_writtenStream_X3_writeTo : GoodIn wsX2_writtenStream (wsV RX2 77 RX3 yX3_writeTo wsX3_writeTo) := goodIn_app (goodIn_of _ (by decide +kernel)) ggX2_writtenStream_X3_writeTo
set_option maxRecDepth 20000 in
theorem ggX2_writtenStream_X0_size : GoodIn wsX2_writtenStream wsX0_size := goodIn_r _ [32, 9, 79, 80] (by decide +kernel) (by decide +kernel)
set_option maxRecDepth 20000 in
theorem gX2_writtenStream_X0_size : GoodIn wsX2_writtenStream (wsV RX2 67 RX0 yX0_size wsX0_size) := goodIn_app (goodIn_of _ (by decide +kernel)) ggX2_writtenStream_X0_size
set_option maxRecDepth 20000 in
theorem ggX2_writtenStream_X2_writeIndex : GoodIn wsX2_writtenStream wsX2_writeIndex := goodIn_r _ [55, 2, 1, 10, 11, 12, 13, 14, 15, 56, 39, 40, 7, 41, 42, 34, 35, 36, 9, 37, 51, 30, 31, 32, 57, 58, 59, 19, 60, 21, 22, 25, 26, 27, 28, 29, 74, 75, 76, 77, 78, 81, 82, 83, 84, 79, 80] (by decide +kernel) (by decide +kernel)
set_option maxRecDepth 20000 in
theorem gX2_writtenStream_X2_writeIndex : GoodIn wsX2_writtenStream (wsV RX2 81 RX2 yX2_writeIndex wsX2_writeIndex) := goodIn_app (goodIn_of _ (by decide +kernel)) ggX2_writtenStream_X2_writeIndex
set_option maxRecDepth 20000 in
theorem ggX2_writtenStream_X1_over : GoodIn wsX2_writtenStream wsX1_over := goodIn_r _ [65, 66, 67, 68, 69, 64, 70, 71, 72, 48, 49, 7, 50, 9, 37, 85, 79, 80] (by decide +kernel) (by decide +kernel)
set_option maxRecDepth 20000 in
theorem gX2_writtenStream_X1_over : GoodIn wsX2_writtenStream (wsV RX2 84 RX1 yX1_over wsX1_over) := goodIn_app (goodIn_of _ (by decide +kernel)) ggX2_writtenStream_X1_over
set_option maxRecDepth 20000 in
theorem ggX2_writtenStream_X0_add : GoodIn wsX2_writtenStream wsX0_add := goodIn_r _ [36, 9, 37, 79, 80] (by decide +kernel) (by decide +kernel)
set_option maxRecDepth 20000 in
theorem gX2_writtenStream_X0_add : GoodIn wsX2_writtenStream (wsV RX2 90 RX0 yX0_add wsX0_add) := goodIn_app (goodIn_of _ (by decide +kernel)) ggX2_writtenStream_X0_add
set_option maxRecDepth 20000 in
theorem ggX2_writtenStream_X0_addWord : GoodIn wsX2_writtenStream wsX0_addWord := goodIn_r _ [41, 42, 34, 35, 7, 36, 9, 37, 79, 80] (by decide +kernel) (by decide +kernel)
set_option maxRecDepth 20000 in
theorem gX2_writtenStream_X0_addWord : GoodIn wsX2_writtenStream (wsV RX2 93 RX0 yX0_addWord wsX0_addWord) := goodIn_app (goodIn_of _ (by decide +kernel)) ggX2_writtenStream_X0_addWord
theorem dX2_writtenStream_0 : decode cX2_writtenStream 0 = .ok (.aload_n 0, 1) := by decide +kernel
theorem dX2_writtenStream_1 : decode cX2_writtenStream 1 = .ok (.getfield 20, 3) := by decide +kernel
theorem dX2_writtenStream_4 : decode cX2_writtenStream 4 = .ok (.invokevirtual 74, 3) := by decide +kernel
theorem dX2_writtenStream_7 : decode cX2_writtenStream 7 = .ok (.iconst 0, 1) := by decide +kernel
theorem dX2_writtenStream_8 : decode cX2_writtenStream 8 = .ok (.istore_n 1, 1) := by decide +kernel
theorem dX2_writtenStream_9 : decode cX2_writtenStream 9 = .ok (.iload_n 1, 1) := by decide +kernel
theorem dX2_writtenStream_10 : decode cX2_writtenStream 10 = .ok (.aload_n 0, 1) := by decide +kernel
theorem dX2_writtenStream_11 : decode cX2_writtenStream 11 = .ok (.getfield 34, 3) := by decide +kernel
theorem dX2_writtenStream_14 : decode cX2_writtenStream 14 = .ok (.if_icmp .ge 27, 3) := by decide +kernel
theorem dX2_writtenStream_17 : decode cX2_writtenStream 17 = .ok (.aload_n 0, 1) := by decide +kernel
theorem dX2_writtenStream_18 : decode cX2_writtenStream 18 = .ok (.iload_n 1, 1) := by decide +kernel
theorem dX2_writtenStream_19 : decode cX2_writtenStream 19 = .ok (.invokevirtual 45, 3) := by decide +kernel
theorem dX2_writtenStream_22 : decode cX2_writtenStream 22 = .ok (.astore_n 2, 1) := by decide +kernel
theorem dX2_writtenStream_23 : decode cX2_writtenStream 23 = .ok (.aload_n 2, 1) := by decide +kernel
theorem dX2_writtenStream_24 : decode cX2_writtenStream 24 = .ok (.ifnull 11, 3) := by decide +kernel
theorem dX2_writtenStream_27 : decode cX2_writtenStream 27 = .ok (.aload_n 2, 1) := by decide +kernel
theorem dX2_writtenStream_28 : decode cX2_writtenStream 28 = .ok (.aload_n 0, 1) := by decide +kernel
theorem dX2_writtenStream_29 : decode cX2_writtenStream 29 = .ok (.getfield 20, 3) := by decide +kernel
theorem dX2_writtenStream_32 : decode cX2_writtenStream 32 = .ok (.invokevirtual 77, 3) := by decide +kernel
theorem dX2_writtenStream_35 : decode cX2_writtenStream 35 = .ok (.iinc 1 1, 3) := by decide +kernel
theorem dX2_writtenStream_38 : decode cX2_writtenStream 38 = .ok (.goto (-29), 3) := by decide +kernel
theorem dX2_writtenStream_41 : decode cX2_writtenStream 41 = .ok (.aload_n 0, 1) := by decide +kernel
theorem dX2_writtenStream_42 : decode cX2_writtenStream 42 = .ok (.getfield 20, 3) := by decide +kernel
theorem dX2_writtenStream_45 : decode cX2_writtenStream 45 = .ok (.invokevirtual 67, 3) := by decide +kernel
theorem dX2_writtenStream_48 : decode cX2_writtenStream 48 = .ok (.istore_n 1, 1) := by decide +kernel
theorem dX2_writtenStream_49 : decode cX2_writtenStream 49 = .ok (.aload_n 0, 1) := by decide +kernel
theorem dX2_writtenStream_50 : decode cX2_writtenStream 50 = .ok (.invokevirtual 81, 3) := by decide +kernel
theorem dX2_writtenStream_53 : decode cX2_writtenStream 53 = .ok (.aload_n 0, 1) := by decide +kernel
theorem dX2_writtenStream_54 : decode cX2_writtenStream 54 = .ok (.getfield 29, 3) := by decide +kernel
theorem dX2_writtenStream_57 : decode cX2_writtenStream 57 = .ok (.aload_n 0, 1) := by decide +kernel
theorem dX2_writtenStream_58 : decode cX2_writtenStream 58 = .ok (.getfield 20, 3) := by decide +kernel
theorem dX2_writtenStream_61 : decode cX2_writtenStream 61 = .ok (.iload_n 1, 1) := by decide +kernel
theorem dX2_writtenStream_62 : decode cX2_writtenStream 62 = .ok (.aload_n 0, 1) := by decide +kernel
theorem dX2_writtenStream_63 : decode cX2_writtenStream 63 = .ok (.getfield 20, 3) := by decide +kernel
theorem dX2_writtenStream_66 : decode cX2_writtenStream 66 = .ok (.invokevirtual 67, 3) := by decide +kernel
theorem dX2_writtenStream_69 : decode cX2_writtenStream 69 = .ok (.invokevirtual 84, 3) := by decide +kernel
theorem dX2_writtenStream_72 : decode cX2_writtenStream 72 = .ok (.istore_n 2, 1) := by decide +kernel
theorem dX2_writtenStream_73 : decode cX2_writtenStream 73 = .ok (.aload_n 0, 1) := by decide +kernel
theorem dX2_writtenStream_74 : decode cX2_writtenStream 74 = .ok (.getfield 20, 3) := by decide +kernel
theorem dX2_writtenStream_77 : decode cX2_writtenStream 77 = .ok (.bipush 88, 2) := by decide +kernel
theorem dX2_writtenStream_79 : decode cX2_writtenStream 79 = .ok (.invokevirtual 90, 3) := by decide +kernel
theorem dX2_writtenStream_82 : decode cX2_writtenStream 82 = .ok (.aload_n 0, 1) := by decide +kernel
theorem dX2_writtenStream_83 : decode cX2_writtenStream 83 = .ok (.getfield 20, 3) := by decide +kernel
theorem dX2_writtenStream_86 : decode cX2_writtenStream 86 = .ok (.aload_n 0, 1) := by decide +kernel
theorem dX2_writtenStream_87 : decode cX2_writtenStream 87 = .ok (.getfield 34, 3) := by decide +kernel
theorem dX2_writtenStream_90 : decode cX2_writtenStream 90 = .ok (.invokevirtual 90, 3) := by decide +kernel
theorem dX2_writtenStream_93 : decode cX2_writtenStream 93 = .ok (.aload_n 0, 1) := by decide +kernel
theorem dX2_writtenStream_94 : decode cX2_writtenStream 94 = .ok (.getfield 20, 3) := by decide +kernel
theorem dX2_writtenStream_97 : decode cX2_writtenStream 97 = .ok (.iload_n 1, 1) := by decide +kernel
theorem dX2_writtenStream_98 : decode cX2_writtenStream 98 = .ok (.invokevirtual 93, 3) := by decide +kernel
theorem dX2_writtenStream_101 : decode cX2_writtenStream 101 = .ok (.aload_n 0, 1) := by decide +kernel
theorem dX2_writtenStream_102 : decode cX2_writtenStream 102 = .ok (.getfield 20, 3) := by decide +kernel
theorem dX2_writtenStream_105 : decode cX2_writtenStream 105 = .ok (.iload_n 2, 1) := by decide +kernel
theorem dX2_writtenStream_106 : decode cX2_writtenStream 106 = .ok (.invokevirtual 93, 3) := by decide +kernel
theorem dX2_writtenStream_109 : decode cX2_writtenStream 109 = .ok (.aload_n 0, 1) := by decide +kernel
theorem dX2_writtenStream_110 : decode cX2_writtenStream 110 = .ok (.getfield 20, 3) := by decide +kernel
theorem dX2_writtenStream_113 : decode cX2_writtenStream 113 = .ok (.areturn, 1) := by decide +kernel
set_option maxRecDepth 20000 in
theorem ggX2_writeIndex_X2_at : GoodIn wsX2_writeIndex wsX2_at := goodIn_r _ [7, 1, 8, 36, 37, 38, 39, 40] (by decide +kernel) (by decide +kernel)
set_option maxRecDepth 20000 in
theorem gX2_writeIndex_X2_at : GoodIn wsX2_writeIndex (wsV RX2 45 RX2 yX2_at wsX2_at) := goodIn_app (goodIn_of _ (by decide +kernel)) ggX2_writeIndex_X2_at
set_option maxRecDepth 20000 in
theorem ggX2_writeIndex_X0_addWord : GoodIn wsX2_writeIndex wsX0_addWord := goodIn_r _ [13, 14, 15, 16, 12, 17, 18, 19, 45, 46] (by decide +kernel) (by decide +kernel)
set_option maxRecDepth 20000 in
theorem gX2_writeIndex_X0_addWord : GoodIn wsX2_writeIndex (wsV RX2 93 RX0 yX0_addWord wsX0_addWord) := goodIn_app (goodIn_of _ (by decide +kernel)) ggX2_writeIndex_X0_addWord
set_option maxRecDepth 20000 in
theorem ggX2_writeIndex_X0_size : GoodIn wsX2_writeIndex wsX0_size := goodIn_r _ [23, 18, 45, 46] (by decide +kernel) (by decide +kernel)
set_option maxRecDepth 20000 in
theorem gX2_writeIndex_X0_size : GoodIn wsX2_writeIndex (wsV RX2 67 RX0 yX0_size wsX0_size) := goodIn_app (goodIn_of _ (by decide +kernel)) ggX2_writeIndex_X0_size
set_option maxRecDepth 20000 in
theorem ggX2_writeIndex_X3_streamSize : GoodIn wsX2_writeIndex wsX3_streamSize := goodIn_r _ [28, 29, 30, 31, 32, 33, 27, 34, 35, 21, 22, 12, 23, 18, 41, 42, 43, 44, 45, 46] (by decide +kernel) (by decide +kernel)
set_option maxRecDepth 20000 in
theorem gX2_writeIndex_X3_streamSize : GoodIn wsX2_writeIndex (wsV RX2 71 RX3 yX3_streamSize wsX3_streamSize) := goodIn_app (goodIn_of _ (by decide +kernel)) ggX2_writeIndex_X3_streamSize
theorem dX2_writeIndex_0 : decode cX2_writeIndex 0 = .ok (.iconst 0, 1) := by decide +kernel
theorem dX2_writeIndex_1 : decode cX2_writeIndex 1 = .ok (.istore_n 1, 1) := by decide +kernel
theorem dX2_writeIndex_2 : decode cX2_writeIndex 2 = .ok (.iconst 0, 1) := by decide +kernel
theorem dX2_writeIndex_3 : decode cX2_writeIndex 3 = .ok (.istore_n 2, 1) := by decide +kernel
theorem dX2_writeIndex_4 : decode cX2_writeIndex 4 = .ok (.iload_n 2, 1) := by decide +kernel
theorem dX2_writeIndex_5 : decode cX2_writeIndex 5 = .ok (.aload_n 0, 1) := by decide +kernel
theorem dX2_writeIndex_6 : decode cX2_writeIndex 6 = .ok (.getfield 34, 3) := by decide +kernel
theorem dX2_writeIndex_9 : decode cX2_writeIndex 9 = .ok (.if_icmp .ge 59, 3) := by decide +kernel
theorem dX2_writeIndex_12 : decode cX2_writeIndex 12 = .ok (.aload_n 0, 1) := by decide +kernel
theorem dX2_writeIndex_13 : decode cX2_writeIndex 13 = .ok (.iload_n 2, 1) := by decide +kernel
theorem dX2_writeIndex_14 : decode cX2_writeIndex 14 = .ok (.invokevirtual 45, 3) := by decide +kernel
theorem dX2_writeIndex_17 : decode cX2_writeIndex 17 = .ok (.astore_n 3, 1) := by decide +kernel
theorem dX2_writeIndex_18 : decode cX2_writeIndex 18 = .ok (.aload_n 3, 1) := by decide +kernel
theorem dX2_writeIndex_19 : decode cX2_writeIndex 19 = .ok (.ifnull 43, 3) := by decide +kernel
theorem dX2_writeIndex_22 : decode cX2_writeIndex 22 = .ok (.aload_n 0, 1) := by decide +kernel
theorem dX2_writeIndex_23 : decode cX2_writeIndex 23 = .ok (.getfield 20, 3) := by decide +kernel
theorem dX2_writeIndex_26 : decode cX2_writeIndex 26 = .ok (.aload_n 3, 1) := by decide +kernel
theorem dX2_writeIndex_27 : decode cX2_writeIndex 27 = .ok (.getfield 49, 3) := by decide +kernel
theorem dX2_writeIndex_30 : decode cX2_writeIndex 30 = .ok (.invokevirtual 93, 3) := by decide +kernel
theorem dX2_writeIndex_33 : decode cX2_writeIndex 33 = .ok (.aload_n 0, 1) := by decide +kernel
theorem dX2_writeIndex_34 : decode cX2_writeIndex 34 = .ok (.getfield 20, 3) := by decide +kernel
theorem dX2_writeIndex_37 : decode cX2_writeIndex 37 = .ok (.iload_n 1, 1) := by decide +kernel
theorem dX2_writeIndex_38 : decode cX2_writeIndex 38 = .ok (.invokevirtual 93, 3) := by decide +kernel
theorem dX2_writeIndex_41 : decode cX2_writeIndex 41 = .ok (.aload_n 0, 1) := by decide +kernel
theorem dX2_writeIndex_42 : decode cX2_writeIndex 42 = .ok (.getfield 20, 3) := by decide +kernel
theorem dX2_writeIndex_45 : decode cX2_writeIndex 45 = .ok (.aload_n 3, 1) := by decide +kernel
theorem dX2_writeIndex_46 : decode cX2_writeIndex 46 = .ok (.getfield 64, 3) := by decide +kernel
theorem dX2_writeIndex_49 : decode cX2_writeIndex 49 = .ok (.invokevirtual 67, 3) := by decide +kernel
theorem dX2_writeIndex_52 : decode cX2_writeIndex 52 = .ok (.invokevirtual 93, 3) := by decide +kernel
theorem dX2_writeIndex_55 : decode cX2_writeIndex 55 = .ok (.iload_n 1, 1) := by decide +kernel
theorem dX2_writeIndex_56 : decode cX2_writeIndex 56 = .ok (.aload_n 3, 1) := by decide +kernel
theorem dX2_writeIndex_57 : decode cX2_writeIndex 57 = .ok (.invokevirtual 71, 3) := by decide +kernel
theorem dX2_writeIndex_60 : decode cX2_writeIndex 60 = .ok (.iadd, 1) := by decide +kernel
theorem dX2_writeIndex_61 : decode cX2_writeIndex 61 = .ok (.istore_n 1, 1) := by decide +kernel
theorem dX2_writeIndex_62 : decode cX2_writeIndex 62 = .ok (.iinc 2 1, 3) := by decide +kernel
theorem dX2_writeIndex_65 : decode cX2_writeIndex 65 = .ok (.goto (-61), 3) := by decide +kernel
theorem dX2_writeIndex_68 : decode cX2_writeIndex 68 = .ok (.return_, 1) := by decide +kernel
