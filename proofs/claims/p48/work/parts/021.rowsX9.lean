set_option maxRecDepth 20000 in
theorem ggX9_init_X10_init : GoodIn wsX9_init wsX10_init := goodIn_r _ [15, 16, 2, 3, 17, 18, 19, 20, 21, 22, 23, 24, 25, 6, 26, 38, 39, 34, 35, 36, 37] (by decide +kernel) (by decide +kernel)
set_option maxRecDepth 20000 in
theorem gX9_init_X10_init : GoodIn wsX9_init (wsX10_init) := ggX9_init_X10_init
theorem dX9_init_0 : decode cX9_init 0 = .ok (.aload_n 0, 1) := by decide +kernel
theorem dX9_init_1 : decode cX9_init 1 = .ok (.invokespecial 3, 3) := by decide +kernel
theorem dX9_init_4 : decode cX9_init 4 = .ok (.aload_n 0, 1) := by decide +kernel
theorem dX9_init_5 : decode cX9_init 5 = .ok (.bipush 16, 2) := by decide +kernel
theorem dX9_init_7 : decode cX9_init 7 = .ok (.anewarray 9, 3) := by decide +kernel
theorem dX9_init_10 : decode cX9_init 10 = .ok (.putfield 11, 3) := by decide +kernel
theorem dX9_init_13 : decode cX9_init 13 = .ok (.aload_n 0, 1) := by decide +kernel
theorem dX9_init_14 : decode cX9_init 14 = .ok (.bipush 16, 2) := by decide +kernel
theorem dX9_init_16 : decode cX9_init 16 = .ok (.newarray .int, 2) := by decide +kernel
theorem dX9_init_18 : decode cX9_init 18 = .ok (.putfield 17, 3) := by decide +kernel
theorem dX9_init_21 : decode cX9_init 21 = .ok (.aload_n 0, 1) := by decide +kernel
theorem dX9_init_22 : decode cX9_init 22 = .ok (.bipush 16, 2) := by decide +kernel
theorem dX9_init_24 : decode cX9_init 24 = .ok (.newarray .int, 2) := by decide +kernel
theorem dX9_init_26 : decode cX9_init 26 = .ok (.putfield 21, 3) := by decide +kernel
theorem dX9_init_29 : decode cX9_init 29 = .ok (.aload_n 0, 1) := by decide +kernel
theorem dX9_init_30 : decode cX9_init 30 = .ok (.aload_n 2, 1) := by decide +kernel
theorem dX9_init_31 : decode cX9_init 31 = .ok (.putfield 24, 3) := by decide +kernel
theorem dX9_init_34 : decode cX9_init 34 = .ok (.iconst 0, 1) := by decide +kernel
theorem dX9_init_35 : decode cX9_init 35 = .ok (.istore_n 3, 1) := by decide +kernel
theorem dX9_init_36 : decode cX9_init 36 = .ok (.iload_n 3, 1) := by decide +kernel
theorem dX9_init_37 : decode cX9_init 37 = .ok (.aload_n 0, 1) := by decide +kernel
theorem dX9_init_38 : decode cX9_init 38 = .ok (.getfield 11, 3) := by decide +kernel
theorem dX9_init_41 : decode cX9_init 41 = .ok (.arraylength, 1) := by decide +kernel
theorem dX9_init_42 : decode cX9_init 42 = .ok (.if_icmp .ge 23, 3) := by decide +kernel
theorem dX9_init_45 : decode cX9_init 45 = .ok (.aload_n 0, 1) := by decide +kernel
theorem dX9_init_46 : decode cX9_init 46 = .ok (.getfield 11, 3) := by decide +kernel
theorem dX9_init_49 : decode cX9_init 49 = .ok (.iload_n 3, 1) := by decide +kernel
theorem dX9_init_50 : decode cX9_init 50 = .ok (.new 9, 3) := by decide +kernel
theorem dX9_init_53 : decode cX9_init 53 = .ok (.dup, 1) := by decide +kernel
theorem dX9_init_54 : decode cX9_init 54 = .ok (.aload_n 1, 1) := by decide +kernel
theorem dX9_init_55 : decode cX9_init 55 = .ok (.invokespecial 28, 3) := by decide +kernel
theorem dX9_init_58 : decode cX9_init 58 = .ok (.aastore, 1) := by decide +kernel
theorem dX9_init_59 : decode cX9_init 59 = .ok (.iinc 3 1, 3) := by decide +kernel
theorem dX9_init_62 : decode cX9_init 62 = .ok (.goto (-26), 3) := by decide +kernel
theorem dX9_init_65 : decode cX9_init 65 = .ok (.aload_n 0, 1) := by decide +kernel
theorem dX9_init_66 : decode cX9_init 66 = .ok (.new 9, 3) := by decide +kernel
theorem dX9_init_69 : decode cX9_init 69 = .ok (.dup, 1) := by decide +kernel
theorem dX9_init_70 : decode cX9_init 70 = .ok (.aload_n 1, 1) := by decide +kernel
theorem dX9_init_71 : decode cX9_init 71 = .ok (.invokespecial 28, 3) := by decide +kernel
theorem dX9_init_74 : decode cX9_init 74 = .ok (.putfield 31, 3) := by decide +kernel
theorem dX9_init_77 : decode cX9_init 77 = .ok (.return_, 1) := by decide +kernel
theorem dX9_at_0 : decode cX9_at 0 = .ok (.iload_n 1, 1) := by decide +kernel
theorem dX9_at_1 : decode cX9_at 1 = .ok (.ifCond .lt 21, 3) := by decide +kernel
theorem dX9_at_4 : decode cX9_at 4 = .ok (.iload_n 1, 1) := by decide +kernel
theorem dX9_at_5 : decode cX9_at 5 = .ok (.aload_n 0, 1) := by decide +kernel
theorem dX9_at_6 : decode cX9_at 6 = .ok (.getfield 11, 3) := by decide +kernel
theorem dX9_at_9 : decode cX9_at 9 = .ok (.arraylength, 1) := by decide +kernel
theorem dX9_at_10 : decode cX9_at 10 = .ok (.if_icmp .ge 12, 3) := by decide +kernel
theorem dX9_at_13 : decode cX9_at 13 = .ok (.aload_n 0, 1) := by decide +kernel
theorem dX9_at_14 : decode cX9_at 14 = .ok (.getfield 11, 3) := by decide +kernel
theorem dX9_at_17 : decode cX9_at 17 = .ok (.iload_n 1, 1) := by decide +kernel
theorem dX9_at_18 : decode cX9_at 18 = .ok (.aaload, 1) := by decide +kernel
theorem dX9_at_19 : decode cX9_at 19 = .ok (.goto 4, 3) := by decide +kernel
theorem dX9_at_22 : decode cX9_at 22 = .ok (.aconst_null, 1) := by decide +kernel
theorem dX9_at_23 : decode cX9_at 23 = .ok (.areturn, 1) := by decide +kernel
set_option maxRecDepth 20000 in
theorem ggX9_swap_X9_at : GoodIn wsX9_swap wsX9_at := goodIn_r _ [6, 1, 7, 8, 9, 10, 11, 12, 13] (by decide +kernel) (by decide +kernel)
set_option maxRecDepth 20000 in
theorem gX9_swap_X9_at : GoodIn wsX9_swap (wsV RX9 35 RX9 yX9_at wsX9_at) := goodIn_app (goodIn_of _ (by decide +kernel)) ggX9_swap_X9_at
theorem dX9_swap_0 : decode cX9_swap 0 = .ok (.aload_n 0, 1) := by decide +kernel
theorem dX9_swap_1 : decode cX9_swap 1 = .ok (.iload_n 1, 1) := by decide +kernel
theorem dX9_swap_2 : decode cX9_swap 2 = .ok (.invokevirtual 35, 3) := by decide +kernel
theorem dX9_swap_5 : decode cX9_swap 5 = .ok (.astore_n 3, 1) := by decide +kernel
theorem dX9_swap_6 : decode cX9_swap 6 = .ok (.aload_n 0, 1) := by decide +kernel
theorem dX9_swap_7 : decode cX9_swap 7 = .ok (.iload_n 2, 1) := by decide +kernel
theorem dX9_swap_8 : decode cX9_swap 8 = .ok (.invokevirtual 35, 3) := by decide +kernel
theorem dX9_swap_11 : decode cX9_swap 11 = .ok (.astore 4, 2) := by decide +kernel
theorem dX9_swap_13 : decode cX9_swap 13 = .ok (.aload_n 3, 1) := by decide +kernel
theorem dX9_swap_14 : decode cX9_swap 14 = .ok (.ifnull 23, 3) := by decide +kernel
theorem dX9_swap_17 : decode cX9_swap 17 = .ok (.aload 4, 2) := by decide +kernel
theorem dX9_swap_19 : decode cX9_swap 19 = .ok (.ifnull 18, 3) := by decide +kernel
theorem dX9_swap_22 : decode cX9_swap 22 = .ok (.aload_n 0, 1) := by decide +kernel
theorem dX9_swap_23 : decode cX9_swap 23 = .ok (.getfield 11, 3) := by decide +kernel
theorem dX9_swap_26 : decode cX9_swap 26 = .ok (.iload_n 1, 1) := by decide +kernel
theorem dX9_swap_27 : decode cX9_swap 27 = .ok (.aload 4, 2) := by decide +kernel
theorem dX9_swap_29 : decode cX9_swap 29 = .ok (.aastore, 1) := by decide +kernel
theorem dX9_swap_30 : decode cX9_swap 30 = .ok (.aload_n 0, 1) := by decide +kernel
theorem dX9_swap_31 : decode cX9_swap 31 = .ok (.getfield 11, 3) := by decide +kernel
theorem dX9_swap_34 : decode cX9_swap 34 = .ok (.iload_n 2, 1) := by decide +kernel
theorem dX9_swap_35 : decode cX9_swap 35 = .ok (.aload_n 3, 1) := by decide +kernel
theorem dX9_swap_36 : decode cX9_swap 36 = .ok (.aastore, 1) := by decide +kernel
theorem dX9_swap_37 : decode cX9_swap 37 = .ok (.return_, 1) := by decide +kernel
set_option maxRecDepth 20000 in
theorem ggX9_survey_X10_isWhole : GoodIn wsX9_survey wsX10_isWhole := goodIn_r _ [10, 11, 12, 13, 14, 15, 9, 16, 17, 18, 19, 20, 21, 22, 23, 24, 25, 26, 27, 28, 29, 30, 31, 32, 33, 34, 35, 36, 37, 38, 39, 40, 41, 42, 43, 44, 45, 46, 47, 48, 49, 50, 51, 52, 53, 54, 55, 56, 57, 58, 59, 60, 61, 62, 63, 64, 65, 66, 67, 68, 69, 70, 92, 93, 94, 95, 96, 97, 98] (by decide +kernel) (by decide +kernel)
set_option maxRecDepth 20000 in
theorem gX9_survey_X10_isWhole : GoodIn wsX9_survey (wsV RX9 46 RX10 yX10_isWhole wsX10_isWhole) := goodIn_app (goodIn_of _ (by decide +kernel)) ggX9_survey_X10_isWhole
set_option maxRecDepth 20000 in
theorem ggX9_survey_X9_seeWhole : GoodIn wsX9_survey wsX9_seeWhole := goodIn_r _ [75, 1, 3, 4, 2, 76, 77, 78, 74, 79, 5, 80, 81, 82, 9, 83, 29, 30, 31, 32, 12, 24, 25, 26, 21, 27, 23, 28, 33, 34, 35, 36, 41, 42, 43, 44, 45, 46, 47, 48, 49, 50, 51, 52, 53, 84, 38, 39, 40, 85, 86, 87, 88, 89, 90, 91, 92, 93, 94, 95, 96, 97] (by decide +kernel) (by decide +kernel)
set_option maxRecDepth 20000 in
theorem gX9_survey_X9_seeWhole : GoodIn wsX9_survey (wsV RX9 50 RX9 yX9_seeWhole wsX9_seeWhole) := goodIn_app (goodIn_of _ (by decide +kernel)) ggX9_survey_X9_seeWhole
theorem dX9_survey_0 : decode cX9_survey 0 = .ok (.aload_n 0, 1) := by decide +kernel
theorem dX9_survey_1 : decode cX9_survey 1 = .ok (.iconst (-1), 1) := by decide +kernel
theorem dX9_survey_2 : decode cX9_survey 2 = .ok (.putfield 39, 3) := by decide +kernel
theorem dX9_survey_5 : decode cX9_survey 5 = .ok (.aload_n 0, 1) := by decide +kernel
theorem dX9_survey_6 : decode cX9_survey 6 = .ok (.iconst 0, 1) := by decide +kernel
theorem dX9_survey_7 : decode cX9_survey 7 = .ok (.putfield 43, 3) := by decide +kernel
theorem dX9_survey_10 : decode cX9_survey 10 = .ok (.iconst 0, 1) := by decide +kernel
theorem dX9_survey_11 : decode cX9_survey 11 = .ok (.istore_n 1, 1) := by decide +kernel
theorem dX9_survey_12 : decode cX9_survey 12 = .ok (.iload_n 1, 1) := by decide +kernel
theorem dX9_survey_13 : decode cX9_survey 13 = .ok (.bipush 16, 2) := by decide +kernel
theorem dX9_survey_15 : decode cX9_survey 15 = .ok (.if_icmp .ge 23, 3) := by decide +kernel
theorem dX9_survey_18 : decode cX9_survey 18 = .ok (.aload_n 0, 1) := by decide +kernel
theorem dX9_survey_19 : decode cX9_survey 19 = .ok (.getfield 17, 3) := by decide +kernel
theorem dX9_survey_22 : decode cX9_survey 22 = .ok (.iload_n 1, 1) := by decide +kernel
theorem dX9_survey_23 : decode cX9_survey 23 = .ok (.iconst (-1), 1) := by decide +kernel
theorem dX9_survey_24 : decode cX9_survey 24 = .ok (.iastore, 1) := by decide +kernel
theorem dX9_survey_25 : decode cX9_survey 25 = .ok (.aload_n 0, 1) := by decide +kernel
theorem dX9_survey_26 : decode cX9_survey 26 = .ok (.getfield 21, 3) := by decide +kernel
theorem dX9_survey_29 : decode cX9_survey 29 = .ok (.iload_n 1, 1) := by decide +kernel
theorem dX9_survey_30 : decode cX9_survey 30 = .ok (.iconst (-1), 1) := by decide +kernel
theorem dX9_survey_31 : decode cX9_survey 31 = .ok (.iastore, 1) := by decide +kernel
theorem dX9_survey_32 : decode cX9_survey 32 = .ok (.iinc 1 1, 3) := by decide +kernel
theorem dX9_survey_35 : decode cX9_survey 35 = .ok (.goto (-23), 3) := by decide +kernel
theorem dX9_survey_38 : decode cX9_survey 38 = .ok (.iconst 0, 1) := by decide +kernel
theorem dX9_survey_39 : decode cX9_survey 39 = .ok (.istore_n 1, 1) := by decide +kernel
theorem dX9_survey_40 : decode cX9_survey 40 = .ok (.iload_n 1, 1) := by decide +kernel
theorem dX9_survey_41 : decode cX9_survey 41 = .ok (.bipush 16, 2) := by decide +kernel
theorem dX9_survey_43 : decode cX9_survey 43 = .ok (.if_icmp .ge 26, 3) := by decide +kernel
theorem dX9_survey_46 : decode cX9_survey 46 = .ok (.aload_n 0, 1) := by decide +kernel
theorem dX9_survey_47 : decode cX9_survey 47 = .ok (.getfield 11, 3) := by decide +kernel
theorem dX9_survey_50 : decode cX9_survey 50 = .ok (.iload_n 1, 1) := by decide +kernel
theorem dX9_survey_51 : decode cX9_survey 51 = .ok (.aaload, 1) := by decide +kernel
theorem dX9_survey_52 : decode cX9_survey 52 = .ok (.invokevirtual 46, 3) := by decide +kernel
theorem dX9_survey_55 : decode cX9_survey 55 = .ok (.ifCond .eq 8, 3) := by decide +kernel
theorem dX9_survey_58 : decode cX9_survey 58 = .ok (.aload_n 0, 1) := by decide +kernel
theorem dX9_survey_59 : decode cX9_survey 59 = .ok (.iload_n 1, 1) := by decide +kernel
theorem dX9_survey_60 : decode cX9_survey 60 = .ok (.invokevirtual 50, 3) := by decide +kernel
theorem dX9_survey_63 : decode cX9_survey 63 = .ok (.iinc 1 1, 3) := by decide +kernel
theorem dX9_survey_66 : decode cX9_survey 66 = .ok (.goto (-26), 3) := by decide +kernel
theorem dX9_survey_69 : decode cX9_survey 69 = .ok (.return_, 1) := by decide +kernel
set_option maxRecDepth 20000 in
theorem ggX9_seeWhole_X9_at : GoodIn wsX9_seeWhole wsX9_at := goodIn_r _ [9, 10, 49, 50, 51, 52, 53, 54, 55] (by decide +kernel) (by decide +kernel)
set_option maxRecDepth 20000 in
theorem gX9_seeWhole_X9_at : GoodIn wsX9_seeWhole (wsV RX9 35 RX9 yX9_at wsX9_at) := goodIn_app (goodIn_of _ (by decide +kernel)) ggX9_seeWhole_X9_at
set_option maxRecDepth 20000 in
theorem ggX9_seeWhole_X10_isOfOneWith : GoodIn wsX9_seeWhole wsX10_isOfOneWith := goodIn_r _ [15, 16, 17, 18, 14, 19, 20, 21, 22, 23, 24, 25, 26, 27, 28, 29, 30, 31, 32, 33, 34, 35, 36, 37, 38, 39, 40, 41, 42, 43, 44, 56, 57, 58, 59, 60, 61] (by decide +kernel) (by decide +kernel)
set_option maxRecDepth 20000 in
theorem gX9_seeWhole_X10_isOfOneWith : GoodIn wsX9_seeWhole (wsV RX9 54 RX10 yX10_isOfOneWith wsX10_isOfOneWith) := goodIn_app (goodIn_of _ (by decide +kernel)) ggX9_seeWhole_X10_isOfOneWith
set_option maxRecDepth 20000 in
theorem ggX9_seeWhole_X10_number : GoodIn wsX9_seeWhole wsX10_number := goodIn_r _ [48, 20, 21, 22, 23, 24, 25, 26, 27, 56, 57, 58, 59, 60, 61] (by decide +kernel) (by decide +kernel)
set_option maxRecDepth 20000 in
theorem gX9_seeWhole_X10_number : GoodIn wsX9_seeWhole (wsV RX9 58 RX10 yX10_number wsX10_number) := goodIn_app (goodIn_of _ (by decide +kernel)) ggX9_seeWhole_X10_number
theorem dX9_seeWhole_0 : decode cX9_seeWhole 0 = .ok (.aload_n 0, 1) := by decide +kernel
theorem dX9_seeWhole_1 : decode cX9_seeWhole 1 = .ok (.getfield 39, 3) := by decide +kernel
theorem dX9_seeWhole_4 : decode cX9_seeWhole 4 = .ok (.ifCond .ge 8, 3) := by decide +kernel
theorem dX9_seeWhole_7 : decode cX9_seeWhole 7 = .ok (.aload_n 0, 1) := by decide +kernel
theorem dX9_seeWhole_8 : decode cX9_seeWhole 8 = .ok (.iload_n 1, 1) := by decide +kernel
theorem dX9_seeWhole_9 : decode cX9_seeWhole 9 = .ok (.putfield 39, 3) := by decide +kernel
theorem dX9_seeWhole_12 : decode cX9_seeWhole 12 = .ok (.aload_n 0, 1) := by decide +kernel
theorem dX9_seeWhole_13 : decode cX9_seeWhole 13 = .ok (.aload_n 0, 1) := by decide +kernel
theorem dX9_seeWhole_14 : decode cX9_seeWhole 14 = .ok (.getfield 39, 3) := by decide +kernel
theorem dX9_seeWhole_17 : decode cX9_seeWhole 17 = .ok (.invokevirtual 35, 3) := by decide +kernel
theorem dX9_seeWhole_20 : decode cX9_seeWhole 20 = .ok (.astore_n 2, 1) := by decide +kernel
theorem dX9_seeWhole_21 : decode cX9_seeWhole 21 = .ok (.aload_n 0, 1) := by decide +kernel
theorem dX9_seeWhole_22 : decode cX9_seeWhole 22 = .ok (.iload_n 1, 1) := by decide +kernel
theorem dX9_seeWhole_23 : decode cX9_seeWhole 23 = .ok (.invokevirtual 35, 3) := by decide +kernel
theorem dX9_seeWhole_26 : decode cX9_seeWhole 26 = .ok (.astore_n 3, 1) := by decide +kernel
theorem dX9_seeWhole_27 : decode cX9_seeWhole 27 = .ok (.aload_n 2, 1) := by decide +kernel
theorem dX9_seeWhole_28 : decode cX9_seeWhole 28 = .ok (.ifnull 15, 3) := by decide +kernel
theorem dX9_seeWhole_31 : decode cX9_seeWhole 31 = .ok (.aload_n 3, 1) := by decide +kernel
theorem dX9_seeWhole_32 : decode cX9_seeWhole 32 = .ok (.ifnull 11, 3) := by decide +kernel
theorem dX9_seeWhole_35 : decode cX9_seeWhole 35 = .ok (.aload_n 3, 1) := by decide +kernel
theorem dX9_seeWhole_36 : decode cX9_seeWhole 36 = .ok (.aload_n 2, 1) := by decide +kernel
theorem dX9_seeWhole_37 : decode cX9_seeWhole 37 = .ok (.invokevirtual 54, 3) := by decide +kernel
theorem dX9_seeWhole_40 : decode cX9_seeWhole 40 = .ok (.ifCond .ne 4, 3) := by decide +kernel
theorem dX9_seeWhole_43 : decode cX9_seeWhole 43 = .ok (.return_, 1) := by decide +kernel
theorem dX9_seeWhole_44 : decode cX9_seeWhole 44 = .ok (.aload_n 3, 1) := by decide +kernel
theorem dX9_seeWhole_45 : decode cX9_seeWhole 45 = .ok (.invokevirtual 58, 3) := by decide +kernel
theorem dX9_seeWhole_48 : decode cX9_seeWhole 48 = .ok (.istore 4, 2) := by decide +kernel
theorem dX9_seeWhole_50 : decode cX9_seeWhole 50 = .ok (.iload_n 1, 1) := by decide +kernel
theorem dX9_seeWhole_51 : decode cX9_seeWhole 51 = .ok (.aload_n 0, 1) := by decide +kernel
theorem dX9_seeWhole_52 : decode cX9_seeWhole 52 = .ok (.getfield 17, 3) := by decide +kernel
theorem dX9_seeWhole_55 : decode cX9_seeWhole 55 = .ok (.arraylength, 1) := by decide +kernel
theorem dX9_seeWhole_56 : decode cX9_seeWhole 56 = .ok (.if_icmp .ge 49, 3) := by decide +kernel
theorem dX9_seeWhole_59 : decode cX9_seeWhole 59 = .ok (.iload 4, 2) := by decide +kernel
theorem dX9_seeWhole_61 : decode cX9_seeWhole 61 = .ok (.aload_n 0, 1) := by decide +kernel
theorem dX9_seeWhole_62 : decode cX9_seeWhole 62 = .ok (.getfield 21, 3) := by decide +kernel
theorem dX9_seeWhole_65 : decode cX9_seeWhole 65 = .ok (.arraylength, 1) := by decide +kernel
theorem dX9_seeWhole_66 : decode cX9_seeWhole 66 = .ok (.if_icmp .ge 39, 3) := by decide +kernel
theorem dX9_seeWhole_69 : decode cX9_seeWhole 69 = .ok (.aload_n 0, 1) := by decide +kernel
theorem dX9_seeWhole_70 : decode cX9_seeWhole 70 = .ok (.getfield 21, 3) := by decide +kernel
theorem dX9_seeWhole_73 : decode cX9_seeWhole 73 = .ok (.iload 4, 2) := by decide +kernel
theorem dX9_seeWhole_75 : decode cX9_seeWhole 75 = .ok (.iaload, 1) := by decide +kernel
theorem dX9_seeWhole_76 : decode cX9_seeWhole 76 = .ok (.ifCond .ge 29, 3) := by decide +kernel
theorem dX9_seeWhole_79 : decode cX9_seeWhole 79 = .ok (.aload_n 0, 1) := by decide +kernel
theorem dX9_seeWhole_80 : decode cX9_seeWhole 80 = .ok (.getfield 21, 3) := by decide +kernel
theorem dX9_seeWhole_83 : decode cX9_seeWhole 83 = .ok (.iload 4, 2) := by decide +kernel
theorem dX9_seeWhole_85 : decode cX9_seeWhole 85 = .ok (.iload_n 1, 1) := by decide +kernel
theorem dX9_seeWhole_86 : decode cX9_seeWhole 86 = .ok (.iastore, 1) := by decide +kernel
theorem dX9_seeWhole_87 : decode cX9_seeWhole 87 = .ok (.aload_n 0, 1) := by decide +kernel
theorem dX9_seeWhole_88 : decode cX9_seeWhole 88 = .ok (.getfield 17, 3) := by decide +kernel
theorem dX9_seeWhole_91 : decode cX9_seeWhole 91 = .ok (.iload_n 1, 1) := by decide +kernel
theorem dX9_seeWhole_92 : decode cX9_seeWhole 92 = .ok (.iload 4, 2) := by decide +kernel
theorem dX9_seeWhole_94 : decode cX9_seeWhole 94 = .ok (.iastore, 1) := by decide +kernel
theorem dX9_seeWhole_95 : decode cX9_seeWhole 95 = .ok (.aload_n 0, 1) := by decide +kernel
theorem dX9_seeWhole_96 : decode cX9_seeWhole 96 = .ok (.dup, 1) := by decide +kernel
theorem dX9_seeWhole_97 : decode cX9_seeWhole 97 = .ok (.getfield 43, 3) := by decide +kernel
theorem dX9_seeWhole_100 : decode cX9_seeWhole 100 = .ok (.iconst 1, 1) := by decide +kernel
theorem dX9_seeWhole_101 : decode cX9_seeWhole 101 = .ok (.iadd, 1) := by decide +kernel
theorem dX9_seeWhole_102 : decode cX9_seeWhole 102 = .ok (.putfield 43, 3) := by decide +kernel
theorem dX9_seeWhole_105 : decode cX9_seeWhole 105 = .ok (.return_, 1) := by decide +kernel
theorem dX9_memberNumber_0 : decode cX9_memberNumber 0 = .ok (.iload_n 1, 1) := by decide +kernel
theorem dX9_memberNumber_1 : decode cX9_memberNumber 1 = .ok (.ifCond .lt 21, 3) := by decide +kernel
theorem dX9_memberNumber_4 : decode cX9_memberNumber 4 = .ok (.iload_n 1, 1) := by decide +kernel
theorem dX9_memberNumber_5 : decode cX9_memberNumber 5 = .ok (.aload_n 0, 1) := by decide +kernel
theorem dX9_memberNumber_6 : decode cX9_memberNumber 6 = .ok (.getfield 17, 3) := by decide +kernel
theorem dX9_memberNumber_9 : decode cX9_memberNumber 9 = .ok (.arraylength, 1) := by decide +kernel
theorem dX9_memberNumber_10 : decode cX9_memberNumber 10 = .ok (.if_icmp .ge 12, 3) := by decide +kernel
theorem dX9_memberNumber_13 : decode cX9_memberNumber 13 = .ok (.aload_n 0, 1) := by decide +kernel
theorem dX9_memberNumber_14 : decode cX9_memberNumber 14 = .ok (.getfield 17, 3) := by decide +kernel
theorem dX9_memberNumber_17 : decode cX9_memberNumber 17 = .ok (.iload_n 1, 1) := by decide +kernel
theorem dX9_memberNumber_18 : decode cX9_memberNumber 18 = .ok (.iaload, 1) := by decide +kernel
theorem dX9_memberNumber_19 : decode cX9_memberNumber 19 = .ok (.goto 4, 3) := by decide +kernel
theorem dX9_memberNumber_22 : decode cX9_memberNumber 22 = .ok (.iconst (-1), 1) := by decide +kernel
theorem dX9_memberNumber_23 : decode cX9_memberNumber 23 = .ok (.ireturn, 1) := by decide +kernel
set_option maxRecDepth 20000 in
theorem ggX9_memberWith_X9_at : GoodIn wsX9_memberWith wsX9_at := goodIn_r _ [6, 7, 8, 9, 10, 11, 12, 13, 14] (by decide +kernel) (by decide +kernel)
set_option maxRecDepth 20000 in
theorem gX9_memberWith_X9_at : GoodIn wsX9_memberWith (wsV RX9 35 RX9 yX9_at wsX9_at) := goodIn_app (goodIn_of _ (by decide +kernel)) ggX9_memberWith_X9_at
theorem dX9_memberWith_0 : decode cX9_memberWith 0 = .ok (.iload_n 1, 1) := by decide +kernel
theorem dX9_memberWith_1 : decode cX9_memberWith 1 = .ok (.ifCond .lt 25, 3) := by decide +kernel
theorem dX9_memberWith_4 : decode cX9_memberWith 4 = .ok (.iload_n 1, 1) := by decide +kernel
theorem dX9_memberWith_5 : decode cX9_memberWith 5 = .ok (.aload_n 0, 1) := by decide +kernel
theorem dX9_memberWith_6 : decode cX9_memberWith 6 = .ok (.getfield 21, 3) := by decide +kernel
theorem dX9_memberWith_9 : decode cX9_memberWith 9 = .ok (.arraylength, 1) := by decide +kernel
theorem dX9_memberWith_10 : decode cX9_memberWith 10 = .ok (.if_icmp .ge 16, 3) := by decide +kernel
theorem dX9_memberWith_13 : decode cX9_memberWith 13 = .ok (.aload_n 0, 1) := by decide +kernel
theorem dX9_memberWith_14 : decode cX9_memberWith 14 = .ok (.aload_n 0, 1) := by decide +kernel
theorem dX9_memberWith_15 : decode cX9_memberWith 15 = .ok (.getfield 21, 3) := by decide +kernel
theorem dX9_memberWith_18 : decode cX9_memberWith 18 = .ok (.iload_n 1, 1) := by decide +kernel
theorem dX9_memberWith_19 : decode cX9_memberWith 19 = .ok (.iaload, 1) := by decide +kernel
theorem dX9_memberWith_20 : decode cX9_memberWith 20 = .ok (.invokevirtual 35, 3) := by decide +kernel
theorem dX9_memberWith_23 : decode cX9_memberWith 23 = .ok (.goto 4, 3) := by decide +kernel
theorem dX9_memberWith_26 : decode cX9_memberWith 26 = .ok (.aconst_null, 1) := by decide +kernel
theorem dX9_memberWith_27 : decode cX9_memberWith 27 = .ok (.areturn, 1) := by decide +kernel
set_option maxRecDepth 20000 in
theorem ggX9_surplus_X9_at : GoodIn wsX9_surplus wsX9_at := goodIn_r _ [11, 12, 26, 27, 28, 29, 30, 31, 32] (by decide +kernel) (by decide +kernel)
set_option maxRecDepth 20000 in
theorem gX9_surplus_X9_at : GoodIn wsX9_surplus (wsV RX9 35 RX9 yX9_at wsX9_at) := goodIn_app (goodIn_of _ (by decide +kernel)) ggX9_surplus_X9_at
set_option maxRecDepth 20000 in
theorem ggX9_surplus_X10_dataTold : GoodIn wsX9_surplus wsX10_dataTold := goodIn_r _ [17, 18, 19, 20, 21, 22, 23, 24, 25, 33, 34, 35, 36, 37, 38] (by decide +kernel) (by decide +kernel)
set_option maxRecDepth 20000 in
theorem gX9_surplus_X10_dataTold : GoodIn wsX9_surplus (wsV RX9 62 RX10 yX10_dataTold wsX10_dataTold) := goodIn_app (goodIn_of _ (by decide +kernel)) ggX9_surplus_X10_dataTold
theorem dX9_surplus_0 : decode cX9_surplus 0 = .ok (.aload_n 0, 1) := by decide +kernel
theorem dX9_surplus_1 : decode cX9_surplus 1 = .ok (.aload_n 0, 1) := by decide +kernel
theorem dX9_surplus_2 : decode cX9_surplus 2 = .ok (.getfield 39, 3) := by decide +kernel
theorem dX9_surplus_5 : decode cX9_surplus 5 = .ok (.invokevirtual 35, 3) := by decide +kernel
theorem dX9_surplus_8 : decode cX9_surplus 8 = .ok (.astore_n 1, 1) := by decide +kernel
theorem dX9_surplus_9 : decode cX9_surplus 9 = .ok (.aload_n 1, 1) := by decide +kernel
theorem dX9_surplus_10 : decode cX9_surplus 10 = .ok (.ifnonnull 7, 3) := by decide +kernel
theorem dX9_surplus_13 : decode cX9_surplus 13 = .ok (.iconst (-1), 1) := by decide +kernel
theorem dX9_surplus_14 : decode cX9_surplus 14 = .ok (.goto 16, 3) := by decide +kernel
theorem dX9_surplus_17 : decode cX9_surplus 17 = .ok (.iconst (-1), 1) := by decide +kernel
theorem dX9_surplus_18 : decode cX9_surplus 18 = .ok (.aload_n 0, 1) := by decide +kernel
theorem dX9_surplus_19 : decode cX9_surplus 19 = .ok (.getfield 43, 3) := by decide +kernel
theorem dX9_surplus_22 : decode cX9_surplus 22 = .ok (.aload_n 1, 1) := by decide +kernel
theorem dX9_surplus_23 : decode cX9_surplus 23 = .ok (.invokevirtual 62, 3) := by decide +kernel
theorem dX9_surplus_26 : decode cX9_surplus 26 = .ok (.isub, 1) := by decide +kernel
theorem dX9_surplus_27 : decode cX9_surplus 27 = .ok (.invokestatic 65, 3) := by decide +kernel
theorem dX9_surplus_30 : decode cX9_surplus 30 = .ok (.ireturn, 1) := by decide +kernel
set_option maxRecDepth 20000 in
theorem ggX9_fillWith_X9_form : GoodIn wsX9_fillWith wsX9_form := goodIn_r _ [7, 8, 9, 10, 11, 12, 13, 14, 15, 16, 17, 18, 19, 20, 21, 22, 23, 24, 25, 26, 27, 28, 29, 30, 31, 32, 33, 34, 35, 36, 37, 38, 39, 40, 41, 42, 43, 44, 45, 46, 47, 48, 49, 50, 51, 52, 53, 54, 55, 56, 57, 58, 59, 60, 61, 62, 63, 64, 65, 66, 67, 68, 69, 70, 71, 72, 73, 74, 75, 76, 77, 78, 79, 80, 81, 82, 83, 84, 85, 86, 87, 88, 89, 90, 91, 92, 93, 94, 95, 96, 97, 98, 99, 100, 101, 102, 117, 118, 119, 120, 121, 122, 123, 124, 125, 126, 127, 128, 129, 130, 131, 132] (by decide +kernel) (by decide +kernel)
set_option maxRecDepth 20000 in
theorem gX9_fillWith_X9_form : GoodIn wsX9_fillWith (wsV RX9 74 RX9 yX9_form wsX9_form) := goodIn_app (goodIn_of _ (by decide +kernel)) ggX9_fillWith_X9_form
set_option maxRecDepth 20000 in
theorem ggX9_fillWith_X10_vanish : GoodIn wsX9_fillWith wsX10_vanish := goodIn_r _ [106, 20, 22, 21, 26, 27, 28, 12, 29, 14, 124, 125, 126, 127, 128, 129] (by decide +kernel) (by decide +kernel)
set_option maxRecDepth 20000 in
theorem gX9_fillWith_X10_vanish : GoodIn wsX9_fillWith (wsV RX9 78 RX10 yX10_vanish wsX10_vanish) := goodIn_app (goodIn_of _ (by decide +kernel)) ggX9_fillWith_X10_vanish
set_option maxRecDepth 20000 in
theorem ggX9_fillWith_X10_sameAs : GoodIn wsX9_fillWith wsX10_sameAs := goodIn_r _ [110, 20, 22, 111, 112, 113, 12, 114, 14, 115, 10, 11, 13, 116, 68, 69, 70, 34, 124, 125, 126, 127, 128, 129] (by decide +kernel) (by decide +kernel)
set_option maxRecDepth 20000 in
theorem gX9_fillWith_X10_sameAs : GoodIn wsX9_fillWith (wsV RX9 81 RX10 yX10_sameAs wsX10_sameAs) := goodIn_app (goodIn_of _ (by decide +kernel)) ggX9_fillWith_X10_sameAs
theorem dX9_fillWith_0 : decode cX9_fillWith 0 = .ok (.iconst 0, 1) := by decide +kernel
theorem dX9_fillWith_1 : decode cX9_fillWith 1 = .ok (.istore 4, 2) := by decide +kernel
theorem dX9_fillWith_3 : decode cX9_fillWith 3 = .ok (.iconst 0, 1) := by decide +kernel
theorem dX9_fillWith_4 : decode cX9_fillWith 4 = .ok (.istore 5, 2) := by decide +kernel
theorem dX9_fillWith_6 : decode cX9_fillWith 6 = .ok (.iload 5, 2) := by decide +kernel
theorem dX9_fillWith_8 : decode cX9_fillWith 8 = .ok (.aload_n 0, 1) := by decide +kernel
theorem dX9_fillWith_9 : decode cX9_fillWith 9 = .ok (.getfield 11, 3) := by decide +kernel
theorem dX9_fillWith_12 : decode cX9_fillWith 12 = .ok (.arraylength, 1) := by decide +kernel
theorem dX9_fillWith_13 : decode cX9_fillWith 13 = .ok (.if_icmp .ge 88, 3) := by decide +kernel
theorem dX9_fillWith_16 : decode cX9_fillWith 16 = .ok (.iload 5, 2) := by decide +kernel
theorem dX9_fillWith_18 : decode cX9_fillWith 18 = .ok (.iload_n 2, 1) := by decide +kernel
theorem dX9_fillWith_19 : decode cX9_fillWith 19 = .ok (.iload_n 3, 1) := by decide +kernel
theorem dX9_fillWith_20 : decode cX9_fillWith 20 = .ok (.iadd, 1) := by decide +kernel
theorem dX9_fillWith_21 : decode cX9_fillWith 21 = .ok (.if_icmp .ge 19, 3) := by decide +kernel
theorem dX9_fillWith_24 : decode cX9_fillWith 24 = .ok (.aload_n 0, 1) := by decide +kernel
theorem dX9_fillWith_25 : decode cX9_fillWith 25 = .ok (.aload_n 0, 1) := by decide +kernel
theorem dX9_fillWith_26 : decode cX9_fillWith 26 = .ok (.getfield 31, 3) := by decide +kernel
theorem dX9_fillWith_29 : decode cX9_fillWith 29 = .ok (.iload 5, 2) := by decide +kernel
theorem dX9_fillWith_31 : decode cX9_fillWith 31 = .ok (.iload_n 2, 1) := by decide +kernel
theorem dX9_fillWith_32 : decode cX9_fillWith 32 = .ok (.iload_n 3, 1) := by decide +kernel
theorem dX9_fillWith_33 : decode cX9_fillWith 33 = .ok (.aload_n 1, 1) := by decide +kernel
theorem dX9_fillWith_34 : decode cX9_fillWith 34 = .ok (.invokevirtual 74, 3) := by decide +kernel
theorem dX9_fillWith_37 : decode cX9_fillWith 37 = .ok (.goto 10, 3) := by decide +kernel
theorem dX9_fillWith_40 : decode cX9_fillWith 40 = .ok (.aload_n 0, 1) := by decide +kernel
theorem dX9_fillWith_41 : decode cX9_fillWith 41 = .ok (.getfield 31, 3) := by decide +kernel
theorem dX9_fillWith_44 : decode cX9_fillWith 44 = .ok (.invokevirtual 78, 3) := by decide +kernel
theorem dX9_fillWith_47 : decode cX9_fillWith 47 = .ok (.aload_n 0, 1) := by decide +kernel
theorem dX9_fillWith_48 : decode cX9_fillWith 48 = .ok (.getfield 11, 3) := by decide +kernel
theorem dX9_fillWith_51 : decode cX9_fillWith 51 = .ok (.iload 5, 2) := by decide +kernel
theorem dX9_fillWith_53 : decode cX9_fillWith 53 = .ok (.aaload, 1) := by decide +kernel
theorem dX9_fillWith_54 : decode cX9_fillWith 54 = .ok (.astore 6, 2) := by decide +kernel
theorem dX9_fillWith_56 : decode cX9_fillWith 56 = .ok (.iload 4, 2) := by decide +kernel
theorem dX9_fillWith_58 : decode cX9_fillWith 58 = .ok (.aload 6, 2) := by decide +kernel
theorem dX9_fillWith_60 : decode cX9_fillWith 60 = .ok (.aload_n 0, 1) := by decide +kernel
theorem dX9_fillWith_61 : decode cX9_fillWith 61 = .ok (.getfield 31, 3) := by decide +kernel
theorem dX9_fillWith_64 : decode cX9_fillWith 64 = .ok (.invokevirtual 81, 3) := by decide +kernel
theorem dX9_fillWith_67 : decode cX9_fillWith 67 = .ok (.ifCond .eq 7, 3) := by decide +kernel
theorem dX9_fillWith_70 : decode cX9_fillWith 70 = .ok (.iconst 0, 1) := by decide +kernel
theorem dX9_fillWith_71 : decode cX9_fillWith 71 = .ok (.goto 4, 3) := by decide +kernel
theorem dX9_fillWith_74 : decode cX9_fillWith 74 = .ok (.iconst 1, 1) := by decide +kernel
theorem dX9_fillWith_75 : decode cX9_fillWith 75 = .ok (.iadd, 1) := by decide +kernel
theorem dX9_fillWith_76 : decode cX9_fillWith 76 = .ok (.istore 4, 2) := by decide +kernel
theorem dX9_fillWith_78 : decode cX9_fillWith 78 = .ok (.aload_n 0, 1) := by decide +kernel
theorem dX9_fillWith_79 : decode cX9_fillWith 79 = .ok (.getfield 11, 3) := by decide +kernel
theorem dX9_fillWith_82 : decode cX9_fillWith 82 = .ok (.iload 5, 2) := by decide +kernel
theorem dX9_fillWith_84 : decode cX9_fillWith 84 = .ok (.aload_n 0, 1) := by decide +kernel
theorem dX9_fillWith_85 : decode cX9_fillWith 85 = .ok (.getfield 31, 3) := by decide +kernel
theorem dX9_fillWith_88 : decode cX9_fillWith 88 = .ok (.aastore, 1) := by decide +kernel
theorem dX9_fillWith_89 : decode cX9_fillWith 89 = .ok (.aload_n 0, 1) := by decide +kernel
theorem dX9_fillWith_90 : decode cX9_fillWith 90 = .ok (.aload 6, 2) := by decide +kernel
theorem dX9_fillWith_92 : decode cX9_fillWith 92 = .ok (.putfield 31, 3) := by decide +kernel
theorem dX9_fillWith_95 : decode cX9_fillWith 95 = .ok (.iinc 5 1, 3) := by decide +kernel
theorem dX9_fillWith_98 : decode cX9_fillWith 98 = .ok (.goto (-92), 3) := by decide +kernel
theorem dX9_fillWith_101 : decode cX9_fillWith 101 = .ok (.iload 4, 2) := by decide +kernel
theorem dX9_fillWith_103 : decode cX9_fillWith 103 = .ok (.ireturn, 1) := by decide +kernel
set_option maxRecDepth 20000 in
theorem ggX9_form_X0_size : GoodIn wsX9_form wsX0_size := goodIn_r _ [6, 7, 107, 108] (by decide +kernel) (by decide +kernel)
set_option maxRecDepth 20000 in
theorem gX9_form_X0_size : GoodIn wsX9_form (wsV RX9 84 RX0 yX0_size wsX0_size) := goodIn_app (goodIn_of _ (by decide +kernel)) ggX9_form_X0_size
set_option maxRecDepth 20000 in
theorem ggX9_form_X10_begin : GoodIn wsX9_form wsX10_begin := goodIn_r _ [12, 13, 14, 15, 16, 17, 18, 19, 20, 21, 5, 22, 7, 23, 24, 25, 26, 27, 28, 29, 30, 31, 32, 33, 34, 35, 36, 103, 104, 105, 106, 107, 108] (by decide +kernel) (by decide +kernel)
set_option maxRecDepth 20000 in
theorem gX9_form_X10_begin : GoodIn wsX9_form (wsV RX9 87 RX10 yX10_begin wsX10_begin) := goodIn_app (goodIn_of _ (by decide +kernel)) ggX9_form_X10_begin
set_option maxRecDepth 20000 in
theorem ggX9_form_X11_bodySize : GoodIn wsX9_form wsX11_bodySize := goodIn_r _ [18] (by decide +kernel) (by decide +kernel)
set_option maxRecDepth 20000 in
theorem gX9_form_X11_bodySize_n91 : GoodIn wsX9_form (wsX11_bodySize) := ggX9_form_X11_bodySize
set_option maxRecDepth 20000 in
theorem ggX9_form_X4_weight : GoodIn wsX9_form wsX4_weight := goodIn_r _ [41, 42, 43, 44, 40, 45, 46, 47, 48, 49, 50, 51, 52, 53, 54, 55, 109, 110] (by decide +kernel) (by decide +kernel)
set_option maxRecDepth 20000 in
theorem gX9_form_X4_weight : GoodIn wsX9_form (wsV RX9 94 RX4 yX4_weight wsX4_weight) := goodIn_app (goodIn_of _ (by decide +kernel)) ggX9_form_X4_weight
set_option maxRecDepth 20000 in
theorem ggX9_form_X4_addProducts : GoodIn wsX9_form wsX4_addProducts := goodIn_r _ [59, 60, 61, 62, 5, 63, 7, 27, 64, 65, 66, 40, 67, 50, 51, 52, 53, 54, 55, 68, 69, 70, 71, 107, 108, 109, 110] (by decide +kernel) (by decide +kernel)
set_option maxRecDepth 20000 in
theorem gX9_form_X4_addProducts : GoodIn wsX9_form (wsV RX9 104 RX4 yX4_addProducts wsX4_addProducts) := goodIn_app (goodIn_of _ (by decide +kernel)) ggX9_form_X4_addProducts
set_option maxRecDepth 20000 in
theorem ggX9_form_X10_seal : GoodIn wsX9_form wsX10_seal := goodIn_r _ [75, 14, 15, 76, 77, 78, 11, 79, 80, 81, 82, 83, 84, 85, 86, 87, 88, 89, 61, 62, 5, 63, 7, 27, 90, 3, 4, 6, 91, 92, 93, 94, 95, 69, 70, 71, 103, 104, 105, 106, 111, 107, 108] (by decide +kernel) (by decide +kernel)
set_option maxRecDepth 20000 in
theorem gX9_form_X10_seal : GoodIn wsX9_form (wsV RX9 108 RX10 yX10_seal wsX10_seal) := goodIn_app (goodIn_of _ (by decide +kernel)) ggX9_form_X10_seal
theorem dX9_form_0 : decode cX9_form 0 = .ok (.aload_n 1, 1) := by decide +kernel
theorem dX9_form_1 : decode cX9_form 1 = .ok (.iload_n 2, 1) := by decide +kernel
theorem dX9_form_2 : decode cX9_form 2 = .ok (.iload_n 3, 1) := by decide +kernel
theorem dX9_form_3 : decode cX9_form 3 = .ok (.iload 4, 2) := by decide +kernel
theorem dX9_form_5 : decode cX9_form 5 = .ok (.aload 5, 2) := by decide +kernel
theorem dX9_form_7 : decode cX9_form 7 = .ok (.invokevirtual 84, 3) := by decide +kernel
theorem dX9_form_10 : decode cX9_form 10 = .ok (.invokevirtual 87, 3) := by decide +kernel
theorem dX9_form_13 : decode cX9_form 13 = .ok (.aload 5, 2) := by decide +kernel
theorem dX9_form_15 : decode cX9_form 15 = .ok (.invokevirtual 84, 3) := by decide +kernel
theorem dX9_form_18 : decode cX9_form 18 = .ok (.iload_n 3, 1) := by decide +kernel
theorem dX9_form_19 : decode cX9_form 19 = .ok (.invokestatic 91, 3) := by decide +kernel
theorem dX9_form_22 : decode cX9_form 22 = .ok (.istore 6, 2) := by decide +kernel
theorem dX9_form_24 : decode cX9_form 24 = .ok (.iconst 0, 1) := by decide +kernel
theorem dX9_form_25 : decode cX9_form 25 = .ok (.istore 7, 2) := by decide +kernel
theorem dX9_form_27 : decode cX9_form 27 = .ok (.iload 7, 2) := by decide +kernel
theorem dX9_form_29 : decode cX9_form 29 = .ok (.iload_n 3, 1) := by decide +kernel
theorem dX9_form_30 : decode cX9_form 30 = .ok (.if_icmp .ge 46, 3) := by decide +kernel
theorem dX9_form_33 : decode cX9_form 33 = .ok (.aload_n 0, 1) := by decide +kernel
theorem dX9_form_34 : decode cX9_form 34 = .ok (.getfield 24, 3) := by decide +kernel
theorem dX9_form_37 : decode cX9_form 37 = .ok (.iload_n 2, 1) := by decide +kernel
theorem dX9_form_38 : decode cX9_form 38 = .ok (.iload 7, 2) := by decide +kernel
theorem dX9_form_40 : decode cX9_form 40 = .ok (.iload_n 3, 1) := by decide +kernel
theorem dX9_form_41 : decode cX9_form 41 = .ok (.invokevirtual 94, 3) := by decide +kernel
theorem dX9_form_44 : decode cX9_form 44 = .ok (.istore 8, 2) := by decide +kernel
theorem dX9_form_46 : decode cX9_form 46 = .ok (.aload_n 0, 1) := by decide +kernel
theorem dX9_form_47 : decode cX9_form 47 = .ok (.getfield 24, 3) := by decide +kernel
theorem dX9_form_50 : decode cX9_form 50 = .ok (.aload_n 1, 1) := by decide +kernel
theorem dX9_form_51 : decode cX9_form 51 = .ok (.getfield 100, 3) := by decide +kernel
theorem dX9_form_54 : decode cX9_form 54 = .ok (.bipush 10, 2) := by decide +kernel
theorem dX9_form_56 : decode cX9_form 56 = .ok (.iload 8, 2) := by decide +kernel
theorem dX9_form_58 : decode cX9_form 58 = .ok (.aload 5, 2) := by decide +kernel
theorem dX9_form_60 : decode cX9_form 60 = .ok (.iload 7, 2) := by decide +kernel
theorem dX9_form_62 : decode cX9_form 62 = .ok (.iload 6, 2) := by decide +kernel
theorem dX9_form_64 : decode cX9_form 64 = .ok (.imul, 1) := by decide +kernel
theorem dX9_form_65 : decode cX9_form 65 = .ok (.iload 6, 2) := by decide +kernel
theorem dX9_form_67 : decode cX9_form 67 = .ok (.invokevirtual 104, 3) := by decide +kernel
theorem dX9_form_70 : decode cX9_form 70 = .ok (.iinc 7 1, 3) := by decide +kernel
theorem dX9_form_73 : decode cX9_form 73 = .ok (.goto (-46), 3) := by decide +kernel
theorem dX9_form_76 : decode cX9_form 76 = .ok (.aload_n 1, 1) := by decide +kernel
theorem dX9_form_77 : decode cX9_form 77 = .ok (.invokevirtual 108, 3) := by decide +kernel
theorem dX9_form_80 : decode cX9_form 80 = .ok (.pop, 1) := by decide +kernel
theorem dX9_form_81 : decode cX9_form 81 = .ok (.return_, 1) := by decide +kernel
