set_option maxRecDepth 20000 in
theorem ggX10_init_X0_init : GoodIn wsX10_init wsX0_init := goodIn_r _ [11, 12, 2, 3, 13, 14, 15, 16] (by decide +kernel) (by decide +kernel)
set_option maxRecDepth 20000 in
theorem gX10_init_X0_init : GoodIn wsX10_init (wsX0_init) := ggX10_init_X0_init
theorem dX10_init_0 : decode cX10_init 0 = .ok (.aload_n 0, 1) := by decide +kernel
theorem dX10_init_1 : decode cX10_init 1 = .ok (.invokespecial 3, 3) := by decide +kernel
theorem dX10_init_4 : decode cX10_init 4 = .ok (.aload_n 0, 1) := by decide +kernel
theorem dX10_init_5 : decode cX10_init 5 = .ok (.new 9, 3) := by decide +kernel
theorem dX10_init_8 : decode cX10_init 8 = .ok (.dup, 1) := by decide +kernel
theorem dX10_init_9 : decode cX10_init 9 = .ok (.sipush 4080, 3) := by decide +kernel
theorem dX10_init_12 : decode cX10_init 12 = .ok (.invokespecial 11, 3) := by decide +kernel
theorem dX10_init_15 : decode cX10_init 15 = .ok (.putfield 14, 3) := by decide +kernel
theorem dX10_init_18 : decode cX10_init 18 = .ok (.aload_n 0, 1) := by decide +kernel
theorem dX10_init_19 : decode cX10_init 19 = .ok (.aload_n 1, 1) := by decide +kernel
theorem dX10_init_20 : decode cX10_init 20 = .ok (.putfield 20, 3) := by decide +kernel
theorem dX10_init_23 : decode cX10_init 23 = .ok (.return_, 1) := by decide +kernel
theorem dX10_isHere_0 : decode cX10_isHere 0 = .ok (.aload_n 0, 1) := by decide +kernel
theorem dX10_isHere_1 : decode cX10_isHere 1 = .ok (.getfield 24, 3) := by decide +kernel
theorem dX10_isHere_4 : decode cX10_isHere 4 = .ok (.ireturn, 1) := by decide +kernel
set_option maxRecDepth 20000 in
theorem ggX10_size_X0_size : GoodIn wsX10_size wsX0_size := goodIn_r _ [7, 8, 13, 14] (by decide +kernel) (by decide +kernel)
set_option maxRecDepth 20000 in
theorem gX10_size_X0_size : GoodIn wsX10_size (wsV RX10 28 RX0 yX0_size wsX0_size) := goodIn_app (goodIn_of _ (by decide +kernel)) ggX10_size_X0_size
theorem dX10_size_0 : decode cX10_size 0 = .ok (.aload_n 0, 1) := by decide +kernel
theorem dX10_size_1 : decode cX10_size 1 = .ok (.getfield 24, 3) := by decide +kernel
theorem dX10_size_4 : decode cX10_size 4 = .ok (.ifCond .eq 13, 3) := by decide +kernel
theorem dX10_size_7 : decode cX10_size 7 = .ok (.aload_n 0, 1) := by decide +kernel
theorem dX10_size_8 : decode cX10_size 8 = .ok (.getfield 14, 3) := by decide +kernel
theorem dX10_size_11 : decode cX10_size 11 = .ok (.invokevirtual 28, 3) := by decide +kernel
theorem dX10_size_14 : decode cX10_size 14 = .ok (.goto 4, 3) := by decide +kernel
theorem dX10_size_17 : decode cX10_size 17 = .ok (.iconst (-1), 1) := by decide +kernel
theorem dX10_size_18 : decode cX10_size 18 = .ok (.ireturn, 1) := by decide +kernel
set_option maxRecDepth 20000 in
theorem ggX10_number_X0_at : GoodIn wsX10_number wsX0_at := goodIn_r _ [6, 7, 8, 13, 14] (by decide +kernel) (by decide +kernel)
set_option maxRecDepth 20000 in
theorem gX10_number_X0_at : GoodIn wsX10_number (wsV RX10 32 RX0 yX0_at wsX0_at) := goodIn_app (goodIn_of _ (by decide +kernel)) ggX10_number_X0_at
theorem dX10_number_0 : decode cX10_number 0 = .ok (.aload_n 0, 1) := by decide +kernel
theorem dX10_number_1 : decode cX10_number 1 = .ok (.getfield 14, 3) := by decide +kernel
theorem dX10_number_4 : decode cX10_number 4 = .ok (.iconst 1, 1) := by decide +kernel
theorem dX10_number_5 : decode cX10_number 5 = .ok (.invokevirtual 32, 3) := by decide +kernel
theorem dX10_number_8 : decode cX10_number 8 = .ok (.ireturn, 1) := by decide +kernel
set_option maxRecDepth 20000 in
theorem ggX10_dataTold_X0_at : GoodIn wsX10_dataTold wsX0_at := goodIn_r _ [6, 7, 8, 13, 14] (by decide +kernel) (by decide +kernel)
set_option maxRecDepth 20000 in
theorem gX10_dataTold_X0_at : GoodIn wsX10_dataTold (wsV RX10 32 RX0 yX0_at wsX0_at) := goodIn_app (goodIn_of _ (by decide +kernel)) ggX10_dataTold_X0_at
theorem dX10_dataTold_0 : decode cX10_dataTold 0 = .ok (.aload_n 0, 1) := by decide +kernel
theorem dX10_dataTold_1 : decode cX10_dataTold 1 = .ok (.getfield 14, 3) := by decide +kernel
theorem dX10_dataTold_4 : decode cX10_dataTold 4 = .ok (.iconst 2, 1) := by decide +kernel
theorem dX10_dataTold_5 : decode cX10_dataTold 5 = .ok (.invokevirtual 32, 3) := by decide +kernel
theorem dX10_dataTold_8 : decode cX10_dataTold 8 = .ok (.ireturn, 1) := by decide +kernel
set_option maxRecDepth 20000 in
theorem ggX10_parityTold_X0_at : GoodIn wsX10_parityTold wsX0_at := goodIn_r _ [6, 7, 8, 13, 14] (by decide +kernel) (by decide +kernel)
set_option maxRecDepth 20000 in
theorem gX10_parityTold_X0_at : GoodIn wsX10_parityTold (wsV RX10 32 RX0 yX0_at wsX0_at) := goodIn_app (goodIn_of _ (by decide +kernel)) ggX10_parityTold_X0_at
theorem dX10_parityTold_0 : decode cX10_parityTold 0 = .ok (.aload_n 0, 1) := by decide +kernel
theorem dX10_parityTold_1 : decode cX10_parityTold 1 = .ok (.getfield 14, 3) := by decide +kernel
theorem dX10_parityTold_4 : decode cX10_parityTold 4 = .ok (.iconst 3, 1) := by decide +kernel
theorem dX10_parityTold_5 : decode cX10_parityTold 5 = .ok (.invokevirtual 32, 3) := by decide +kernel
theorem dX10_parityTold_8 : decode cX10_parityTold 8 = .ok (.ireturn, 1) := by decide +kernel
set_option maxRecDepth 20000 in
theorem ggX10_bodyTold_X0_word : GoodIn wsX10_bodyTold wsX0_word := goodIn_r _ [6, 7, 8, 9, 5, 10, 11, 12, 17, 18] (by decide +kernel) (by decide +kernel)
set_option maxRecDepth 20000 in
theorem gX10_bodyTold_X0_word : GoodIn wsX10_bodyTold (wsV RX10 36 RX0 yX0_word wsX0_word) := goodIn_app (goodIn_of _ (by decide +kernel)) ggX10_bodyTold_X0_word
theorem dX10_bodyTold_0 : decode cX10_bodyTold 0 = .ok (.aload_n 0, 1) := by decide +kernel
theorem dX10_bodyTold_1 : decode cX10_bodyTold 1 = .ok (.getfield 14, 3) := by decide +kernel
theorem dX10_bodyTold_4 : decode cX10_bodyTold 4 = .ok (.iconst 4, 1) := by decide +kernel
theorem dX10_bodyTold_5 : decode cX10_bodyTold 5 = .ok (.invokevirtual 36, 3) := by decide +kernel
theorem dX10_bodyTold_8 : decode cX10_bodyTold 8 = .ok (.ireturn, 1) := by decide +kernel
set_option maxRecDepth 20000 in
theorem ggX10_streamTold_X0_word : GoodIn wsX10_streamTold wsX0_word := goodIn_r _ [6, 7, 8, 9, 5, 10, 11, 12, 17, 18] (by decide +kernel) (by decide +kernel)
set_option maxRecDepth 20000 in
theorem gX10_streamTold_X0_word : GoodIn wsX10_streamTold (wsV RX10 36 RX0 yX0_word wsX0_word) := goodIn_app (goodIn_of _ (by decide +kernel)) ggX10_streamTold_X0_word
theorem dX10_streamTold_0 : decode cX10_streamTold 0 = .ok (.aload_n 0, 1) := by decide +kernel
theorem dX10_streamTold_1 : decode cX10_streamTold 1 = .ok (.getfield 14, 3) := by decide +kernel
theorem dX10_streamTold_4 : decode cX10_streamTold 4 = .ok (.bipush 6, 2) := by decide +kernel
theorem dX10_streamTold_6 : decode cX10_streamTold 6 = .ok (.invokevirtual 36, 3) := by decide +kernel
theorem dX10_streamTold_9 : decode cX10_streamTold 9 = .ok (.ireturn, 1) := by decide +kernel
set_option maxRecDepth 20000 in
theorem ggX10_vanish_X0_clear : GoodIn wsX10_vanish wsX0_clear := goodIn_r _ [8, 9, 14, 15] (by decide +kernel) (by decide +kernel)
set_option maxRecDepth 20000 in
theorem gX10_vanish_X0_clear : GoodIn wsX10_vanish (wsV RX10 39 RX0 yX0_clear wsX0_clear) := goodIn_app (goodIn_of _ (by decide +kernel)) ggX10_vanish_X0_clear
theorem dX10_vanish_0 : decode cX10_vanish 0 = .ok (.aload_n 0, 1) := by decide +kernel
theorem dX10_vanish_1 : decode cX10_vanish 1 = .ok (.iconst 0, 1) := by decide +kernel
theorem dX10_vanish_2 : decode cX10_vanish 2 = .ok (.putfield 24, 3) := by decide +kernel
theorem dX10_vanish_5 : decode cX10_vanish 5 = .ok (.aload_n 0, 1) := by decide +kernel
theorem dX10_vanish_6 : decode cX10_vanish 6 = .ok (.getfield 14, 3) := by decide +kernel
theorem dX10_vanish_9 : decode cX10_vanish 9 = .ok (.invokevirtual 39, 3) := by decide +kernel
theorem dX10_vanish_12 : decode cX10_vanish 12 = .ok (.aload_n 0, 1) := by decide +kernel
theorem dX10_vanish_13 : decode cX10_vanish 13 = .ok (.iconst 0, 1) := by decide +kernel
theorem dX10_vanish_14 : decode cX10_vanish 14 = .ok (.putfield 42, 3) := by decide +kernel
theorem dX10_vanish_17 : decode cX10_vanish 17 = .ok (.return_, 1) := by decide +kernel
set_option maxRecDepth 20000 in
theorem ggX10_become_X0_fillFrom : GoodIn wsX10_become wsX0_fillFrom := goodIn_r _ [8, 9, 10, 11, 7, 12, 13, 14, 15, 16, 17, 18, 19, 20, 21, 22, 23, 24, 25, 26, 27, 28, 29, 30, 35, 36] (by decide +kernel) (by decide +kernel)
set_option maxRecDepth 20000 in
theorem gX10_become_X0_fillFrom : GoodIn wsX10_become (wsV RX10 46 RX0 yX0_fillFrom wsX0_fillFrom) := goodIn_app (goodIn_of _ (by decide +kernel)) ggX10_become_X0_fillFrom
theorem dX10_become_0 : decode cX10_become 0 = .ok (.aload_n 0, 1) := by decide +kernel
theorem dX10_become_1 : decode cX10_become 1 = .ok (.aload_n 1, 1) := by decide +kernel
theorem dX10_become_2 : decode cX10_become 2 = .ok (.getfield 24, 3) := by decide +kernel
theorem dX10_become_5 : decode cX10_become 5 = .ok (.putfield 24, 3) := by decide +kernel
theorem dX10_become_8 : decode cX10_become 8 = .ok (.aload_n 0, 1) := by decide +kernel
theorem dX10_become_9 : decode cX10_become 9 = .ok (.getfield 14, 3) := by decide +kernel
theorem dX10_become_12 : decode cX10_become 12 = .ok (.aload_n 1, 1) := by decide +kernel
theorem dX10_become_13 : decode cX10_become 13 = .ok (.getfield 14, 3) := by decide +kernel
theorem dX10_become_16 : decode cX10_become 16 = .ok (.invokevirtual 46, 3) := by decide +kernel
theorem dX10_become_19 : decode cX10_become 19 = .ok (.aload_n 0, 1) := by decide +kernel
theorem dX10_become_20 : decode cX10_become 20 = .ok (.aload_n 1, 1) := by decide +kernel
theorem dX10_become_21 : decode cX10_become 21 = .ok (.getfield 42, 3) := by decide +kernel
theorem dX10_become_24 : decode cX10_become 24 = .ok (.putfield 42, 3) := by decide +kernel
theorem dX10_become_27 : decode cX10_become 27 = .ok (.return_, 1) := by decide +kernel
set_option maxRecDepth 20000 in
theorem ggX10_sameAs_X0_sameAs : GoodIn wsX10_sameAs wsX0_sameAs := goodIn_r _ [7, 8, 9, 10, 11, 6, 12, 13, 14, 15, 16, 17, 22, 23] (by decide +kernel) (by decide +kernel)
set_option maxRecDepth 20000 in
theorem gX10_sameAs_X0_sameAs : GoodIn wsX10_sameAs (wsV RX10 50 RX0 yX0_sameAs wsX0_sameAs) := goodIn_app (goodIn_of _ (by decide +kernel)) ggX10_sameAs_X0_sameAs
theorem dX10_sameAs_0 : decode cX10_sameAs 0 = .ok (.aload_n 0, 1) := by decide +kernel
theorem dX10_sameAs_1 : decode cX10_sameAs 1 = .ok (.getfield 24, 3) := by decide +kernel
theorem dX10_sameAs_4 : decode cX10_sameAs 4 = .ok (.aload_n 1, 1) := by decide +kernel
theorem dX10_sameAs_5 : decode cX10_sameAs 5 = .ok (.getfield 24, 3) := by decide +kernel
theorem dX10_sameAs_8 : decode cX10_sameAs 8 = .ok (.if_icmp .ne 21, 3) := by decide +kernel
theorem dX10_sameAs_11 : decode cX10_sameAs 11 = .ok (.aload_n 0, 1) := by decide +kernel
theorem dX10_sameAs_12 : decode cX10_sameAs 12 = .ok (.getfield 14, 3) := by decide +kernel
theorem dX10_sameAs_15 : decode cX10_sameAs 15 = .ok (.aload_n 1, 1) := by decide +kernel
theorem dX10_sameAs_16 : decode cX10_sameAs 16 = .ok (.getfield 14, 3) := by decide +kernel
theorem dX10_sameAs_19 : decode cX10_sameAs 19 = .ok (.invokevirtual 50, 3) := by decide +kernel
theorem dX10_sameAs_22 : decode cX10_sameAs 22 = .ok (.ifCond .eq 7, 3) := by decide +kernel
theorem dX10_sameAs_25 : decode cX10_sameAs 25 = .ok (.iconst 1, 1) := by decide +kernel
theorem dX10_sameAs_26 : decode cX10_sameAs 26 = .ok (.goto 4, 3) := by decide +kernel
theorem dX10_sameAs_29 : decode cX10_sameAs 29 = .ok (.iconst 0, 1) := by decide +kernel
theorem dX10_sameAs_30 : decode cX10_sameAs 30 = .ok (.ireturn, 1) := by decide +kernel
set_option maxRecDepth 20000 in
theorem ggX10_begin_X11_bodySize : GoodIn wsX10_begin wsX11_bodySize := goodIn_r _ [6] (by decide +kernel) (by decide +kernel)
set_option maxRecDepth 20000 in
theorem gX10_begin_X11_bodySize_n54 : GoodIn wsX10_begin (wsX11_bodySize) := ggX10_begin_X11_bodySize
set_option maxRecDepth 20000 in
theorem ggX10_begin_X0_clear : GoodIn wsX10_begin wsX0_clear := goodIn_r _ [11, 12, 31, 32] (by decide +kernel) (by decide +kernel)
set_option maxRecDepth 20000 in
theorem gX10_begin_X0_clear : GoodIn wsX10_begin (wsV RX10 39 RX0 yX0_clear wsX0_clear) := goodIn_app (goodIn_of _ (by decide +kernel)) ggX10_begin_X0_clear
set_option maxRecDepth 20000 in
theorem ggX10_begin_X0_add : GoodIn wsX10_begin wsX0_add := goodIn_r _ [16, 12, 17, 31, 32] (by decide +kernel) (by decide +kernel)
set_option maxRecDepth 20000 in
theorem gX10_begin_X0_add : GoodIn wsX10_begin (wsV RX10 58 RX0 yX0_add wsX0_add) := goodIn_app (goodIn_of _ (by decide +kernel)) ggX10_begin_X0_add
set_option maxRecDepth 20000 in
theorem ggX10_begin_X0_addWord : GoodIn wsX10_begin wsX0_addWord := goodIn_r _ [21, 22, 14, 15, 10, 16, 12, 17, 31, 32] (by decide +kernel) (by decide +kernel)
set_option maxRecDepth 20000 in
theorem gX10_begin_X0_addWord : GoodIn wsX10_begin (wsV RX10 61 RX0 yX0_addWord wsX0_addWord) := goodIn_app (goodIn_of _ (by decide +kernel)) ggX10_begin_X0_addWord
set_option maxRecDepth 20000 in
theorem ggX10_begin_X0_addTimes : GoodIn wsX10_begin wsX0_addTimes := goodIn_r _ [26, 22, 14, 15, 10, 16, 12, 17, 31, 32] (by decide +kernel) (by decide +kernel)
set_option maxRecDepth 20000 in
theorem gX10_begin_X0_addTimes : GoodIn wsX10_begin (wsV RX10 64 RX0 yX0_addTimes wsX0_addTimes) := goodIn_app (goodIn_of _ (by decide +kernel)) ggX10_begin_X0_addTimes
theorem dX10_begin_0 : decode cX10_begin 0 = .ok (.iload 4, 2) := by decide +kernel
theorem dX10_begin_2 : decode cX10_begin 2 = .ok (.iload_n 2, 1) := by decide +kernel
theorem dX10_begin_3 : decode cX10_begin 3 = .ok (.invokestatic 54, 3) := by decide +kernel
theorem dX10_begin_6 : decode cX10_begin 6 = .ok (.istore 5, 2) := by decide +kernel
theorem dX10_begin_8 : decode cX10_begin 8 = .ok (.aload_n 0, 1) := by decide +kernel
theorem dX10_begin_9 : decode cX10_begin 9 = .ok (.iconst 1, 1) := by decide +kernel
theorem dX10_begin_10 : decode cX10_begin 10 = .ok (.putfield 24, 3) := by decide +kernel
theorem dX10_begin_13 : decode cX10_begin 13 = .ok (.aload_n 0, 1) := by decide +kernel
theorem dX10_begin_14 : decode cX10_begin 14 = .ok (.iconst 0, 1) := by decide +kernel
theorem dX10_begin_15 : decode cX10_begin 15 = .ok (.putfield 42, 3) := by decide +kernel
theorem dX10_begin_18 : decode cX10_begin 18 = .ok (.aload_n 0, 1) := by decide +kernel
theorem dX10_begin_19 : decode cX10_begin 19 = .ok (.getfield 14, 3) := by decide +kernel
theorem dX10_begin_22 : decode cX10_begin 22 = .ok (.invokevirtual 39, 3) := by decide +kernel
theorem dX10_begin_25 : decode cX10_begin 25 = .ok (.aload_n 0, 1) := by decide +kernel
theorem dX10_begin_26 : decode cX10_begin 26 = .ok (.getfield 14, 3) := by decide +kernel
theorem dX10_begin_29 : decode cX10_begin 29 = .ok (.bipush 86, 2) := by decide +kernel
theorem dX10_begin_31 : decode cX10_begin 31 = .ok (.invokevirtual 58, 3) := by decide +kernel
theorem dX10_begin_34 : decode cX10_begin 34 = .ok (.aload_n 0, 1) := by decide +kernel
theorem dX10_begin_35 : decode cX10_begin 35 = .ok (.getfield 14, 3) := by decide +kernel
theorem dX10_begin_38 : decode cX10_begin 38 = .ok (.iload_n 1, 1) := by decide +kernel
theorem dX10_begin_39 : decode cX10_begin 39 = .ok (.invokevirtual 58, 3) := by decide +kernel
theorem dX10_begin_42 : decode cX10_begin 42 = .ok (.aload_n 0, 1) := by decide +kernel
theorem dX10_begin_43 : decode cX10_begin 43 = .ok (.getfield 14, 3) := by decide +kernel
theorem dX10_begin_46 : decode cX10_begin 46 = .ok (.iload_n 2, 1) := by decide +kernel
theorem dX10_begin_47 : decode cX10_begin 47 = .ok (.invokevirtual 58, 3) := by decide +kernel
theorem dX10_begin_50 : decode cX10_begin 50 = .ok (.aload_n 0, 1) := by decide +kernel
theorem dX10_begin_51 : decode cX10_begin 51 = .ok (.getfield 14, 3) := by decide +kernel
theorem dX10_begin_54 : decode cX10_begin 54 = .ok (.iload_n 3, 1) := by decide +kernel
theorem dX10_begin_55 : decode cX10_begin 55 = .ok (.invokevirtual 58, 3) := by decide +kernel
theorem dX10_begin_58 : decode cX10_begin 58 = .ok (.aload_n 0, 1) := by decide +kernel
theorem dX10_begin_59 : decode cX10_begin 59 = .ok (.getfield 14, 3) := by decide +kernel
theorem dX10_begin_62 : decode cX10_begin 62 = .ok (.iload 5, 2) := by decide +kernel
theorem dX10_begin_64 : decode cX10_begin 64 = .ok (.invokevirtual 61, 3) := by decide +kernel
theorem dX10_begin_67 : decode cX10_begin 67 = .ok (.aload_n 0, 1) := by decide +kernel
theorem dX10_begin_68 : decode cX10_begin 68 = .ok (.getfield 14, 3) := by decide +kernel
theorem dX10_begin_71 : decode cX10_begin 71 = .ok (.iload 4, 2) := by decide +kernel
theorem dX10_begin_73 : decode cX10_begin 73 = .ok (.invokevirtual 61, 3) := by decide +kernel
theorem dX10_begin_76 : decode cX10_begin 76 = .ok (.aload_n 0, 1) := by decide +kernel
theorem dX10_begin_77 : decode cX10_begin 77 = .ok (.getfield 14, 3) := by decide +kernel
theorem dX10_begin_80 : decode cX10_begin 80 = .ok (.iconst 0, 1) := by decide +kernel
theorem dX10_begin_81 : decode cX10_begin 81 = .ok (.invokevirtual 61, 3) := by decide +kernel
theorem dX10_begin_84 : decode cX10_begin 84 = .ok (.aload_n 0, 1) := by decide +kernel
theorem dX10_begin_85 : decode cX10_begin 85 = .ok (.getfield 14, 3) := by decide +kernel
theorem dX10_begin_88 : decode cX10_begin 88 = .ok (.iconst 0, 1) := by decide +kernel
theorem dX10_begin_89 : decode cX10_begin 89 = .ok (.iload 5, 2) := by decide +kernel
theorem dX10_begin_91 : decode cX10_begin 91 = .ok (.invokevirtual 64, 3) := by decide +kernel
theorem dX10_begin_94 : decode cX10_begin 94 = .ok (.return_, 1) := by decide +kernel
set_option maxRecDepth 20000 in
theorem ggX10_mix_X0_at : GoodIn wsX10_mix wsX0_at := goodIn_r _ [7, 8, 9, 18, 19] (by decide +kernel) (by decide +kernel)
set_option maxRecDepth 20000 in
theorem gX10_mix_X0_at : GoodIn wsX10_mix (wsV RX10 32 RX0 yX0_at wsX0_at) := goodIn_app (goodIn_of _ (by decide +kernel)) ggX10_mix_X0_at
set_option maxRecDepth 20000 in
theorem ggX10_mix_X0_put : GoodIn wsX10_mix wsX0_put := goodIn_r _ [13, 8, 9, 18, 19] (by decide +kernel) (by decide +kernel)
set_option maxRecDepth 20000 in
theorem gX10_mix_X0_put : GoodIn wsX10_mix (wsV RX10 68 RX0 yX0_put wsX0_put) := goodIn_app (goodIn_of _ (by decide +kernel)) ggX10_mix_X0_put
theorem dX10_mix_0 : decode cX10_mix 0 = .ok (.aload_n 0, 1) := by decide +kernel
theorem dX10_mix_1 : decode cX10_mix 1 = .ok (.iconst 0, 1) := by decide +kernel
theorem dX10_mix_2 : decode cX10_mix 2 = .ok (.putfield 42, 3) := by decide +kernel
theorem dX10_mix_5 : decode cX10_mix 5 = .ok (.aload_n 0, 1) := by decide +kernel
theorem dX10_mix_6 : decode cX10_mix 6 = .ok (.getfield 14, 3) := by decide +kernel
theorem dX10_mix_9 : decode cX10_mix 9 = .ok (.iload_n 1, 1) := by decide +kernel
theorem dX10_mix_10 : decode cX10_mix 10 = .ok (.aload_n 0, 1) := by decide +kernel
theorem dX10_mix_11 : decode cX10_mix 11 = .ok (.getfield 14, 3) := by decide +kernel
theorem dX10_mix_14 : decode cX10_mix 14 = .ok (.iload_n 1, 1) := by decide +kernel
theorem dX10_mix_15 : decode cX10_mix 15 = .ok (.invokevirtual 32, 3) := by decide +kernel
theorem dX10_mix_18 : decode cX10_mix 18 = .ok (.iload_n 2, 1) := by decide +kernel
theorem dX10_mix_19 : decode cX10_mix 19 = .ok (.ixor, 1) := by decide +kernel
theorem dX10_mix_20 : decode cX10_mix 20 = .ok (.invokevirtual 68, 3) := by decide +kernel
theorem dX10_mix_23 : decode cX10_mix 23 = .ok (.aload_n 0, 1) := by decide +kernel
theorem dX10_mix_24 : decode cX10_mix 24 = .ok (.getfield 14, 3) := by decide +kernel
theorem dX10_mix_27 : decode cX10_mix 27 = .ok (.iload_n 1, 1) := by decide +kernel
theorem dX10_mix_28 : decode cX10_mix 28 = .ok (.invokevirtual 32, 3) := by decide +kernel
theorem dX10_mix_31 : decode cX10_mix 31 = .ok (.ireturn, 1) := by decide +kernel
set_option maxRecDepth 20000 in
theorem ggX10_shorten_X0_shorten : GoodIn wsX10_shorten wsX0_shorten := goodIn_r _ [7, 8, 13, 14] (by decide +kernel) (by decide +kernel)
set_option maxRecDepth 20000 in
theorem gX10_shorten_X0_shorten : GoodIn wsX10_shorten (wsV RX10 71 RX0 yX0_shorten wsX0_shorten) := goodIn_app (goodIn_of _ (by decide +kernel)) ggX10_shorten_X0_shorten
theorem dX10_shorten_0 : decode cX10_shorten 0 = .ok (.aload_n 0, 1) := by decide +kernel
theorem dX10_shorten_1 : decode cX10_shorten 1 = .ok (.iconst 0, 1) := by decide +kernel
theorem dX10_shorten_2 : decode cX10_shorten 2 = .ok (.putfield 42, 3) := by decide +kernel
theorem dX10_shorten_5 : decode cX10_shorten 5 = .ok (.aload_n 0, 1) := by decide +kernel
theorem dX10_shorten_6 : decode cX10_shorten 6 = .ok (.getfield 14, 3) := by decide +kernel
theorem dX10_shorten_9 : decode cX10_shorten 9 = .ok (.iload_n 1, 1) := by decide +kernel
theorem dX10_shorten_10 : decode cX10_shorten 10 = .ok (.invokevirtual 71, 3) := by decide +kernel
theorem dX10_shorten_13 : decode cX10_shorten 13 = .ok (.return_, 1) := by decide +kernel
set_option maxRecDepth 20000 in
theorem ggX10_seal_X10_rightCheck : GoodIn wsX10_seal wsX10_rightCheck := goodIn_r _ [7, 8, 9, 2, 10, 11, 12, 13, 14, 15, 16, 17, 18, 19, 20, 21, 22, 23, 24, 25, 26, 27, 36, 37, 38, 39, 40, 41, 42] (by decide +kernel) (by decide +kernel)
set_option maxRecDepth 20000 in
theorem gX10_seal_X10_rightCheck : GoodIn wsX10_seal (wsV RX10 74 RX10 yX10_rightCheck wsX10_rightCheck) := goodIn_app (goodIn_of _ (by decide +kernel)) ggX10_seal_X10_rightCheck
set_option maxRecDepth 20000 in
theorem ggX10_seal_X0_putWord : GoodIn wsX10_seal wsX0_putWord := goodIn_r _ [31, 32, 33, 34, 20, 35, 22, 23, 41, 42] (by decide +kernel) (by decide +kernel)
set_option maxRecDepth 20000 in
theorem gX10_seal_X0_putWord : GoodIn wsX10_seal (wsV RX10 77 RX0 yX0_putWord wsX0_putWord) := goodIn_app (goodIn_of _ (by decide +kernel)) ggX10_seal_X0_putWord
theorem dX10_seal_0 : decode cX10_seal 0 = .ok (.aload_n 0, 1) := by decide +kernel
theorem dX10_seal_1 : decode cX10_seal 1 = .ok (.invokevirtual 74, 3) := by decide +kernel
theorem dX10_seal_4 : decode cX10_seal 4 = .ok (.istore_n 1, 1) := by decide +kernel
theorem dX10_seal_5 : decode cX10_seal 5 = .ok (.aload_n 0, 1) := by decide +kernel
theorem dX10_seal_6 : decode cX10_seal 6 = .ok (.iconst 0, 1) := by decide +kernel
theorem dX10_seal_7 : decode cX10_seal 7 = .ok (.putfield 42, 3) := by decide +kernel
theorem dX10_seal_10 : decode cX10_seal 10 = .ok (.aload_n 0, 1) := by decide +kernel
theorem dX10_seal_11 : decode cX10_seal 11 = .ok (.getfield 14, 3) := by decide +kernel
theorem dX10_seal_14 : decode cX10_seal 14 = .ok (.bipush 8, 2) := by decide +kernel
theorem dX10_seal_16 : decode cX10_seal 16 = .ok (.iload_n 1, 1) := by decide +kernel
theorem dX10_seal_17 : decode cX10_seal 17 = .ok (.invokevirtual 77, 3) := by decide +kernel
theorem dX10_seal_20 : decode cX10_seal 20 = .ok (.iload_n 1, 1) := by decide +kernel
theorem dX10_seal_21 : decode cX10_seal 21 = .ok (.ireturn, 1) := by decide +kernel
set_option maxRecDepth 20000 in
theorem ggX10_rightCheck_X1_after : GoodIn wsX10_rightCheck wsX1_after := goodIn_r _ [8, 9, 10, 11, 12, 13, 14, 15, 16, 17, 26, 27, 28] (by decide +kernel) (by decide +kernel)
set_option maxRecDepth 20000 in
theorem gX10_rightCheck_X1_after : GoodIn wsX10_rightCheck (wsV RX10 83 RX1 yX1_after wsX1_after) := goodIn_app (goodIn_of _ (by decide +kernel)) ggX10_rightCheck_X1_after
set_option maxRecDepth 20000 in
theorem ggX10_rightCheck_X0_size : GoodIn wsX10_rightCheck wsX0_size := goodIn_r _ [21, 16, 27, 28] (by decide +kernel) (by decide +kernel)
set_option maxRecDepth 20000 in
theorem gX10_rightCheck_X0_size : GoodIn wsX10_rightCheck (wsV RX10 28 RX0 yX0_size wsX0_size) := goodIn_app (goodIn_of _ (by decide +kernel)) ggX10_rightCheck_X0_size
theorem dX10_rightCheck_0 : decode cX10_rightCheck 0 = .ok (.aload_n 0, 1) := by decide +kernel
theorem dX10_rightCheck_1 : decode cX10_rightCheck 1 = .ok (.getfield 20, 3) := by decide +kernel
theorem dX10_rightCheck_4 : decode cX10_rightCheck 4 = .ok (.ldc 82, 2) := by decide +kernel
theorem dX10_rightCheck_6 : decode cX10_rightCheck 6 = .ok (.aload_n 0, 1) := by decide +kernel
theorem dX10_rightCheck_7 : decode cX10_rightCheck 7 = .ok (.getfield 14, 3) := by decide +kernel
theorem dX10_rightCheck_10 : decode cX10_rightCheck 10 = .ok (.iconst 0, 1) := by decide +kernel
theorem dX10_rightCheck_11 : decode cX10_rightCheck 11 = .ok (.bipush 8, 2) := by decide +kernel
theorem dX10_rightCheck_13 : decode cX10_rightCheck 13 = .ok (.invokevirtual 83, 3) := by decide +kernel
theorem dX10_rightCheck_16 : decode cX10_rightCheck 16 = .ok (.istore_n 1, 1) := by decide +kernel
theorem dX10_rightCheck_17 : decode cX10_rightCheck 17 = .ok (.aload_n 0, 1) := by decide +kernel
theorem dX10_rightCheck_18 : decode cX10_rightCheck 18 = .ok (.getfield 20, 3) := by decide +kernel
theorem dX10_rightCheck_21 : decode cX10_rightCheck 21 = .ok (.iload_n 1, 1) := by decide +kernel
theorem dX10_rightCheck_22 : decode cX10_rightCheck 22 = .ok (.aload_n 0, 1) := by decide +kernel
theorem dX10_rightCheck_23 : decode cX10_rightCheck 23 = .ok (.getfield 14, 3) := by decide +kernel
theorem dX10_rightCheck_26 : decode cX10_rightCheck 26 = .ok (.bipush 10, 2) := by decide +kernel
theorem dX10_rightCheck_28 : decode cX10_rightCheck 28 = .ok (.aload_n 0, 1) := by decide +kernel
theorem dX10_rightCheck_29 : decode cX10_rightCheck 29 = .ok (.getfield 14, 3) := by decide +kernel
theorem dX10_rightCheck_32 : decode cX10_rightCheck 32 = .ok (.invokevirtual 28, 3) := by decide +kernel
theorem dX10_rightCheck_35 : decode cX10_rightCheck 35 = .ok (.invokevirtual 83, 3) := by decide +kernel
theorem dX10_rightCheck_38 : decode cX10_rightCheck 38 = .ok (.ireturn, 1) := by decide +kernel
set_option maxRecDepth 20000 in
theorem ggX10_isWhole_X10_headFits : GoodIn wsX10_isWhole wsX10_headFits := goodIn_r _ [7, 8, 2, 9, 10, 11, 12, 13, 14, 15, 16, 17, 18, 19, 20, 21, 22, 6, 23, 24, 25, 26, 27, 28, 29, 30, 31, 32, 33, 34, 35, 36, 37, 38, 39, 40, 41, 42, 43, 44, 45, 46, 47, 62, 63, 64, 65, 66, 67] (by decide +kernel) (by decide +kernel)
set_option maxRecDepth 20000 in
theorem gX10_isWhole_X10_headFits : GoodIn wsX10_isWhole (wsV RX10 87 RX10 yX10_headFits wsX10_headFits) := goodIn_app (goodIn_of _ (by decide +kernel)) ggX10_isWhole_X10_headFits
set_option maxRecDepth 20000 in
theorem ggX10_isWhole_X0_word : GoodIn wsX10_isWhole wsX0_word := goodIn_r _ [39, 40, 16, 17, 12, 18, 14, 19, 66, 67] (by decide +kernel) (by decide +kernel)
set_option maxRecDepth 20000 in
theorem gX10_isWhole_X0_word : GoodIn wsX10_isWhole (wsV RX10 36 RX0 yX0_word wsX0_word) := goodIn_app (goodIn_of _ (by decide +kernel)) ggX10_isWhole_X0_word
set_option maxRecDepth 20000 in
theorem ggX10_isWhole_X10_rightCheck : GoodIn wsX10_isWhole wsX10_rightCheck := goodIn_r _ [51, 52, 53, 2, 54, 55, 56, 57, 58, 59, 60, 61, 16, 17, 12, 18, 14, 19, 9, 10, 11, 13, 62, 63, 64, 65, 68, 66, 67] (by decide +kernel) (by decide +kernel)
set_option maxRecDepth 20000 in
theorem gX10_isWhole_X10_rightCheck : GoodIn wsX10_isWhole (wsV RX10 74 RX10 yX10_rightCheck wsX10_rightCheck) := goodIn_app (goodIn_of _ (by decide +kernel)) ggX10_isWhole_X10_rightCheck
theorem dX10_isWhole_0 : decode cX10_isWhole 0 = .ok (.aload_n 0, 1) := by decide +kernel
theorem dX10_isWhole_1 : decode cX10_isWhole 1 = .ok (.getfield 42, 3) := by decide +kernel
theorem dX10_isWhole_4 : decode cX10_isWhole 4 = .ok (.ifCond .ne 35, 3) := by decide +kernel
theorem dX10_isWhole_7 : decode cX10_isWhole 7 = .ok (.aload_n 0, 1) := by decide +kernel
theorem dX10_isWhole_8 : decode cX10_isWhole 8 = .ok (.aload_n 0, 1) := by decide +kernel
theorem dX10_isWhole_9 : decode cX10_isWhole 9 = .ok (.invokevirtual 87, 3) := by decide +kernel
theorem dX10_isWhole_12 : decode cX10_isWhole 12 = .ok (.ifCond .eq 23, 3) := by decide +kernel
theorem dX10_isWhole_15 : decode cX10_isWhole 15 = .ok (.aload_n 0, 1) := by decide +kernel
theorem dX10_isWhole_16 : decode cX10_isWhole 16 = .ok (.getfield 14, 3) := by decide +kernel
theorem dX10_isWhole_19 : decode cX10_isWhole 19 = .ok (.bipush 8, 2) := by decide +kernel
theorem dX10_isWhole_21 : decode cX10_isWhole 21 = .ok (.invokevirtual 36, 3) := by decide +kernel
theorem dX10_isWhole_24 : decode cX10_isWhole 24 = .ok (.aload_n 0, 1) := by decide +kernel
theorem dX10_isWhole_25 : decode cX10_isWhole 25 = .ok (.invokevirtual 74, 3) := by decide +kernel
theorem dX10_isWhole_28 : decode cX10_isWhole 28 = .ok (.if_icmp .ne 7, 3) := by decide +kernel
theorem dX10_isWhole_31 : decode cX10_isWhole 31 = .ok (.iconst 1, 1) := by decide +kernel
theorem dX10_isWhole_32 : decode cX10_isWhole 32 = .ok (.goto 4, 3) := by decide +kernel
theorem dX10_isWhole_35 : decode cX10_isWhole 35 = .ok (.iconst 2, 1) := by decide +kernel
theorem dX10_isWhole_36 : decode cX10_isWhole 36 = .ok (.putfield 42, 3) := by decide +kernel
theorem dX10_isWhole_39 : decode cX10_isWhole 39 = .ok (.aload_n 0, 1) := by decide +kernel
theorem dX10_isWhole_40 : decode cX10_isWhole 40 = .ok (.getfield 42, 3) := by decide +kernel
theorem dX10_isWhole_43 : decode cX10_isWhole 43 = .ok (.iconst 1, 1) := by decide +kernel
theorem dX10_isWhole_44 : decode cX10_isWhole 44 = .ok (.if_icmp .ne 7, 3) := by decide +kernel
theorem dX10_isWhole_47 : decode cX10_isWhole 47 = .ok (.iconst 1, 1) := by decide +kernel
theorem dX10_isWhole_48 : decode cX10_isWhole 48 = .ok (.goto 4, 3) := by decide +kernel
theorem dX10_isWhole_51 : decode cX10_isWhole 51 = .ok (.iconst 0, 1) := by decide +kernel
theorem dX10_isWhole_52 : decode cX10_isWhole 52 = .ok (.ireturn, 1) := by decide +kernel
set_option maxRecDepth 20000 in
theorem ggX10_headFits_X0_size : GoodIn wsX10_headFits wsX0_size := goodIn_r _ [7, 8, 47, 48] (by decide +kernel) (by decide +kernel)
set_option maxRecDepth 20000 in
theorem gX10_headFits_X0_size : GoodIn wsX10_headFits (wsV RX10 28 RX0 yX0_size wsX0_size) := goodIn_app (goodIn_of _ (by decide +kernel)) ggX10_headFits_X0_size
set_option maxRecDepth 20000 in
theorem ggX10_headFits_X0_at : GoodIn wsX10_headFits wsX0_at := goodIn_r _ [12, 8, 13, 47, 48] (by decide +kernel) (by decide +kernel)
set_option maxRecDepth 20000 in
theorem gX10_headFits_X0_at : GoodIn wsX10_headFits (wsV RX10 32 RX0 yX0_at wsX0_at) := goodIn_app (goodIn_of _ (by decide +kernel)) ggX10_headFits_X0_at
set_option maxRecDepth 20000 in
theorem ggX10_headFits_X10_dataTold : GoodIn wsX10_headFits wsX10_dataTold := goodIn_r _ [18, 2, 9, 10, 11, 6, 12, 8, 13, 43, 44, 45, 46, 47, 48] (by decide +kernel) (by decide +kernel)
set_option maxRecDepth 20000 in
theorem gX10_headFits_X10_dataTold : GoodIn wsX10_headFits (wsV RX10 91 RX10 yX10_dataTold wsX10_dataTold) := goodIn_app (goodIn_of _ (by decide +kernel)) ggX10_headFits_X10_dataTold
set_option maxRecDepth 20000 in
theorem ggX10_headFits_X10_parityTold : GoodIn wsX10_headFits wsX10_parityTold := goodIn_r _ [22, 2, 9, 10, 11, 6, 12, 8, 13, 43, 44, 45, 46, 47, 48] (by decide +kernel) (by decide +kernel)
set_option maxRecDepth 20000 in
theorem gX10_headFits_X10_parityTold : GoodIn wsX10_headFits (wsV RX10 94 RX10 yX10_parityTold wsX10_parityTold) := goodIn_app (goodIn_of _ (by decide +kernel)) ggX10_headFits_X10_parityTold
set_option maxRecDepth 20000 in
theorem ggX10_headFits_X10_number : GoodIn wsX10_headFits wsX10_number := goodIn_r _ [26, 2, 9, 10, 11, 6, 12, 8, 13, 43, 44, 45, 46, 47, 48] (by decide +kernel) (by decide +kernel)
set_option maxRecDepth 20000 in
theorem gX10_headFits_X10_number : GoodIn wsX10_headFits (wsV RX10 97 RX10 yX10_number wsX10_number) := goodIn_app (goodIn_of _ (by decide +kernel)) ggX10_headFits_X10_number
set_option maxRecDepth 20000 in
theorem ggX10_headFits_X10_bodyTold : GoodIn wsX10_headFits wsX10_bodyTold := goodIn_r _ [30, 2, 31, 32, 33, 6, 34, 35, 10, 11, 12, 8, 13, 43, 44, 45, 46, 47, 48] (by decide +kernel) (by decide +kernel)
set_option maxRecDepth 20000 in
theorem gX10_headFits_X10_bodyTold : GoodIn wsX10_headFits (wsV RX10 100 RX10 yX10_bodyTold wsX10_bodyTold) := goodIn_app (goodIn_of _ (by decide +kernel)) ggX10_headFits_X10_bodyTold
set_option maxRecDepth 20000 in
theorem ggX10_headFits_X10_streamTold : GoodIn wsX10_headFits wsX10_streamTold := goodIn_r _ [39, 2, 31, 32, 33, 6, 34, 35, 10, 11, 12, 8, 13, 43, 44, 45, 46, 47, 48] (by decide +kernel) (by decide +kernel)
set_option maxRecDepth 20000 in
theorem gX10_headFits_X10_streamTold : GoodIn wsX10_headFits (wsV RX10 103 RX10 yX10_streamTold wsX10_streamTold) := goodIn_app (goodIn_of _ (by decide +kernel)) ggX10_headFits_X10_streamTold
set_option maxRecDepth 20000 in
theorem ggX10_headFits_X11_bodySize : GoodIn wsX10_headFits wsX11_bodySize := goodIn_r _ [42] (by decide +kernel) (by decide +kernel)
set_option maxRecDepth 20000 in
theorem gX10_headFits_X11_bodySize_n54 : GoodIn wsX10_headFits (wsX11_bodySize) := ggX10_headFits_X11_bodySize
theorem dX10_headFits_0 : decode cX10_headFits 0 = .ok (.aload_n 0, 1) := by decide +kernel
theorem dX10_headFits_1 : decode cX10_headFits 1 = .ok (.getfield 24, 3) := by decide +kernel
theorem dX10_headFits_4 : decode cX10_headFits 4 = .ok (.ifCond .eq 109, 3) := by decide +kernel
theorem dX10_headFits_7 : decode cX10_headFits 7 = .ok (.aload_n 0, 1) := by decide +kernel
theorem dX10_headFits_8 : decode cX10_headFits 8 = .ok (.getfield 14, 3) := by decide +kernel
theorem dX10_headFits_11 : decode cX10_headFits 11 = .ok (.invokevirtual 28, 3) := by decide +kernel
theorem dX10_headFits_14 : decode cX10_headFits 14 = .ok (.bipush 10, 2) := by decide +kernel
theorem dX10_headFits_16 : decode cX10_headFits 16 = .ok (.if_icmp .lt 97, 3) := by decide +kernel
theorem dX10_headFits_19 : decode cX10_headFits 19 = .ok (.aload_n 0, 1) := by decide +kernel
theorem dX10_headFits_20 : decode cX10_headFits 20 = .ok (.getfield 14, 3) := by decide +kernel
theorem dX10_headFits_23 : decode cX10_headFits 23 = .ok (.iconst 0, 1) := by decide +kernel
theorem dX10_headFits_24 : decode cX10_headFits 24 = .ok (.invokevirtual 32, 3) := by decide +kernel
theorem dX10_headFits_27 : decode cX10_headFits 27 = .ok (.bipush 86, 2) := by decide +kernel
theorem dX10_headFits_29 : decode cX10_headFits 29 = .ok (.if_icmp .ne 84, 3) := by decide +kernel
theorem dX10_headFits_32 : decode cX10_headFits 32 = .ok (.aload_n 0, 1) := by decide +kernel
theorem dX10_headFits_33 : decode cX10_headFits 33 = .ok (.invokevirtual 91, 3) := by decide +kernel
theorem dX10_headFits_36 : decode cX10_headFits 36 = .ok (.iconst 1, 1) := by decide +kernel
theorem dX10_headFits_37 : decode cX10_headFits 37 = .ok (.if_icmp .lt 76, 3) := by decide +kernel
theorem dX10_headFits_40 : decode cX10_headFits 40 = .ok (.aload_n 0, 1) := by decide +kernel
theorem dX10_headFits_41 : decode cX10_headFits 41 = .ok (.invokevirtual 91, 3) := by decide +kernel
theorem dX10_headFits_44 : decode cX10_headFits 44 = .ok (.bipush 10, 2) := by decide +kernel
theorem dX10_headFits_46 : decode cX10_headFits 46 = .ok (.if_icmp .gt 67, 3) := by decide +kernel
theorem dX10_headFits_49 : decode cX10_headFits 49 = .ok (.aload_n 0, 1) := by decide +kernel
theorem dX10_headFits_50 : decode cX10_headFits 50 = .ok (.invokevirtual 94, 3) := by decide +kernel
theorem dX10_headFits_53 : decode cX10_headFits 53 = .ok (.bipush 6, 2) := by decide +kernel
theorem dX10_headFits_55 : decode cX10_headFits 55 = .ok (.if_icmp .gt 58, 3) := by decide +kernel
theorem dX10_headFits_58 : decode cX10_headFits 58 = .ok (.aload_n 0, 1) := by decide +kernel
theorem dX10_headFits_59 : decode cX10_headFits 59 = .ok (.invokevirtual 97, 3) := by decide +kernel
theorem dX10_headFits_62 : decode cX10_headFits 62 = .ok (.aload_n 0, 1) := by decide +kernel
theorem dX10_headFits_63 : decode cX10_headFits 63 = .ok (.invokevirtual 91, 3) := by decide +kernel
theorem dX10_headFits_66 : decode cX10_headFits 66 = .ok (.aload_n 0, 1) := by decide +kernel
theorem dX10_headFits_67 : decode cX10_headFits 67 = .ok (.invokevirtual 94, 3) := by decide +kernel
theorem dX10_headFits_70 : decode cX10_headFits 70 = .ok (.iadd, 1) := by decide +kernel
theorem dX10_headFits_71 : decode cX10_headFits 71 = .ok (.if_icmp .ge 42, 3) := by decide +kernel
theorem dX10_headFits_74 : decode cX10_headFits 74 = .ok (.aload_n 0, 1) := by decide +kernel
theorem dX10_headFits_75 : decode cX10_headFits 75 = .ok (.getfield 14, 3) := by decide +kernel
theorem dX10_headFits_78 : decode cX10_headFits 78 = .ok (.invokevirtual 28, 3) := by decide +kernel
theorem dX10_headFits_81 : decode cX10_headFits 81 = .ok (.bipush 10, 2) := by decide +kernel
theorem dX10_headFits_83 : decode cX10_headFits 83 = .ok (.aload_n 0, 1) := by decide +kernel
theorem dX10_headFits_84 : decode cX10_headFits 84 = .ok (.invokevirtual 100, 3) := by decide +kernel
theorem dX10_headFits_87 : decode cX10_headFits 87 = .ok (.iadd, 1) := by decide +kernel
theorem dX10_headFits_88 : decode cX10_headFits 88 = .ok (.if_icmp .ne 25, 3) := by decide +kernel
theorem dX10_headFits_91 : decode cX10_headFits 91 = .ok (.aload_n 0, 1) := by decide +kernel
theorem dX10_headFits_92 : decode cX10_headFits 92 = .ok (.invokevirtual 100, 3) := by decide +kernel
theorem dX10_headFits_95 : decode cX10_headFits 95 = .ok (.aload_n 0, 1) := by decide +kernel
theorem dX10_headFits_96 : decode cX10_headFits 96 = .ok (.invokevirtual 103, 3) := by decide +kernel
theorem dX10_headFits_99 : decode cX10_headFits 99 = .ok (.aload_n 0, 1) := by decide +kernel
theorem dX10_headFits_100 : decode cX10_headFits 100 = .ok (.invokevirtual 91, 3) := by decide +kernel
theorem dX10_headFits_103 : decode cX10_headFits 103 = .ok (.invokestatic 54, 3) := by decide +kernel
theorem dX10_headFits_106 : decode cX10_headFits 106 = .ok (.if_icmp .ne 7, 3) := by decide +kernel
theorem dX10_headFits_109 : decode cX10_headFits 109 = .ok (.iconst 1, 1) := by decide +kernel
theorem dX10_headFits_110 : decode cX10_headFits 110 = .ok (.goto 4, 3) := by decide +kernel
theorem dX10_headFits_113 : decode cX10_headFits 113 = .ok (.iconst 0, 1) := by decide +kernel
theorem dX10_headFits_114 : decode cX10_headFits 114 = .ok (.ireturn, 1) := by decide +kernel
set_option maxRecDepth 20000 in
theorem ggX10_isOfOneWith_X10_dataTold : GoodIn wsX10_isOfOneWith wsX10_dataTold := goodIn_r _ [5, 6, 7, 8, 9, 10, 11, 12, 13, 31, 32, 33, 34, 35, 36] (by decide +kernel) (by decide +kernel)
set_option maxRecDepth 20000 in
theorem gX10_isOfOneWith_X10_dataTold : GoodIn wsX10_isOfOneWith (wsV RX10 91 RX10 yX10_dataTold wsX10_dataTold) := goodIn_app (goodIn_of _ (by decide +kernel)) ggX10_isOfOneWith_X10_dataTold
set_option maxRecDepth 20000 in
theorem ggX10_isOfOneWith_X10_parityTold : GoodIn wsX10_isOfOneWith wsX10_parityTold := goodIn_r _ [17, 6, 7, 8, 9, 10, 11, 12, 13, 31, 32, 33, 34, 35, 36] (by decide +kernel) (by decide +kernel)
set_option maxRecDepth 20000 in
theorem gX10_isOfOneWith_X10_parityTold : GoodIn wsX10_isOfOneWith (wsV RX10 94 RX10 yX10_parityTold wsX10_parityTold) := goodIn_app (goodIn_of _ (by decide +kernel)) ggX10_isOfOneWith_X10_parityTold
set_option maxRecDepth 20000 in
theorem ggX10_isOfOneWith_X10_bodyTold : GoodIn wsX10_isOfOneWith wsX10_bodyTold := goodIn_r _ [21, 6, 22, 23, 24, 10, 25, 26, 8, 9, 11, 12, 13, 31, 32, 33, 34, 35, 36] (by decide +kernel) (by decide +kernel)
set_option maxRecDepth 20000 in
theorem gX10_isOfOneWith_X10_bodyTold : GoodIn wsX10_isOfOneWith (wsV RX10 100 RX10 yX10_bodyTold wsX10_bodyTold) := goodIn_app (goodIn_of _ (by decide +kernel)) ggX10_isOfOneWith_X10_bodyTold
set_option maxRecDepth 20000 in
theorem ggX10_isOfOneWith_X10_streamTold : GoodIn wsX10_isOfOneWith wsX10_streamTold := goodIn_r _ [30, 6, 22, 23, 24, 10, 25, 26, 8, 9, 11, 12, 13, 31, 32, 33, 34, 35, 36] (by decide +kernel) (by decide +kernel)
set_option maxRecDepth 20000 in
theorem gX10_isOfOneWith_X10_streamTold : GoodIn wsX10_isOfOneWith (wsV RX10 103 RX10 yX10_streamTold wsX10_streamTold) := goodIn_app (goodIn_of _ (by decide +kernel)) ggX10_isOfOneWith_X10_streamTold
theorem dX10_isOfOneWith_0 : decode cX10_isOfOneWith 0 = .ok (.aload_n 0, 1) := by decide +kernel
theorem dX10_isOfOneWith_1 : decode cX10_isOfOneWith 1 = .ok (.invokevirtual 91, 3) := by decide +kernel
theorem dX10_isOfOneWith_4 : decode cX10_isOfOneWith 4 = .ok (.aload_n 1, 1) := by decide +kernel
theorem dX10_isOfOneWith_5 : decode cX10_isOfOneWith 5 = .ok (.invokevirtual 91, 3) := by decide +kernel
theorem dX10_isOfOneWith_8 : decode cX10_isOfOneWith 8 = .ok (.if_icmp .ne 40, 3) := by decide +kernel
theorem dX10_isOfOneWith_11 : decode cX10_isOfOneWith 11 = .ok (.aload_n 0, 1) := by decide +kernel
theorem dX10_isOfOneWith_12 : decode cX10_isOfOneWith 12 = .ok (.invokevirtual 94, 3) := by decide +kernel
theorem dX10_isOfOneWith_15 : decode cX10_isOfOneWith 15 = .ok (.aload_n 1, 1) := by decide +kernel
theorem dX10_isOfOneWith_16 : decode cX10_isOfOneWith 16 = .ok (.invokevirtual 94, 3) := by decide +kernel
theorem dX10_isOfOneWith_19 : decode cX10_isOfOneWith 19 = .ok (.if_icmp .ne 29, 3) := by decide +kernel
theorem dX10_isOfOneWith_22 : decode cX10_isOfOneWith 22 = .ok (.aload_n 0, 1) := by decide +kernel
theorem dX10_isOfOneWith_23 : decode cX10_isOfOneWith 23 = .ok (.invokevirtual 100, 3) := by decide +kernel
theorem dX10_isOfOneWith_26 : decode cX10_isOfOneWith 26 = .ok (.aload_n 1, 1) := by decide +kernel
theorem dX10_isOfOneWith_27 : decode cX10_isOfOneWith 27 = .ok (.invokevirtual 100, 3) := by decide +kernel
theorem dX10_isOfOneWith_30 : decode cX10_isOfOneWith 30 = .ok (.if_icmp .ne 18, 3) := by decide +kernel
theorem dX10_isOfOneWith_33 : decode cX10_isOfOneWith 33 = .ok (.aload_n 0, 1) := by decide +kernel
theorem dX10_isOfOneWith_34 : decode cX10_isOfOneWith 34 = .ok (.invokevirtual 103, 3) := by decide +kernel
theorem dX10_isOfOneWith_37 : decode cX10_isOfOneWith 37 = .ok (.aload_n 1, 1) := by decide +kernel
theorem dX10_isOfOneWith_38 : decode cX10_isOfOneWith 38 = .ok (.invokevirtual 103, 3) := by decide +kernel
theorem dX10_isOfOneWith_41 : decode cX10_isOfOneWith 41 = .ok (.if_icmp .ne 7, 3) := by decide +kernel
theorem dX10_isOfOneWith_44 : decode cX10_isOfOneWith 44 = .ok (.iconst 1, 1) := by decide +kernel
theorem dX10_isOfOneWith_45 : decode cX10_isOfOneWith 45 = .ok (.goto 4, 3) := by decide +kernel
theorem dX10_isOfOneWith_48 : decode cX10_isOfOneWith 48 = .ok (.iconst 0, 1) := by decide +kernel
theorem dX10_isOfOneWith_49 : decode cX10_isOfOneWith 49 = .ok (.ireturn, 1) := by decide +kernel
