set_option maxRecDepth 20000 in
theorem ggX6_pack_X0_clear : GoodIn wsX6_pack wsX0_clear := goodIn_r _ [5, 6, 40, 41] (by decide +kernel) (by decide +kernel)
set_option maxRecDepth 20000 in
theorem gX6_pack_X0_clear : GoodIn wsX6_pack (wsV RX6 9 RX0 yX0_clear wsX0_clear) := goodIn_app (goodIn_of _ (by decide +kernel)) ggX6_pack_X0_clear
set_option maxRecDepth 20000 in
theorem ggX6_pack_X0_size : GoodIn wsX6_pack wsX0_size := goodIn_r _ [10, 6, 40, 41] (by decide +kernel) (by decide +kernel)
set_option maxRecDepth 20000 in
theorem gX6_pack_X0_size : GoodIn wsX6_pack (wsV RX6 14 RX0 yX0_size wsX0_size) := goodIn_app (goodIn_of _ (by decide +kernel)) ggX6_pack_X0_size
set_option maxRecDepth 20000 in
theorem ggX6_pack_X6_isRun : GoodIn wsX6_pack wsX6_isRun := goodIn_r _ [14, 7, 8, 9, 4, 10, 6, 15, 16, 17, 18, 19, 40, 41] (by decide +kernel) (by decide +kernel)
set_option maxRecDepth 20000 in
theorem gX6_pack_X6_isRun : GoodIn wsX6_pack (va_wsS RX6 18 yX6_isRun wsX6_isRun) := goodIn_app (goodIn_of _ (by decide +kernel)) ggX6_pack_X6_isRun
set_option maxRecDepth 20000 in
theorem ggX6_pack_X6_alikeFrom : GoodIn wsX6_pack wsX6_alikeFrom := goodIn_r _ [22, 23, 24, 25, 26, 7, 8, 9, 4, 10, 6, 15, 16, 17, 18, 19, 40, 41] (by decide +kernel) (by decide +kernel)
set_option maxRecDepth 20000 in
theorem gX6_pack_X6_alikeFrom : GoodIn wsX6_pack (va_wsS RX6 24 yX6_alikeFrom wsX6_alikeFrom) := goodIn_app (goodIn_of _ (by decide +kernel)) ggX6_pack_X6_alikeFrom
set_option maxRecDepth 20000 in
theorem ggX6_pack_X0_add : GoodIn wsX6_pack wsX0_add := goodIn_r _ [30, 6, 19, 40, 41] (by decide +kernel) (by decide +kernel)
set_option maxRecDepth 20000 in
theorem gX6_pack_X0_add : GoodIn wsX6_pack (wsV RX6 28 RX0 yX0_add wsX0_add) := goodIn_app (goodIn_of _ (by decide +kernel)) ggX6_pack_X0_add
set_option maxRecDepth 20000 in
theorem ggX6_pack_X0_at : GoodIn wsX6_pack wsX0_at := goodIn_r _ [18, 6, 19, 40, 41] (by decide +kernel) (by decide +kernel)
set_option maxRecDepth 20000 in
theorem gX6_pack_X0_at : GoodIn wsX6_pack (wsV RX6 32 RX0 yX0_at wsX0_at) := goodIn_app (goodIn_of _ (by decide +kernel)) ggX6_pack_X0_at
set_option maxRecDepth 20000 in
theorem ggX6_pack_X6_apartFrom : GoodIn wsX6_pack wsX6_apartFrom := goodIn_r _ [33, 23, 24, 25, 26, 7, 8, 9, 4, 10, 6, 11, 12, 13, 14, 15, 16, 17, 18, 19, 40, 41] (by decide +kernel) (by decide +kernel)
set_option maxRecDepth 20000 in
theorem gX6_pack_X6_apartFrom : GoodIn wsX6_pack (va_wsS RX6 36 yX6_apartFrom wsX6_apartFrom) := goodIn_app (goodIn_of _ (by decide +kernel)) ggX6_pack_X6_apartFrom
set_option maxRecDepth 20000 in
theorem ggX6_pack_X0_addPart : GoodIn wsX6_pack wsX0_addPart := goodIn_r _ [37, 38, 16, 17, 4, 18, 6, 19, 39, 28, 29, 30, 40, 41] (by decide +kernel) (by decide +kernel)
set_option maxRecDepth 20000 in
theorem gX6_pack_X0_addPart : GoodIn wsX6_pack (wsV RX6 39 RX0 yX0_addPart wsX0_addPart) := goodIn_app (goodIn_of _ (by decide +kernel)) ggX6_pack_X0_addPart
theorem dX6_pack_0 : decode cX6_pack 0 = .ok (.aload_n 1, 1) := by decide +kernel
theorem dX6_pack_1 : decode cX6_pack 1 = .ok (.invokevirtual 9, 3) := by decide +kernel
theorem dX6_pack_4 : decode cX6_pack 4 = .ok (.iconst 0, 1) := by decide +kernel
theorem dX6_pack_5 : decode cX6_pack 5 = .ok (.istore_n 2, 1) := by decide +kernel
theorem dX6_pack_6 : decode cX6_pack 6 = .ok (.iconst 0, 1) := by decide +kernel
theorem dX6_pack_7 : decode cX6_pack 7 = .ok (.istore_n 3, 1) := by decide +kernel
theorem dX6_pack_8 : decode cX6_pack 8 = .ok (.iload_n 3, 1) := by decide +kernel
theorem dX6_pack_9 : decode cX6_pack 9 = .ok (.aload_n 0, 1) := by decide +kernel
theorem dX6_pack_10 : decode cX6_pack 10 = .ok (.invokevirtual 14, 3) := by decide +kernel
theorem dX6_pack_13 : decode cX6_pack 13 = .ok (.if_icmp .ge 86, 3) := by decide +kernel
theorem dX6_pack_16 : decode cX6_pack 16 = .ok (.iload_n 2, 1) := by decide +kernel
theorem dX6_pack_17 : decode cX6_pack 17 = .ok (.aload_n 0, 1) := by decide +kernel
theorem dX6_pack_18 : decode cX6_pack 18 = .ok (.invokevirtual 14, 3) := by decide +kernel
theorem dX6_pack_21 : decode cX6_pack 21 = .ok (.if_icmp .ge 78, 3) := by decide +kernel
theorem dX6_pack_24 : decode cX6_pack 24 = .ok (.aload_n 0, 1) := by decide +kernel
theorem dX6_pack_25 : decode cX6_pack 25 = .ok (.iload_n 2, 1) := by decide +kernel
theorem dX6_pack_26 : decode cX6_pack 26 = .ok (.invokestatic 18, 3) := by decide +kernel
theorem dX6_pack_29 : decode cX6_pack 29 = .ok (.ifCond .eq 36, 3) := by decide +kernel
theorem dX6_pack_32 : decode cX6_pack 32 = .ok (.aload_n 0, 1) := by decide +kernel
theorem dX6_pack_33 : decode cX6_pack 33 = .ok (.iload_n 2, 1) := by decide +kernel
theorem dX6_pack_34 : decode cX6_pack 34 = .ok (.invokestatic 24, 3) := by decide +kernel
theorem dX6_pack_37 : decode cX6_pack 37 = .ok (.istore 4, 2) := by decide +kernel
theorem dX6_pack_39 : decode cX6_pack 39 = .ok (.aload_n 1, 1) := by decide +kernel
theorem dX6_pack_40 : decode cX6_pack 40 = .ok (.bipush 126, 2) := by decide +kernel
theorem dX6_pack_42 : decode cX6_pack 42 = .ok (.iload 4, 2) := by decide +kernel
theorem dX6_pack_44 : decode cX6_pack 44 = .ok (.iadd, 1) := by decide +kernel
theorem dX6_pack_45 : decode cX6_pack 45 = .ok (.invokevirtual 28, 3) := by decide +kernel
theorem dX6_pack_48 : decode cX6_pack 48 = .ok (.aload_n 1, 1) := by decide +kernel
theorem dX6_pack_49 : decode cX6_pack 49 = .ok (.aload_n 0, 1) := by decide +kernel
theorem dX6_pack_50 : decode cX6_pack 50 = .ok (.iload_n 2, 1) := by decide +kernel
theorem dX6_pack_51 : decode cX6_pack 51 = .ok (.invokevirtual 32, 3) := by decide +kernel
theorem dX6_pack_54 : decode cX6_pack 54 = .ok (.invokevirtual 28, 3) := by decide +kernel
theorem dX6_pack_57 : decode cX6_pack 57 = .ok (.iload_n 2, 1) := by decide +kernel
theorem dX6_pack_58 : decode cX6_pack 58 = .ok (.iload 4, 2) := by decide +kernel
theorem dX6_pack_60 : decode cX6_pack 60 = .ok (.iadd, 1) := by decide +kernel
theorem dX6_pack_61 : decode cX6_pack 61 = .ok (.istore_n 2, 1) := by decide +kernel
theorem dX6_pack_62 : decode cX6_pack 62 = .ok (.goto 31, 3) := by decide +kernel
theorem dX6_pack_65 : decode cX6_pack 65 = .ok (.aload_n 0, 1) := by decide +kernel
theorem dX6_pack_66 : decode cX6_pack 66 = .ok (.iload_n 2, 1) := by decide +kernel
theorem dX6_pack_67 : decode cX6_pack 67 = .ok (.invokestatic 36, 3) := by decide +kernel
theorem dX6_pack_70 : decode cX6_pack 70 = .ok (.istore 4, 2) := by decide +kernel
theorem dX6_pack_72 : decode cX6_pack 72 = .ok (.aload_n 1, 1) := by decide +kernel
theorem dX6_pack_73 : decode cX6_pack 73 = .ok (.iload 4, 2) := by decide +kernel
theorem dX6_pack_75 : decode cX6_pack 75 = .ok (.iconst 1, 1) := by decide +kernel
theorem dX6_pack_76 : decode cX6_pack 76 = .ok (.isub, 1) := by decide +kernel
theorem dX6_pack_77 : decode cX6_pack 77 = .ok (.invokevirtual 28, 3) := by decide +kernel
theorem dX6_pack_80 : decode cX6_pack 80 = .ok (.aload_n 1, 1) := by decide +kernel
theorem dX6_pack_81 : decode cX6_pack 81 = .ok (.aload_n 0, 1) := by decide +kernel
theorem dX6_pack_82 : decode cX6_pack 82 = .ok (.iload_n 2, 1) := by decide +kernel
theorem dX6_pack_83 : decode cX6_pack 83 = .ok (.iload 4, 2) := by decide +kernel
theorem dX6_pack_85 : decode cX6_pack 85 = .ok (.invokevirtual 39, 3) := by decide +kernel
theorem dX6_pack_88 : decode cX6_pack 88 = .ok (.iload_n 2, 1) := by decide +kernel
theorem dX6_pack_89 : decode cX6_pack 89 = .ok (.iload 4, 2) := by decide +kernel
theorem dX6_pack_91 : decode cX6_pack 91 = .ok (.iadd, 1) := by decide +kernel
theorem dX6_pack_92 : decode cX6_pack 92 = .ok (.istore_n 2, 1) := by decide +kernel
theorem dX6_pack_93 : decode cX6_pack 93 = .ok (.iinc 3 1, 3) := by decide +kernel
theorem dX6_pack_96 : decode cX6_pack 96 = .ok (.goto (-88), 3) := by decide +kernel
theorem dX6_pack_99 : decode cX6_pack 99 = .ok (.return_, 1) := by decide +kernel
set_option maxRecDepth 20000 in
theorem ggX6_isRun_X0_size : GoodIn wsX6_isRun wsX0_size := goodIn_r _ [5, 6, 12, 13] (by decide +kernel) (by decide +kernel)
set_option maxRecDepth 20000 in
theorem gX6_isRun_X0_size : GoodIn wsX6_isRun (wsV RX6 14 RX0 yX0_size wsX0_size) := goodIn_app (goodIn_of _ (by decide +kernel)) ggX6_isRun_X0_size
set_option maxRecDepth 20000 in
theorem ggX6_isRun_X0_at : GoodIn wsX6_isRun wsX0_at := goodIn_r _ [10, 6, 11, 12, 13] (by decide +kernel) (by decide +kernel)
set_option maxRecDepth 20000 in
theorem gX6_isRun_X0_at : GoodIn wsX6_isRun (wsV RX6 32 RX0 yX0_at wsX0_at) := goodIn_app (goodIn_of _ (by decide +kernel)) ggX6_isRun_X0_at
theorem dX6_isRun_0 : decode cX6_isRun 0 = .ok (.iload_n 1, 1) := by decide +kernel
theorem dX6_isRun_1 : decode cX6_isRun 1 = .ok (.iconst 2, 1) := by decide +kernel
theorem dX6_isRun_2 : decode cX6_isRun 2 = .ok (.iadd, 1) := by decide +kernel
theorem dX6_isRun_3 : decode cX6_isRun 3 = .ok (.aload_n 0, 1) := by decide +kernel
theorem dX6_isRun_4 : decode cX6_isRun 4 = .ok (.invokevirtual 14, 3) := by decide +kernel
theorem dX6_isRun_7 : decode cX6_isRun 7 = .ok (.if_icmp .ge 37, 3) := by decide +kernel
theorem dX6_isRun_10 : decode cX6_isRun 10 = .ok (.aload_n 0, 1) := by decide +kernel
theorem dX6_isRun_11 : decode cX6_isRun 11 = .ok (.iload_n 1, 1) := by decide +kernel
theorem dX6_isRun_12 : decode cX6_isRun 12 = .ok (.invokevirtual 32, 3) := by decide +kernel
theorem dX6_isRun_15 : decode cX6_isRun 15 = .ok (.aload_n 0, 1) := by decide +kernel
theorem dX6_isRun_16 : decode cX6_isRun 16 = .ok (.iload_n 1, 1) := by decide +kernel
theorem dX6_isRun_17 : decode cX6_isRun 17 = .ok (.iconst 1, 1) := by decide +kernel
theorem dX6_isRun_18 : decode cX6_isRun 18 = .ok (.iadd, 1) := by decide +kernel
theorem dX6_isRun_19 : decode cX6_isRun 19 = .ok (.invokevirtual 32, 3) := by decide +kernel
theorem dX6_isRun_22 : decode cX6_isRun 22 = .ok (.if_icmp .ne 22, 3) := by decide +kernel
theorem dX6_isRun_25 : decode cX6_isRun 25 = .ok (.aload_n 0, 1) := by decide +kernel
theorem dX6_isRun_26 : decode cX6_isRun 26 = .ok (.iload_n 1, 1) := by decide +kernel
theorem dX6_isRun_27 : decode cX6_isRun 27 = .ok (.invokevirtual 32, 3) := by decide +kernel
theorem dX6_isRun_30 : decode cX6_isRun 30 = .ok (.aload_n 0, 1) := by decide +kernel
theorem dX6_isRun_31 : decode cX6_isRun 31 = .ok (.iload_n 1, 1) := by decide +kernel
theorem dX6_isRun_32 : decode cX6_isRun 32 = .ok (.iconst 2, 1) := by decide +kernel
theorem dX6_isRun_33 : decode cX6_isRun 33 = .ok (.iadd, 1) := by decide +kernel
theorem dX6_isRun_34 : decode cX6_isRun 34 = .ok (.invokevirtual 32, 3) := by decide +kernel
theorem dX6_isRun_37 : decode cX6_isRun 37 = .ok (.if_icmp .ne 7, 3) := by decide +kernel
theorem dX6_isRun_40 : decode cX6_isRun 40 = .ok (.iconst 1, 1) := by decide +kernel
theorem dX6_isRun_41 : decode cX6_isRun 41 = .ok (.goto 4, 3) := by decide +kernel
theorem dX6_isRun_44 : decode cX6_isRun 44 = .ok (.iconst 0, 1) := by decide +kernel
theorem dX6_isRun_45 : decode cX6_isRun 45 = .ok (.ireturn, 1) := by decide +kernel
set_option maxRecDepth 20000 in
theorem ggX6_alikeFrom_X0_size : GoodIn wsX6_alikeFrom wsX0_size := goodIn_r _ [9, 10, 16, 17] (by decide +kernel) (by decide +kernel)
set_option maxRecDepth 20000 in
theorem gX6_alikeFrom_X0_size : GoodIn wsX6_alikeFrom (wsV RX6 14 RX0 yX0_size wsX0_size) := goodIn_app (goodIn_of _ (by decide +kernel)) ggX6_alikeFrom_X0_size
set_option maxRecDepth 20000 in
theorem ggX6_alikeFrom_X0_at : GoodIn wsX6_alikeFrom wsX0_at := goodIn_r _ [14, 10, 15, 16, 17] (by decide +kernel) (by decide +kernel)
set_option maxRecDepth 20000 in
theorem gX6_alikeFrom_X0_at : GoodIn wsX6_alikeFrom (wsV RX6 32 RX0 yX0_at wsX0_at) := goodIn_app (goodIn_of _ (by decide +kernel)) ggX6_alikeFrom_X0_at
theorem dX6_alikeFrom_0 : decode cX6_alikeFrom 0 = .ok (.aload_n 0, 1) := by decide +kernel
theorem dX6_alikeFrom_1 : decode cX6_alikeFrom 1 = .ok (.invokevirtual 14, 3) := by decide +kernel
theorem dX6_alikeFrom_4 : decode cX6_alikeFrom 4 = .ok (.iload_n 1, 1) := by decide +kernel
theorem dX6_alikeFrom_5 : decode cX6_alikeFrom 5 = .ok (.sipush 129, 3) := by decide +kernel
theorem dX6_alikeFrom_8 : decode cX6_alikeFrom 8 = .ok (.iadd, 1) := by decide +kernel
theorem dX6_alikeFrom_9 : decode cX6_alikeFrom 9 = .ok (.invokestatic 43, 3) := by decide +kernel
theorem dX6_alikeFrom_12 : decode cX6_alikeFrom 12 = .ok (.istore_n 2, 1) := by decide +kernel
theorem dX6_alikeFrom_13 : decode cX6_alikeFrom 13 = .ok (.iload_n 1, 1) := by decide +kernel
theorem dX6_alikeFrom_14 : decode cX6_alikeFrom 14 = .ok (.iconst 1, 1) := by decide +kernel
theorem dX6_alikeFrom_15 : decode cX6_alikeFrom 15 = .ok (.iadd, 1) := by decide +kernel
theorem dX6_alikeFrom_16 : decode cX6_alikeFrom 16 = .ok (.istore_n 3, 1) := by decide +kernel
theorem dX6_alikeFrom_17 : decode cX6_alikeFrom 17 = .ok (.iload_n 3, 1) := by decide +kernel
theorem dX6_alikeFrom_18 : decode cX6_alikeFrom 18 = .ok (.iload_n 2, 1) := by decide +kernel
theorem dX6_alikeFrom_19 : decode cX6_alikeFrom 19 = .ok (.if_icmp .ge 22, 3) := by decide +kernel
theorem dX6_alikeFrom_22 : decode cX6_alikeFrom 22 = .ok (.aload_n 0, 1) := by decide +kernel
theorem dX6_alikeFrom_23 : decode cX6_alikeFrom 23 = .ok (.iload_n 3, 1) := by decide +kernel
theorem dX6_alikeFrom_24 : decode cX6_alikeFrom 24 = .ok (.invokevirtual 32, 3) := by decide +kernel
theorem dX6_alikeFrom_27 : decode cX6_alikeFrom 27 = .ok (.aload_n 0, 1) := by decide +kernel
theorem dX6_alikeFrom_28 : decode cX6_alikeFrom 28 = .ok (.iload_n 1, 1) := by decide +kernel
theorem dX6_alikeFrom_29 : decode cX6_alikeFrom 29 = .ok (.invokevirtual 32, 3) := by decide +kernel
theorem dX6_alikeFrom_32 : decode cX6_alikeFrom 32 = .ok (.if_icmp .ne 9, 3) := by decide +kernel
theorem dX6_alikeFrom_35 : decode cX6_alikeFrom 35 = .ok (.iinc 3 1, 3) := by decide +kernel
theorem dX6_alikeFrom_38 : decode cX6_alikeFrom 38 = .ok (.goto (-21), 3) := by decide +kernel
theorem dX6_alikeFrom_41 : decode cX6_alikeFrom 41 = .ok (.iload_n 3, 1) := by decide +kernel
theorem dX6_alikeFrom_42 : decode cX6_alikeFrom 42 = .ok (.iload_n 1, 1) := by decide +kernel
theorem dX6_alikeFrom_43 : decode cX6_alikeFrom 43 = .ok (.isub, 1) := by decide +kernel
theorem dX6_alikeFrom_44 : decode cX6_alikeFrom 44 = .ok (.ireturn, 1) := by decide +kernel
set_option maxRecDepth 20000 in
theorem ggX6_apartFrom_X0_size : GoodIn wsX6_apartFrom wsX0_size := goodIn_r _ [9, 10, 20, 21] (by decide +kernel) (by decide +kernel)
set_option maxRecDepth 20000 in
theorem gX6_apartFrom_X0_size : GoodIn wsX6_apartFrom (wsV RX6 14 RX0 yX0_size wsX0_size) := goodIn_app (goodIn_of _ (by decide +kernel)) ggX6_apartFrom_X0_size
set_option maxRecDepth 20000 in
theorem ggX6_apartFrom_X6_isRun : GoodIn wsX6_apartFrom wsX6_isRun := goodIn_r _ [14, 5, 6, 7, 8, 9, 10, 15, 16, 17, 18, 19, 20, 21] (by decide +kernel) (by decide +kernel)
set_option maxRecDepth 20000 in
theorem gX6_apartFrom_X6_isRun : GoodIn wsX6_apartFrom (va_wsS RX6 18 yX6_isRun wsX6_isRun) := goodIn_app (goodIn_of _ (by decide +kernel)) ggX6_apartFrom_X6_isRun
theorem dX6_apartFrom_0 : decode cX6_apartFrom 0 = .ok (.aload_n 0, 1) := by decide +kernel
theorem dX6_apartFrom_1 : decode cX6_apartFrom 1 = .ok (.invokevirtual 14, 3) := by decide +kernel
theorem dX6_apartFrom_4 : decode cX6_apartFrom 4 = .ok (.iload_n 1, 1) := by decide +kernel
theorem dX6_apartFrom_5 : decode cX6_apartFrom 5 = .ok (.sipush 128, 3) := by decide +kernel
theorem dX6_apartFrom_8 : decode cX6_apartFrom 8 = .ok (.iadd, 1) := by decide +kernel
theorem dX6_apartFrom_9 : decode cX6_apartFrom 9 = .ok (.invokestatic 43, 3) := by decide +kernel
theorem dX6_apartFrom_12 : decode cX6_apartFrom 12 = .ok (.istore_n 2, 1) := by decide +kernel
theorem dX6_apartFrom_13 : decode cX6_apartFrom 13 = .ok (.iload_n 1, 1) := by decide +kernel
theorem dX6_apartFrom_14 : decode cX6_apartFrom 14 = .ok (.iconst 1, 1) := by decide +kernel
theorem dX6_apartFrom_15 : decode cX6_apartFrom 15 = .ok (.iadd, 1) := by decide +kernel
theorem dX6_apartFrom_16 : decode cX6_apartFrom 16 = .ok (.istore_n 3, 1) := by decide +kernel
theorem dX6_apartFrom_17 : decode cX6_apartFrom 17 = .ok (.iload_n 3, 1) := by decide +kernel
theorem dX6_apartFrom_18 : decode cX6_apartFrom 18 = .ok (.iload_n 2, 1) := by decide +kernel
theorem dX6_apartFrom_19 : decode cX6_apartFrom 19 = .ok (.if_icmp .ge 17, 3) := by decide +kernel
theorem dX6_apartFrom_22 : decode cX6_apartFrom 22 = .ok (.aload_n 0, 1) := by decide +kernel
theorem dX6_apartFrom_23 : decode cX6_apartFrom 23 = .ok (.iload_n 3, 1) := by decide +kernel
theorem dX6_apartFrom_24 : decode cX6_apartFrom 24 = .ok (.invokestatic 18, 3) := by decide +kernel
theorem dX6_apartFrom_27 : decode cX6_apartFrom 27 = .ok (.ifCond .ne 9, 3) := by decide +kernel
theorem dX6_apartFrom_30 : decode cX6_apartFrom 30 = .ok (.iinc 3 1, 3) := by decide +kernel
theorem dX6_apartFrom_33 : decode cX6_apartFrom 33 = .ok (.goto (-16), 3) := by decide +kernel
theorem dX6_apartFrom_36 : decode cX6_apartFrom 36 = .ok (.iload_n 3, 1) := by decide +kernel
theorem dX6_apartFrom_37 : decode cX6_apartFrom 37 = .ok (.iload_n 1, 1) := by decide +kernel
theorem dX6_apartFrom_38 : decode cX6_apartFrom 38 = .ok (.isub, 1) := by decide +kernel
theorem dX6_apartFrom_39 : decode cX6_apartFrom 39 = .ok (.ireturn, 1) := by decide +kernel
set_option maxRecDepth 20000 in
theorem ggX6_unpack_X0_clear : GoodIn wsX6_unpack wsX0_clear := goodIn_r _ [5, 6, 29, 30] (by decide +kernel) (by decide +kernel)
set_option maxRecDepth 20000 in
theorem gX6_unpack_X0_clear : GoodIn wsX6_unpack (wsV RX6 9 RX0 yX0_clear wsX0_clear) := goodIn_app (goodIn_of _ (by decide +kernel)) ggX6_unpack_X0_clear
set_option maxRecDepth 20000 in
theorem ggX6_unpack_X0_at : GoodIn wsX6_unpack wsX0_at := goodIn_r _ [10, 6, 11, 29, 30] (by decide +kernel) (by decide +kernel)
set_option maxRecDepth 20000 in
theorem gX6_unpack_X0_at : GoodIn wsX6_unpack (wsV RX6 32 RX0 yX0_at wsX0_at) := goodIn_app (goodIn_of _ (by decide +kernel)) ggX6_unpack_X0_at
set_option maxRecDepth 20000 in
theorem ggX6_unpack_X0_size : GoodIn wsX6_unpack wsX0_size := goodIn_r _ [15, 6, 29, 30] (by decide +kernel) (by decide +kernel)
set_option maxRecDepth 20000 in
theorem gX6_unpack_X0_size : GoodIn wsX6_unpack (wsV RX6 14 RX0 yX0_size wsX0_size) := goodIn_app (goodIn_of _ (by decide +kernel)) ggX6_unpack_X0_size
set_option maxRecDepth 20000 in
theorem ggX6_unpack_X0_addTimes : GoodIn wsX6_unpack wsX0_addTimes := goodIn_r _ [19, 20, 21, 22, 4, 23, 6, 11, 29, 30] (by decide +kernel) (by decide +kernel)
set_option maxRecDepth 20000 in
theorem gX6_unpack_X0_addTimes : GoodIn wsX6_unpack (wsV RX6 49 RX0 yX0_addTimes wsX0_addTimes) := goodIn_app (goodIn_of _ (by decide +kernel)) ggX6_unpack_X0_addTimes
set_option maxRecDepth 20000 in
theorem ggX6_unpack_X0_addPart : GoodIn wsX6_unpack wsX0_addPart := goodIn_r _ [27, 28, 8, 9, 4, 10, 6, 11, 20, 21, 22, 23, 29, 30] (by decide +kernel) (by decide +kernel)
set_option maxRecDepth 20000 in
theorem gX6_unpack_X0_addPart : GoodIn wsX6_unpack (wsV RX6 39 RX0 yX0_addPart wsX0_addPart) := goodIn_app (goodIn_of _ (by decide +kernel)) ggX6_unpack_X0_addPart
theorem dX6_unpack_0 : decode cX6_unpack 0 = .ok (.aload_n 3, 1) := by decide +kernel
theorem dX6_unpack_1 : decode cX6_unpack 1 = .ok (.invokevirtual 9, 3) := by decide +kernel
theorem dX6_unpack_4 : decode cX6_unpack 4 = .ok (.iload_n 1, 1) := by decide +kernel
theorem dX6_unpack_5 : decode cX6_unpack 5 = .ok (.istore 4, 2) := by decide +kernel
theorem dX6_unpack_7 : decode cX6_unpack 7 = .ok (.iload_n 1, 1) := by decide +kernel
theorem dX6_unpack_8 : decode cX6_unpack 8 = .ok (.istore 5, 2) := by decide +kernel
theorem dX6_unpack_10 : decode cX6_unpack 10 = .ok (.iload 5, 2) := by decide +kernel
theorem dX6_unpack_12 : decode cX6_unpack 12 = .ok (.iload_n 2, 1) := by decide +kernel
theorem dX6_unpack_13 : decode cX6_unpack 13 = .ok (.if_icmp .ge 133, 3) := by decide +kernel
theorem dX6_unpack_16 : decode cX6_unpack 16 = .ok (.iload 4, 2) := by decide +kernel
theorem dX6_unpack_18 : decode cX6_unpack 18 = .ok (.iload_n 2, 1) := by decide +kernel
theorem dX6_unpack_19 : decode cX6_unpack 19 = .ok (.if_icmp .ge 127, 3) := by decide +kernel
theorem dX6_unpack_22 : decode cX6_unpack 22 = .ok (.aload_n 0, 1) := by decide +kernel
theorem dX6_unpack_23 : decode cX6_unpack 23 = .ok (.iload 4, 2) := by decide +kernel
theorem dX6_unpack_25 : decode cX6_unpack 25 = .ok (.invokevirtual 32, 3) := by decide +kernel
theorem dX6_unpack_28 : decode cX6_unpack 28 = .ok (.istore 6, 2) := by decide +kernel
theorem dX6_unpack_30 : decode cX6_unpack 30 = .ok (.iload 6, 2) := by decide +kernel
theorem dX6_unpack_32 : decode cX6_unpack 32 = .ok (.sipush 128, 3) := by decide +kernel
theorem dX6_unpack_35 : decode cX6_unpack 35 = .ok (.if_icmp .lt 7, 3) := by decide +kernel
theorem dX6_unpack_38 : decode cX6_unpack 38 = .ok (.iconst 1, 1) := by decide +kernel
theorem dX6_unpack_39 : decode cX6_unpack 39 = .ok (.goto 4, 3) := by decide +kernel
theorem dX6_unpack_42 : decode cX6_unpack 42 = .ok (.iconst 0, 1) := by decide +kernel
theorem dX6_unpack_43 : decode cX6_unpack 43 = .ok (.istore 7, 2) := by decide +kernel
theorem dX6_unpack_45 : decode cX6_unpack 45 = .ok (.iload 7, 2) := by decide +kernel
theorem dX6_unpack_47 : decode cX6_unpack 47 = .ok (.ifCond .eq 11, 3) := by decide +kernel
theorem dX6_unpack_50 : decode cX6_unpack 50 = .ok (.iload 6, 2) := by decide +kernel
theorem dX6_unpack_52 : decode cX6_unpack 52 = .ok (.bipush 126, 2) := by decide +kernel
theorem dX6_unpack_54 : decode cX6_unpack 54 = .ok (.isub, 1) := by decide +kernel
theorem dX6_unpack_55 : decode cX6_unpack 55 = .ok (.goto 7, 3) := by decide +kernel
theorem dX6_unpack_58 : decode cX6_unpack 58 = .ok (.iload 6, 2) := by decide +kernel
theorem dX6_unpack_60 : decode cX6_unpack 60 = .ok (.iconst 1, 1) := by decide +kernel
theorem dX6_unpack_61 : decode cX6_unpack 61 = .ok (.iadd, 1) := by decide +kernel
theorem dX6_unpack_62 : decode cX6_unpack 62 = .ok (.istore 8, 2) := by decide +kernel
theorem dX6_unpack_64 : decode cX6_unpack 64 = .ok (.iload 4, 2) := by decide +kernel
theorem dX6_unpack_66 : decode cX6_unpack 66 = .ok (.iconst 1, 1) := by decide +kernel
theorem dX6_unpack_67 : decode cX6_unpack 67 = .ok (.iadd, 1) := by decide +kernel
theorem dX6_unpack_68 : decode cX6_unpack 68 = .ok (.iload 7, 2) := by decide +kernel
theorem dX6_unpack_70 : decode cX6_unpack 70 = .ok (.ifCond .eq 7, 3) := by decide +kernel
theorem dX6_unpack_73 : decode cX6_unpack 73 = .ok (.iconst 1, 1) := by decide +kernel
theorem dX6_unpack_74 : decode cX6_unpack 74 = .ok (.goto 5, 3) := by decide +kernel
theorem dX6_unpack_77 : decode cX6_unpack 77 = .ok (.iload 8, 2) := by decide +kernel
theorem dX6_unpack_79 : decode cX6_unpack 79 = .ok (.iadd, 1) := by decide +kernel
theorem dX6_unpack_80 : decode cX6_unpack 80 = .ok (.istore 9, 2) := by decide +kernel
theorem dX6_unpack_82 : decode cX6_unpack 82 = .ok (.iload 9, 2) := by decide +kernel
theorem dX6_unpack_84 : decode cX6_unpack 84 = .ok (.iload_n 2, 1) := by decide +kernel
theorem dX6_unpack_85 : decode cX6_unpack 85 = .ok (.if_icmp .gt 16, 3) := by decide +kernel
theorem dX6_unpack_88 : decode cX6_unpack 88 = .ok (.aload_n 3, 1) := by decide +kernel
theorem dX6_unpack_89 : decode cX6_unpack 89 = .ok (.invokevirtual 14, 3) := by decide +kernel
theorem dX6_unpack_92 : decode cX6_unpack 92 = .ok (.iload 8, 2) := by decide +kernel
theorem dX6_unpack_94 : decode cX6_unpack 94 = .ok (.iadd, 1) := by decide +kernel
theorem dX6_unpack_95 : decode cX6_unpack 95 = .ok (.sipush 240, 3) := by decide +kernel
theorem dX6_unpack_98 : decode cX6_unpack 98 = .ok (.if_icmp .le 5, 3) := by decide +kernel
theorem dX6_unpack_101 : decode cX6_unpack 101 = .ok (.iconst 0, 1) := by decide +kernel
theorem dX6_unpack_102 : decode cX6_unpack 102 = .ok (.ireturn, 1) := by decide +kernel
theorem dX6_unpack_103 : decode cX6_unpack 103 = .ok (.iload 7, 2) := by decide +kernel
theorem dX6_unpack_105 : decode cX6_unpack 105 = .ok (.ifCond .eq 20, 3) := by decide +kernel
theorem dX6_unpack_108 : decode cX6_unpack 108 = .ok (.aload_n 3, 1) := by decide +kernel
theorem dX6_unpack_109 : decode cX6_unpack 109 = .ok (.aload_n 0, 1) := by decide +kernel
theorem dX6_unpack_110 : decode cX6_unpack 110 = .ok (.iload 4, 2) := by decide +kernel
theorem dX6_unpack_112 : decode cX6_unpack 112 = .ok (.iconst 1, 1) := by decide +kernel
theorem dX6_unpack_113 : decode cX6_unpack 113 = .ok (.iadd, 1) := by decide +kernel
theorem dX6_unpack_114 : decode cX6_unpack 114 = .ok (.invokevirtual 32, 3) := by decide +kernel
theorem dX6_unpack_117 : decode cX6_unpack 117 = .ok (.iload 8, 2) := by decide +kernel
theorem dX6_unpack_119 : decode cX6_unpack 119 = .ok (.invokevirtual 49, 3) := by decide +kernel
theorem dX6_unpack_122 : decode cX6_unpack 122 = .ok (.goto 14, 3) := by decide +kernel
theorem dX6_unpack_125 : decode cX6_unpack 125 = .ok (.aload_n 3, 1) := by decide +kernel
theorem dX6_unpack_126 : decode cX6_unpack 126 = .ok (.aload_n 0, 1) := by decide +kernel
theorem dX6_unpack_127 : decode cX6_unpack 127 = .ok (.iload 4, 2) := by decide +kernel
theorem dX6_unpack_129 : decode cX6_unpack 129 = .ok (.iconst 1, 1) := by decide +kernel
theorem dX6_unpack_130 : decode cX6_unpack 130 = .ok (.iadd, 1) := by decide +kernel
theorem dX6_unpack_131 : decode cX6_unpack 131 = .ok (.iload 8, 2) := by decide +kernel
theorem dX6_unpack_133 : decode cX6_unpack 133 = .ok (.invokevirtual 39, 3) := by decide +kernel
theorem dX6_unpack_136 : decode cX6_unpack 136 = .ok (.iload 9, 2) := by decide +kernel
theorem dX6_unpack_138 : decode cX6_unpack 138 = .ok (.istore 4, 2) := by decide +kernel
theorem dX6_unpack_140 : decode cX6_unpack 140 = .ok (.iinc 5 1, 3) := by decide +kernel
theorem dX6_unpack_143 : decode cX6_unpack 143 = .ok (.goto (-133), 3) := by decide +kernel
theorem dX6_unpack_146 : decode cX6_unpack 146 = .ok (.iconst 1, 1) := by decide +kernel
theorem dX6_unpack_147 : decode cX6_unpack 147 = .ok (.ireturn, 1) := by decide +kernel
