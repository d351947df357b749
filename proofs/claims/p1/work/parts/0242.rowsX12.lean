theorem dX12_cut_0 : decode cX12_cut 0 = .ok (.aload_n 0, 1) := by decide +kernel
theorem dX12_cut_1 : decode cX12_cut 1 = .ok (.iconst 0, 1) := by decide +kernel
theorem dX12_cut_2 : decode cX12_cut 2 = .ok (.putfield 59, 3) := by decide +kernel
theorem dX12_cut_5 : decode cX12_cut 5 = .ok (.aload_n 0, 1) := by decide +kernel
theorem dX12_cut_6 : decode cX12_cut 6 = .ok (.iload_n 1, 1) := by decide +kernel
theorem dX12_cut_7 : decode cX12_cut 7 = .ok (.invokevirtual 171, 3) := by decide +kernel
theorem dX12_cut_10 : decode cX12_cut 10 = .ok (.ifCond .ne 9, 3) := by decide +kernel
theorem dX12_cut_13 : decode cX12_cut 13 = .ok (.aload_n 0, 1) := by decide +kernel
theorem dX12_cut_14 : decode cX12_cut 14 = .ok (.iconst 1, 1) := by decide +kernel
theorem dX12_cut_15 : decode cX12_cut 15 = .ok (.invokevirtual 75, 3) := by decide +kernel
theorem dX12_cut_18 : decode cX12_cut 18 = .ok (.ireturn, 1) := by decide +kernel
theorem dX12_cut_19 : decode cX12_cut 19 = .ok (.iload_n 2, 1) := by decide +kernel
theorem dX12_cut_20 : decode cX12_cut 20 = .ok (.iconst 0, 1) := by decide +kernel
theorem dX12_cut_21 : decode cX12_cut 21 = .ok (.aload_n 0, 1) := by decide +kernel
theorem dX12_cut_22 : decode cX12_cut 22 = .ok (.getfield 28, 3) := by decide +kernel
theorem dX12_cut_25 : decode cX12_cut 25 = .ok (.iload_n 1, 1) := by decide +kernel
theorem dX12_cut_26 : decode cX12_cut 26 = .ok (.iaload, 1) := by decide +kernel
theorem dX12_cut_27 : decode cX12_cut 27 = .ok (.invokestatic 71, 3) := by decide +kernel
theorem dX12_cut_30 : decode cX12_cut 30 = .ok (.ifCond .ne 9, 3) := by decide +kernel
theorem dX12_cut_33 : decode cX12_cut 33 = .ok (.aload_n 0, 1) := by decide +kernel
theorem dX12_cut_34 : decode cX12_cut 34 = .ok (.iconst 2, 1) := by decide +kernel
theorem dX12_cut_35 : decode cX12_cut 35 = .ok (.invokevirtual 75, 3) := by decide +kernel
theorem dX12_cut_38 : decode cX12_cut 38 = .ok (.ireturn, 1) := by decide +kernel
theorem dX12_cut_39 : decode cX12_cut 39 = .ok (.aload_n 0, 1) := by decide +kernel
theorem dX12_cut_40 : decode cX12_cut 40 = .ok (.getfield 28, 3) := by decide +kernel
theorem dX12_cut_43 : decode cX12_cut 43 = .ok (.iload_n 1, 1) := by decide +kernel
theorem dX12_cut_44 : decode cX12_cut 44 = .ok (.iaload, 1) := by decide +kernel
theorem dX12_cut_45 : decode cX12_cut 45 = .ok (.istore_n 3, 1) := by decide +kernel
theorem dX12_cut_46 : decode cX12_cut 46 = .ok (.aload_n 0, 1) := by decide +kernel
theorem dX12_cut_47 : decode cX12_cut 47 = .ok (.getfield 28, 3) := by decide +kernel
theorem dX12_cut_50 : decode cX12_cut 50 = .ok (.iload_n 1, 1) := by decide +kernel
theorem dX12_cut_51 : decode cX12_cut 51 = .ok (.iload_n 2, 1) := by decide +kernel
theorem dX12_cut_52 : decode cX12_cut 52 = .ok (.iastore, 1) := by decide +kernel
theorem dX12_cut_53 : decode cX12_cut 53 = .ok (.iload_n 3, 1) := by decide +kernel
theorem dX12_cut_54 : decode cX12_cut 54 = .ok (.ireturn, 1) := by decide +kernel
set_option maxRecDepth 20000 in
theorem ggX12_lose_X12_isPlace : GoodIn wsX12_lose wsX12_isPlace := goodIn_r _ [6, 7, 8, 5, 9] (by decide +kernel) (by decide +kernel)
set_option maxRecDepth 20000 in
theorem gX12_lose_X12_isPlace : GoodIn wsX12_lose (va_wsS RX12 168 yX12_isPlace wsX12_isPlace) := goodIn_app (goodIn_of _ (by decide +kernel)) ggX12_lose_X12_isPlace
set_option maxRecDepth 20000 in
theorem ggX12_lose_X12_isNot : GoodIn wsX12_lose wsX12_isNot := goodIn_r _ [13, 1, 14, 15, 16, 17, 18, 19, 20, 21, 22, 23, 24, 25, 26, 27, 28, 29, 30, 31, 32, 33, 34, 35, 36, 37, 38] (by decide +kernel) (by decide +kernel)
set_option maxRecDepth 20000 in
theorem gX12_lose_X12_isNot : GoodIn wsX12_lose (wsV RX12 178 RX12 yX12_isNot wsX12_isNot) := goodIn_app (goodIn_of _ (by decide +kernel)) ggX12_lose_X12_isNot
theorem dX12_lose_0 : decode cX12_lose 0 = .ok (.aload_n 0, 1) := by decide +kernel
theorem dX12_lose_1 : decode cX12_lose 1 = .ok (.iconst 0, 1) := by decide +kernel
theorem dX12_lose_2 : decode cX12_lose 2 = .ok (.putfield 59, 3) := by decide +kernel
theorem dX12_lose_5 : decode cX12_lose 5 = .ok (.iload_n 1, 1) := by decide +kernel
theorem dX12_lose_6 : decode cX12_lose 6 = .ok (.invokestatic 168, 3) := by decide +kernel
theorem dX12_lose_9 : decode cX12_lose 9 = .ok (.ifCond .ne 9, 3) := by decide +kernel
theorem dX12_lose_12 : decode cX12_lose 12 = .ok (.aload_n 0, 1) := by decide +kernel
theorem dX12_lose_13 : decode cX12_lose 13 = .ok (.iconst 1, 1) := by decide +kernel
theorem dX12_lose_14 : decode cX12_lose 14 = .ok (.invokevirtual 178, 3) := by decide +kernel
theorem dX12_lose_17 : decode cX12_lose 17 = .ok (.ireturn, 1) := by decide +kernel
theorem dX12_lose_18 : decode cX12_lose 18 = .ok (.aload_n 0, 1) := by decide +kernel
theorem dX12_lose_19 : decode cX12_lose 19 = .ok (.getfield 28, 3) := by decide +kernel
theorem dX12_lose_22 : decode cX12_lose 22 = .ok (.iload_n 1, 1) := by decide +kernel
theorem dX12_lose_23 : decode cX12_lose 23 = .ok (.iaload, 1) := by decide +kernel
theorem dX12_lose_24 : decode cX12_lose 24 = .ok (.iconst (-1), 1) := by decide +kernel
theorem dX12_lose_25 : decode cX12_lose 25 = .ok (.if_icmp .eq 7, 3) := by decide +kernel
theorem dX12_lose_28 : decode cX12_lose 28 = .ok (.iconst 1, 1) := by decide +kernel
theorem dX12_lose_29 : decode cX12_lose 29 = .ok (.goto 4, 3) := by decide +kernel
theorem dX12_lose_32 : decode cX12_lose 32 = .ok (.iconst 0, 1) := by decide +kernel
theorem dX12_lose_33 : decode cX12_lose 33 = .ok (.istore_n 2, 1) := by decide +kernel
theorem dX12_lose_34 : decode cX12_lose 34 = .ok (.aload_n 0, 1) := by decide +kernel
theorem dX12_lose_35 : decode cX12_lose 35 = .ok (.getfield 28, 3) := by decide +kernel
theorem dX12_lose_38 : decode cX12_lose 38 = .ok (.iload_n 1, 1) := by decide +kernel
theorem dX12_lose_39 : decode cX12_lose 39 = .ok (.iconst (-1), 1) := by decide +kernel
theorem dX12_lose_40 : decode cX12_lose 40 = .ok (.iastore, 1) := by decide +kernel
theorem dX12_lose_41 : decode cX12_lose 41 = .ok (.iload_n 2, 1) := by decide +kernel
theorem dX12_lose_42 : decode cX12_lose 42 = .ok (.ireturn, 1) := by decide +kernel
set_option maxRecDepth 20000 in
theorem ggX12_exchange_X12_isPlace : GoodIn wsX12_exchange wsX12_isPlace := goodIn_r _ [7, 8, 9, 6, 10] (by decide +kernel) (by decide +kernel)
set_option maxRecDepth 20000 in
theorem gX12_exchange_X12_isPlace : GoodIn wsX12_exchange (va_wsS RX12 168 yX12_isPlace wsX12_isPlace) := goodIn_app (goodIn_of _ (by decide +kernel)) ggX12_exchange_X12_isPlace
set_option maxRecDepth 20000 in
theorem ggX12_exchange_X12_no : GoodIn wsX12_exchange wsX12_no := goodIn_r _ [14, 1, 15, 16, 17, 18, 19, 20, 21, 22, 23, 24, 25, 26, 27, 28, 29, 30, 31, 32, 33, 34, 35, 36, 37, 38, 39] (by decide +kernel) (by decide +kernel)
set_option maxRecDepth 20000 in
theorem gX12_exchange_X12_no : GoodIn wsX12_exchange (wsV RX12 75 RX12 yX12_no wsX12_no) := goodIn_app (goodIn_of _ (by decide +kernel)) ggX12_exchange_X12_no
theorem dX12_exchange_0 : decode cX12_exchange 0 = .ok (.aload_n 0, 1) := by decide +kernel
theorem dX12_exchange_1 : decode cX12_exchange 1 = .ok (.iconst 0, 1) := by decide +kernel
theorem dX12_exchange_2 : decode cX12_exchange 2 = .ok (.putfield 59, 3) := by decide +kernel
theorem dX12_exchange_5 : decode cX12_exchange 5 = .ok (.iload_n 1, 1) := by decide +kernel
theorem dX12_exchange_6 : decode cX12_exchange 6 = .ok (.invokestatic 168, 3) := by decide +kernel
theorem dX12_exchange_9 : decode cX12_exchange 9 = .ok (.ifCond .eq 10, 3) := by decide +kernel
theorem dX12_exchange_12 : decode cX12_exchange 12 = .ok (.iload_n 2, 1) := by decide +kernel
theorem dX12_exchange_13 : decode cX12_exchange 13 = .ok (.invokestatic 168, 3) := by decide +kernel
theorem dX12_exchange_16 : decode cX12_exchange 16 = .ok (.ifCond .ne 9, 3) := by decide +kernel
theorem dX12_exchange_19 : decode cX12_exchange 19 = .ok (.aload_n 0, 1) := by decide +kernel
theorem dX12_exchange_20 : decode cX12_exchange 20 = .ok (.iconst 1, 1) := by decide +kernel
theorem dX12_exchange_21 : decode cX12_exchange 21 = .ok (.invokevirtual 75, 3) := by decide +kernel
theorem dX12_exchange_24 : decode cX12_exchange 24 = .ok (.ireturn, 1) := by decide +kernel
theorem dX12_exchange_25 : decode cX12_exchange 25 = .ok (.aload_n 0, 1) := by decide +kernel
theorem dX12_exchange_26 : decode cX12_exchange 26 = .ok (.getfield 25, 3) := by decide +kernel
theorem dX12_exchange_29 : decode cX12_exchange 29 = .ok (.iload_n 1, 1) := by decide +kernel
theorem dX12_exchange_30 : decode cX12_exchange 30 = .ok (.aaload, 1) := by decide +kernel
theorem dX12_exchange_31 : decode cX12_exchange 31 = .ok (.astore_n 3, 1) := by decide +kernel
theorem dX12_exchange_32 : decode cX12_exchange 32 = .ok (.aload_n 0, 1) := by decide +kernel
theorem dX12_exchange_33 : decode cX12_exchange 33 = .ok (.getfield 28, 3) := by decide +kernel
theorem dX12_exchange_36 : decode cX12_exchange 36 = .ok (.iload_n 1, 1) := by decide +kernel
theorem dX12_exchange_37 : decode cX12_exchange 37 = .ok (.iaload, 1) := by decide +kernel
theorem dX12_exchange_38 : decode cX12_exchange 38 = .ok (.istore 4, 2) := by decide +kernel
theorem dX12_exchange_40 : decode cX12_exchange 40 = .ok (.aload_n 0, 1) := by decide +kernel
theorem dX12_exchange_41 : decode cX12_exchange 41 = .ok (.getfield 25, 3) := by decide +kernel
theorem dX12_exchange_44 : decode cX12_exchange 44 = .ok (.iload_n 1, 1) := by decide +kernel
theorem dX12_exchange_45 : decode cX12_exchange 45 = .ok (.aload_n 0, 1) := by decide +kernel
theorem dX12_exchange_46 : decode cX12_exchange 46 = .ok (.getfield 25, 3) := by decide +kernel
theorem dX12_exchange_49 : decode cX12_exchange 49 = .ok (.iload_n 2, 1) := by decide +kernel
theorem dX12_exchange_50 : decode cX12_exchange 50 = .ok (.aaload, 1) := by decide +kernel
theorem dX12_exchange_51 : decode cX12_exchange 51 = .ok (.aastore, 1) := by decide +kernel
theorem dX12_exchange_52 : decode cX12_exchange 52 = .ok (.aload_n 0, 1) := by decide +kernel
theorem dX12_exchange_53 : decode cX12_exchange 53 = .ok (.getfield 28, 3) := by decide +kernel
theorem dX12_exchange_56 : decode cX12_exchange 56 = .ok (.iload_n 1, 1) := by decide +kernel
theorem dX12_exchange_57 : decode cX12_exchange 57 = .ok (.aload_n 0, 1) := by decide +kernel
theorem dX12_exchange_58 : decode cX12_exchange 58 = .ok (.getfield 28, 3) := by decide +kernel
theorem dX12_exchange_61 : decode cX12_exchange 61 = .ok (.iload_n 2, 1) := by decide +kernel
theorem dX12_exchange_62 : decode cX12_exchange 62 = .ok (.iaload, 1) := by decide +kernel
theorem dX12_exchange_63 : decode cX12_exchange 63 = .ok (.iastore, 1) := by decide +kernel
theorem dX12_exchange_64 : decode cX12_exchange 64 = .ok (.aload_n 0, 1) := by decide +kernel
theorem dX12_exchange_65 : decode cX12_exchange 65 = .ok (.getfield 25, 3) := by decide +kernel
theorem dX12_exchange_68 : decode cX12_exchange 68 = .ok (.iload_n 2, 1) := by decide +kernel
theorem dX12_exchange_69 : decode cX12_exchange 69 = .ok (.aload_n 3, 1) := by decide +kernel
theorem dX12_exchange_70 : decode cX12_exchange 70 = .ok (.aastore, 1) := by decide +kernel
theorem dX12_exchange_71 : decode cX12_exchange 71 = .ok (.aload_n 0, 1) := by decide +kernel
theorem dX12_exchange_72 : decode cX12_exchange 72 = .ok (.getfield 28, 3) := by decide +kernel
theorem dX12_exchange_75 : decode cX12_exchange 75 = .ok (.iload_n 2, 1) := by decide +kernel
theorem dX12_exchange_76 : decode cX12_exchange 76 = .ok (.iload 4, 2) := by decide +kernel
theorem dX12_exchange_78 : decode cX12_exchange 78 = .ok (.iastore, 1) := by decide +kernel
theorem dX12_exchange_79 : decode cX12_exchange 79 = .ok (.aload_n 0, 1) := by decide +kernel
theorem dX12_exchange_80 : decode cX12_exchange 80 = .ok (.getfield 28, 3) := by decide +kernel
theorem dX12_exchange_83 : decode cX12_exchange 83 = .ok (.iload_n 1, 1) := by decide +kernel
theorem dX12_exchange_84 : decode cX12_exchange 84 = .ok (.iaload, 1) := by decide +kernel
theorem dX12_exchange_85 : decode cX12_exchange 85 = .ok (.iconst (-1), 1) := by decide +kernel
theorem dX12_exchange_86 : decode cX12_exchange 86 = .ok (.if_icmp .ne 7, 3) := by decide +kernel
theorem dX12_exchange_89 : decode cX12_exchange 89 = .ok (.iconst 0, 1) := by decide +kernel
theorem dX12_exchange_90 : decode cX12_exchange 90 = .ok (.goto 4, 3) := by decide +kernel
theorem dX12_exchange_93 : decode cX12_exchange 93 = .ok (.iconst 1, 1) := by decide +kernel
theorem dX12_exchange_94 : decode cX12_exchange 94 = .ok (.aload_n 0, 1) := by decide +kernel
theorem dX12_exchange_95 : decode cX12_exchange 95 = .ok (.getfield 28, 3) := by decide +kernel
theorem dX12_exchange_98 : decode cX12_exchange 98 = .ok (.iload_n 2, 1) := by decide +kernel
theorem dX12_exchange_99 : decode cX12_exchange 99 = .ok (.iaload, 1) := by decide +kernel
theorem dX12_exchange_100 : decode cX12_exchange 100 = .ok (.iconst (-1), 1) := by decide +kernel
theorem dX12_exchange_101 : decode cX12_exchange 101 = .ok (.if_icmp .ne 7, 3) := by decide +kernel
theorem dX12_exchange_104 : decode cX12_exchange 104 = .ok (.iconst 0, 1) := by decide +kernel
theorem dX12_exchange_105 : decode cX12_exchange 105 = .ok (.goto 4, 3) := by decide +kernel
theorem dX12_exchange_108 : decode cX12_exchange 108 = .ok (.iconst 1, 1) := by decide +kernel
theorem dX12_exchange_109 : decode cX12_exchange 109 = .ok (.iadd, 1) := by decide +kernel
theorem dX12_exchange_110 : decode cX12_exchange 110 = .ok (.ireturn, 1) := by decide +kernel
set_option maxRecDepth 20000 in
theorem ggX12_copy_X12_isVolume : GoodIn wsX12_copy wsX12_isVolume := goodIn_r _ [13, 2, 14, 15, 12, 16, 17, 18, 19, 24, 25, 26, 27, 28, 29, 30, 31, 32, 33, 34, 35, 36, 37, 38, 39, 40, 41, 42, 43, 44, 45, 46, 47, 48] (by decide +kernel) (by decide +kernel)
set_option maxRecDepth 20000 in
theorem gX12_copy_X12_isVolume : GoodIn wsX12_copy (wsV RX12 171 RX12 yX12_isVolume wsX12_isVolume) := goodIn_app (goodIn_of _ (by decide +kernel)) ggX12_copy_X12_isVolume
set_option maxRecDepth 20000 in
theorem ggX12_copy_X12_isPlace : GoodIn wsX12_copy wsX12_isPlace := goodIn_r _ [16, 17, 18, 12, 19] (by decide +kernel) (by decide +kernel)
set_option maxRecDepth 20000 in
theorem gX12_copy_X12_isPlace : GoodIn wsX12_copy (va_wsS RX12 168 yX12_isPlace wsX12_isPlace) := goodIn_app (goodIn_of _ (by decide +kernel)) ggX12_copy_X12_isPlace
set_option maxRecDepth 20000 in
theorem ggX12_copy_X12_no : GoodIn wsX12_copy wsX12_no := goodIn_r _ [23, 1, 24, 25, 26, 27, 28, 29, 30, 31, 32, 33, 34, 35, 36, 37, 38, 39, 40, 41, 42, 43, 44, 45, 46, 47, 48] (by decide +kernel) (by decide +kernel)
set_option maxRecDepth 20000 in
theorem gX12_copy_X12_no : GoodIn wsX12_copy (wsV RX12 75 RX12 yX12_no wsX12_no) := goodIn_app (goodIn_of _ (by decide +kernel)) ggX12_copy_X12_no
theorem dX12_copy_0 : decode cX12_copy 0 = .ok (.aload_n 0, 1) := by decide +kernel
theorem dX12_copy_1 : decode cX12_copy 1 = .ok (.iconst 0, 1) := by decide +kernel
theorem dX12_copy_2 : decode cX12_copy 2 = .ok (.putfield 59, 3) := by decide +kernel
theorem dX12_copy_5 : decode cX12_copy 5 = .ok (.aload_n 0, 1) := by decide +kernel
theorem dX12_copy_6 : decode cX12_copy 6 = .ok (.iload_n 1, 1) := by decide +kernel
theorem dX12_copy_7 : decode cX12_copy 7 = .ok (.invokevirtual 171, 3) := by decide +kernel
theorem dX12_copy_10 : decode cX12_copy 10 = .ok (.ifCond .eq 10, 3) := by decide +kernel
theorem dX12_copy_13 : decode cX12_copy 13 = .ok (.iload_n 2, 1) := by decide +kernel
theorem dX12_copy_14 : decode cX12_copy 14 = .ok (.invokestatic 168, 3) := by decide +kernel
theorem dX12_copy_17 : decode cX12_copy 17 = .ok (.ifCond .ne 9, 3) := by decide +kernel
theorem dX12_copy_20 : decode cX12_copy 20 = .ok (.aload_n 0, 1) := by decide +kernel
theorem dX12_copy_21 : decode cX12_copy 21 = .ok (.iconst 1, 1) := by decide +kernel
theorem dX12_copy_22 : decode cX12_copy 22 = .ok (.invokevirtual 75, 3) := by decide +kernel
theorem dX12_copy_25 : decode cX12_copy 25 = .ok (.ireturn, 1) := by decide +kernel
theorem dX12_copy_26 : decode cX12_copy 26 = .ok (.aload_n 0, 1) := by decide +kernel
theorem dX12_copy_27 : decode cX12_copy 27 = .ok (.getfield 28, 3) := by decide +kernel
theorem dX12_copy_30 : decode cX12_copy 30 = .ok (.iload_n 1, 1) := by decide +kernel
theorem dX12_copy_31 : decode cX12_copy 31 = .ok (.iaload, 1) := by decide +kernel
theorem dX12_copy_32 : decode cX12_copy 32 = .ok (.istore_n 3, 1) := by decide +kernel
theorem dX12_copy_33 : decode cX12_copy 33 = .ok (.iload_n 3, 1) := by decide +kernel
theorem dX12_copy_34 : decode cX12_copy 34 = .ok (.newarray .int, 2) := by decide +kernel
theorem dX12_copy_36 : decode cX12_copy 36 = .ok (.astore 4, 2) := by decide +kernel
theorem dX12_copy_38 : decode cX12_copy 38 = .ok (.aload_n 0, 1) := by decide +kernel
theorem dX12_copy_39 : decode cX12_copy 39 = .ok (.getfield 25, 3) := by decide +kernel
theorem dX12_copy_42 : decode cX12_copy 42 = .ok (.iload_n 1, 1) := by decide +kernel
theorem dX12_copy_43 : decode cX12_copy 43 = .ok (.aaload, 1) := by decide +kernel
theorem dX12_copy_44 : decode cX12_copy 44 = .ok (.iconst 0, 1) := by decide +kernel
theorem dX12_copy_45 : decode cX12_copy 45 = .ok (.aload 4, 2) := by decide +kernel
theorem dX12_copy_47 : decode cX12_copy 47 = .ok (.iconst 0, 1) := by decide +kernel
theorem dX12_copy_48 : decode cX12_copy 48 = .ok (.iload_n 3, 1) := by decide +kernel
theorem dX12_copy_49 : decode cX12_copy 49 = .ok (.invokestatic 98, 3) := by decide +kernel
theorem dX12_copy_52 : decode cX12_copy 52 = .ok (.aload_n 0, 1) := by decide +kernel
theorem dX12_copy_53 : decode cX12_copy 53 = .ok (.getfield 25, 3) := by decide +kernel
theorem dX12_copy_56 : decode cX12_copy 56 = .ok (.iload_n 2, 1) := by decide +kernel
theorem dX12_copy_57 : decode cX12_copy 57 = .ok (.aload 4, 2) := by decide +kernel
theorem dX12_copy_59 : decode cX12_copy 59 = .ok (.aastore, 1) := by decide +kernel
theorem dX12_copy_60 : decode cX12_copy 60 = .ok (.aload_n 0, 1) := by decide +kernel
theorem dX12_copy_61 : decode cX12_copy 61 = .ok (.getfield 28, 3) := by decide +kernel
theorem dX12_copy_64 : decode cX12_copy 64 = .ok (.iload_n 2, 1) := by decide +kernel
theorem dX12_copy_65 : decode cX12_copy 65 = .ok (.iload_n 3, 1) := by decide +kernel
theorem dX12_copy_66 : decode cX12_copy 66 = .ok (.iastore, 1) := by decide +kernel
theorem dX12_copy_67 : decode cX12_copy 67 = .ok (.iload_n 3, 1) := by decide +kernel
theorem dX12_copy_68 : decode cX12_copy 68 = .ok (.ireturn, 1) := by decide +kernel
set_option maxRecDepth 20000 in
theorem ggX12_isSoundNow_X12_isIn : GoodIn wsX12_isSoundNow wsX12_isIn := goodIn_r _ [6] (by decide +kernel) (by decide +kernel)
set_option maxRecDepth 20000 in
theorem gX12_isSoundNow_X12_isIn : GoodIn wsX12_isSoundNow (va_wsS RX12 71 yX12_isIn wsX12_isIn) := goodIn_app (goodIn_of _ (by decide +kernel)) ggX12_isSoundNow_X12_isIn
set_option maxRecDepth 20000 in
theorem ggX12_isSoundNow_X12_word : GoodIn wsX12_isSoundNow wsX12_word := goodIn_r _ [9] (by decide +kernel) (by decide +kernel)
set_option maxRecDepth 20000 in
theorem gX12_isSoundNow_X12_word : GoodIn wsX12_isSoundNow (va_wsS RX12 181 yX12_word wsX12_word) := goodIn_app (goodIn_of _ (by decide +kernel)) ggX12_isSoundNow_X12_word
set_option maxRecDepth 20000 in
theorem ggX12_isSoundNow_X12_bodySize : GoodIn wsX12_isSoundNow wsX12_bodySize := goodIn_r _ [12] (by decide +kernel) (by decide +kernel)
set_option maxRecDepth 20000 in
theorem gX12_isSoundNow_X12_bodySize : GoodIn wsX12_isSoundNow (va_wsS RX12 143 yX12_bodySize wsX12_bodySize) := goodIn_app (goodIn_of _ (by decide +kernel)) ggX12_isSoundNow_X12_bodySize
set_option maxRecDepth 20000 in
theorem ggX12_isSoundNow_X12_volumeCheck : GoodIn wsX12_isSoundNow wsX12_volumeCheck := goodIn_r _ [15, 16, 17, 5, 18, 19, 20, 21, 22, 23, 24] (by decide +kernel) (by decide +kernel)
set_option maxRecDepth 20000 in
theorem gX12_isSoundNow_X12_volumeCheck : GoodIn wsX12_isSoundNow (va_wsS RX12 146 yX12_volumeCheck wsX12_volumeCheck) := goodIn_app (goodIn_of _ (by decide +kernel)) ggX12_isSoundNow_X12_volumeCheck
theorem dX12_isSoundNow_0 : decode cX12_isSoundNow 0 = .ok (.aload_n 0, 1) := by decide +kernel
theorem dX12_isSoundNow_1 : decode cX12_isSoundNow 1 = .ok (.getfield 25, 3) := by decide +kernel
theorem dX12_isSoundNow_4 : decode cX12_isSoundNow 4 = .ok (.iload_n 1, 1) := by decide +kernel
theorem dX12_isSoundNow_5 : decode cX12_isSoundNow 5 = .ok (.aaload, 1) := by decide +kernel
theorem dX12_isSoundNow_6 : decode cX12_isSoundNow 6 = .ok (.astore_n 2, 1) := by decide +kernel
theorem dX12_isSoundNow_7 : decode cX12_isSoundNow 7 = .ok (.aload_n 0, 1) := by decide +kernel
theorem dX12_isSoundNow_8 : decode cX12_isSoundNow 8 = .ok (.getfield 28, 3) := by decide +kernel
theorem dX12_isSoundNow_11 : decode cX12_isSoundNow 11 = .ok (.iload_n 1, 1) := by decide +kernel
theorem dX12_isSoundNow_12 : decode cX12_isSoundNow 12 = .ok (.iaload, 1) := by decide +kernel
theorem dX12_isSoundNow_13 : decode cX12_isSoundNow 13 = .ok (.istore_n 3, 1) := by decide +kernel
theorem dX12_isSoundNow_14 : decode cX12_isSoundNow 14 = .ok (.iload_n 3, 1) := by decide +kernel
theorem dX12_isSoundNow_15 : decode cX12_isSoundNow 15 = .ok (.bipush 10, 2) := by decide +kernel
theorem dX12_isSoundNow_17 : decode cX12_isSoundNow 17 = .ok (.if_icmp .lt 44, 3) := by decide +kernel
theorem dX12_isSoundNow_20 : decode cX12_isSoundNow 20 = .ok (.aload_n 2, 1) := by decide +kernel
theorem dX12_isSoundNow_21 : decode cX12_isSoundNow 21 = .ok (.iconst 0, 1) := by decide +kernel
theorem dX12_isSoundNow_22 : decode cX12_isSoundNow 22 = .ok (.iaload, 1) := by decide +kernel
theorem dX12_isSoundNow_23 : decode cX12_isSoundNow 23 = .ok (.bipush 86, 2) := by decide +kernel
theorem dX12_isSoundNow_25 : decode cX12_isSoundNow 25 = .ok (.if_icmp .ne 36, 3) := by decide +kernel
theorem dX12_isSoundNow_28 : decode cX12_isSoundNow 28 = .ok (.aload_n 2, 1) := by decide +kernel
theorem dX12_isSoundNow_29 : decode cX12_isSoundNow 29 = .ok (.iconst 2, 1) := by decide +kernel
theorem dX12_isSoundNow_30 : decode cX12_isSoundNow 30 = .ok (.iaload, 1) := by decide +kernel
theorem dX12_isSoundNow_31 : decode cX12_isSoundNow 31 = .ok (.iconst 1, 1) := by decide +kernel
theorem dX12_isSoundNow_32 : decode cX12_isSoundNow 32 = .ok (.bipush 10, 2) := by decide +kernel
theorem dX12_isSoundNow_34 : decode cX12_isSoundNow 34 = .ok (.invokestatic 71, 3) := by decide +kernel
theorem dX12_isSoundNow_37 : decode cX12_isSoundNow 37 = .ok (.ifCond .eq 24, 3) := by decide +kernel
theorem dX12_isSoundNow_40 : decode cX12_isSoundNow 40 = .ok (.aload_n 2, 1) := by decide +kernel
theorem dX12_isSoundNow_41 : decode cX12_isSoundNow 41 = .ok (.iconst 3, 1) := by decide +kernel
theorem dX12_isSoundNow_42 : decode cX12_isSoundNow 42 = .ok (.iaload, 1) := by decide +kernel
theorem dX12_isSoundNow_43 : decode cX12_isSoundNow 43 = .ok (.bipush 6, 2) := by decide +kernel
theorem dX12_isSoundNow_45 : decode cX12_isSoundNow 45 = .ok (.if_icmp .gt 16, 3) := by decide +kernel
theorem dX12_isSoundNow_48 : decode cX12_isSoundNow 48 = .ok (.aload_n 2, 1) := by decide +kernel
theorem dX12_isSoundNow_49 : decode cX12_isSoundNow 49 = .ok (.iconst 1, 1) := by decide +kernel
theorem dX12_isSoundNow_50 : decode cX12_isSoundNow 50 = .ok (.iaload, 1) := by decide +kernel
theorem dX12_isSoundNow_51 : decode cX12_isSoundNow 51 = .ok (.aload_n 2, 1) := by decide +kernel
theorem dX12_isSoundNow_52 : decode cX12_isSoundNow 52 = .ok (.iconst 2, 1) := by decide +kernel
theorem dX12_isSoundNow_53 : decode cX12_isSoundNow 53 = .ok (.iaload, 1) := by decide +kernel
theorem dX12_isSoundNow_54 : decode cX12_isSoundNow 54 = .ok (.aload_n 2, 1) := by decide +kernel
theorem dX12_isSoundNow_55 : decode cX12_isSoundNow 55 = .ok (.iconst 3, 1) := by decide +kernel
theorem dX12_isSoundNow_56 : decode cX12_isSoundNow 56 = .ok (.iaload, 1) := by decide +kernel
theorem dX12_isSoundNow_57 : decode cX12_isSoundNow 57 = .ok (.iadd, 1) := by decide +kernel
theorem dX12_isSoundNow_58 : decode cX12_isSoundNow 58 = .ok (.if_icmp .lt 5, 3) := by decide +kernel
theorem dX12_isSoundNow_61 : decode cX12_isSoundNow 61 = .ok (.iconst 0, 1) := by decide +kernel
theorem dX12_isSoundNow_62 : decode cX12_isSoundNow 62 = .ok (.ireturn, 1) := by decide +kernel
theorem dX12_isSoundNow_63 : decode cX12_isSoundNow 63 = .ok (.aload_n 2, 1) := by decide +kernel
theorem dX12_isSoundNow_64 : decode cX12_isSoundNow 64 = .ok (.iconst 4, 1) := by decide +kernel
theorem dX12_isSoundNow_65 : decode cX12_isSoundNow 65 = .ok (.invokestatic 181, 3) := by decide +kernel
theorem dX12_isSoundNow_68 : decode cX12_isSoundNow 68 = .ok (.istore 4, 2) := by decide +kernel
theorem dX12_isSoundNow_70 : decode cX12_isSoundNow 70 = .ok (.iload_n 3, 1) := by decide +kernel
theorem dX12_isSoundNow_71 : decode cX12_isSoundNow 71 = .ok (.bipush 10, 2) := by decide +kernel
theorem dX12_isSoundNow_73 : decode cX12_isSoundNow 73 = .ok (.iload 4, 2) := by decide +kernel
theorem dX12_isSoundNow_75 : decode cX12_isSoundNow 75 = .ok (.iadd, 1) := by decide +kernel
theorem dX12_isSoundNow_76 : decode cX12_isSoundNow 76 = .ok (.if_icmp .ne 38, 3) := by decide +kernel
theorem dX12_isSoundNow_79 : decode cX12_isSoundNow 79 = .ok (.iload 4, 2) := by decide +kernel
theorem dX12_isSoundNow_81 : decode cX12_isSoundNow 81 = .ok (.aload_n 2, 1) := by decide +kernel
theorem dX12_isSoundNow_82 : decode cX12_isSoundNow 82 = .ok (.bipush 6, 2) := by decide +kernel
theorem dX12_isSoundNow_84 : decode cX12_isSoundNow 84 = .ok (.invokestatic 181, 3) := by decide +kernel
theorem dX12_isSoundNow_87 : decode cX12_isSoundNow 87 = .ok (.aload_n 2, 1) := by decide +kernel
theorem dX12_isSoundNow_88 : decode cX12_isSoundNow 88 = .ok (.iconst 2, 1) := by decide +kernel
theorem dX12_isSoundNow_89 : decode cX12_isSoundNow 89 = .ok (.iaload, 1) := by decide +kernel
theorem dX12_isSoundNow_90 : decode cX12_isSoundNow 90 = .ok (.invokestatic 143, 3) := by decide +kernel
theorem dX12_isSoundNow_93 : decode cX12_isSoundNow 93 = .ok (.if_icmp .ne 21, 3) := by decide +kernel
theorem dX12_isSoundNow_96 : decode cX12_isSoundNow 96 = .ok (.aload_n 2, 1) := by decide +kernel
theorem dX12_isSoundNow_97 : decode cX12_isSoundNow 97 = .ok (.bipush 8, 2) := by decide +kernel
theorem dX12_isSoundNow_99 : decode cX12_isSoundNow 99 = .ok (.invokestatic 181, 3) := by decide +kernel
theorem dX12_isSoundNow_102 : decode cX12_isSoundNow 102 = .ok (.aload_n 2, 1) := by decide +kernel
theorem dX12_isSoundNow_103 : decode cX12_isSoundNow 103 = .ok (.iload_n 3, 1) := by decide +kernel
theorem dX12_isSoundNow_104 : decode cX12_isSoundNow 104 = .ok (.invokestatic 146, 3) := by decide +kernel
theorem dX12_isSoundNow_107 : decode cX12_isSoundNow 107 = .ok (.if_icmp .ne 7, 3) := by decide +kernel
theorem dX12_isSoundNow_110 : decode cX12_isSoundNow 110 = .ok (.iconst 1, 1) := by decide +kernel
theorem dX12_isSoundNow_111 : decode cX12_isSoundNow 111 = .ok (.goto 4, 3) := by decide +kernel
theorem dX12_isSoundNow_114 : decode cX12_isSoundNow 114 = .ok (.iconst 0, 1) := by decide +kernel
theorem dX12_isSoundNow_115 : decode cX12_isSoundNow 115 = .ok (.ireturn, 1) := by decide +kernel
set_option maxRecDepth 20000 in
theorem ggX12_look_X12_isSoundNow : GoodIn wsX12_look wsX12_isSoundNow := goodIn_r _ [10, 5, 11, 12, 13, 9, 14, 15, 16, 17, 18, 19, 20, 21, 22, 23, 24, 25, 26, 27, 28, 29, 30, 31, 32, 33, 34, 35, 36, 37, 38, 39, 40, 41, 42, 43, 44, 45, 46, 47, 48, 49, 50, 51, 52, 53, 54, 55, 56, 57] (by decide +kernel) (by decide +kernel)
set_option maxRecDepth 20000 in
theorem gX12_look_X12_isSoundNow : GoodIn wsX12_look (wsV RX12 190 RX12 yX12_isSoundNow wsX12_isSoundNow) := goodIn_app (goodIn_of _ (by decide +kernel)) ggX12_look_X12_isSoundNow
theorem dX12_look_0 : decode cX12_look 0 = .ok (.aload_n 0, 1) := by decide +kernel
theorem dX12_look_1 : decode cX12_look 1 = .ok (.iconst (-1), 1) := by decide +kernel
theorem dX12_look_2 : decode cX12_look 2 = .ok (.putfield 184, 3) := by decide +kernel
theorem dX12_look_5 : decode cX12_look 5 = .ok (.aload_n 0, 1) := by decide +kernel
theorem dX12_look_6 : decode cX12_look 6 = .ok (.iconst 0, 1) := by decide +kernel
theorem dX12_look_7 : decode cX12_look 7 = .ok (.putfield 187, 3) := by decide +kernel
theorem dX12_look_10 : decode cX12_look 10 = .ok (.iconst 0, 1) := by decide +kernel
theorem dX12_look_11 : decode cX12_look 11 = .ok (.istore_n 1, 1) := by decide +kernel
theorem dX12_look_12 : decode cX12_look 12 = .ok (.iconst 0, 1) := by decide +kernel
theorem dX12_look_13 : decode cX12_look 13 = .ok (.istore_n 2, 1) := by decide +kernel
theorem dX12_look_14 : decode cX12_look 14 = .ok (.iload_n 2, 1) := by decide +kernel
theorem dX12_look_15 : decode cX12_look 15 = .ok (.bipush 16, 2) := by decide +kernel
theorem dX12_look_17 : decode cX12_look 17 = .ok (.if_icmp .ge 160, 3) := by decide +kernel
theorem dX12_look_20 : decode cX12_look 20 = .ok (.aload_n 0, 1) := by decide +kernel
theorem dX12_look_21 : decode cX12_look 21 = .ok (.getfield 52, 3) := by decide +kernel
theorem dX12_look_24 : decode cX12_look 24 = .ok (.iload_n 2, 1) := by decide +kernel
theorem dX12_look_25 : decode cX12_look 25 = .ok (.aload_n 0, 1) := by decide +kernel
theorem dX12_look_26 : decode cX12_look 26 = .ok (.iload_n 2, 1) := by decide +kernel
theorem dX12_look_27 : decode cX12_look 27 = .ok (.invokevirtual 190, 3) := by decide +kernel
theorem dX12_look_30 : decode cX12_look 30 = .ok (.bastore, 1) := by decide +kernel
theorem dX12_look_31 : decode cX12_look 31 = .ok (.aload_n 0, 1) := by decide +kernel
theorem dX12_look_32 : decode cX12_look 32 = .ok (.getfield 56, 3) := by decide +kernel
theorem dX12_look_35 : decode cX12_look 35 = .ok (.iload_n 2, 1) := by decide +kernel
theorem dX12_look_36 : decode cX12_look 36 = .ok (.iconst (-1), 1) := by decide +kernel
theorem dX12_look_37 : decode cX12_look 37 = .ok (.iastore, 1) := by decide +kernel
theorem dX12_look_38 : decode cX12_look 38 = .ok (.aload_n 0, 1) := by decide +kernel
theorem dX12_look_39 : decode cX12_look 39 = .ok (.getfield 52, 3) := by decide +kernel
theorem dX12_look_42 : decode cX12_look 42 = .ok (.iload_n 2, 1) := by decide +kernel
theorem dX12_look_43 : decode cX12_look 43 = .ok (.baload, 1) := by decide +kernel
theorem dX12_look_44 : decode cX12_look 44 = .ok (.ifCond .ne 6, 3) := by decide +kernel
theorem dX12_look_47 : decode cX12_look 47 = .ok (.goto 124, 3) := by decide +kernel
theorem dX12_look_50 : decode cX12_look 50 = .ok (.aload_n 0, 1) := by decide +kernel
theorem dX12_look_51 : decode cX12_look 51 = .ok (.getfield 184, 3) := by decide +kernel
theorem dX12_look_54 : decode cX12_look 54 = .ok (.iconst (-1), 1) := by decide +kernel
theorem dX12_look_55 : decode cX12_look 55 = .ok (.if_icmp .ne 8, 3) := by decide +kernel
theorem dX12_look_58 : decode cX12_look 58 = .ok (.aload_n 0, 1) := by decide +kernel
theorem dX12_look_59 : decode cX12_look 59 = .ok (.iload_n 2, 1) := by decide +kernel
theorem dX12_look_60 : decode cX12_look 60 = .ok (.putfield 184, 3) := by decide +kernel
theorem dX12_look_63 : decode cX12_look 63 = .ok (.aload_n 0, 1) := by decide +kernel
theorem dX12_look_64 : decode cX12_look 64 = .ok (.getfield 25, 3) := by decide +kernel
theorem dX12_look_67 : decode cX12_look 67 = .ok (.iload_n 2, 1) := by decide +kernel
theorem dX12_look_68 : decode cX12_look 68 = .ok (.aaload, 1) := by decide +kernel
theorem dX12_look_69 : decode cX12_look 69 = .ok (.astore_n 3, 1) := by decide +kernel
theorem dX12_look_70 : decode cX12_look 70 = .ok (.aload_n 0, 1) := by decide +kernel
theorem dX12_look_71 : decode cX12_look 71 = .ok (.getfield 25, 3) := by decide +kernel
theorem dX12_look_74 : decode cX12_look 74 = .ok (.aload_n 0, 1) := by decide +kernel
theorem dX12_look_75 : decode cX12_look 75 = .ok (.getfield 184, 3) := by decide +kernel
theorem dX12_look_78 : decode cX12_look 78 = .ok (.aaload, 1) := by decide +kernel
theorem dX12_look_79 : decode cX12_look 79 = .ok (.astore 4, 2) := by decide +kernel
theorem dX12_look_81 : decode cX12_look 81 = .ok (.iload_n 1, 1) := by decide +kernel
theorem dX12_look_82 : decode cX12_look 82 = .ok (.aload_n 3, 1) := by decide +kernel
theorem dX12_look_83 : decode cX12_look 83 = .ok (.iconst 1, 1) := by decide +kernel
theorem dX12_look_84 : decode cX12_look 84 = .ok (.iaload, 1) := by decide +kernel
theorem dX12_look_85 : decode cX12_look 85 = .ok (.ishr, 1) := by decide +kernel
theorem dX12_look_86 : decode cX12_look 86 = .ok (.iconst 1, 1) := by decide +kernel
theorem dX12_look_87 : decode cX12_look 87 = .ok (.iand, 1) := by decide +kernel
theorem dX12_look_88 : decode cX12_look 88 = .ok (.ifCond .ne 7, 3) := by decide +kernel
theorem dX12_look_91 : decode cX12_look 91 = .ok (.iconst 1, 1) := by decide +kernel
theorem dX12_look_92 : decode cX12_look 92 = .ok (.goto 4, 3) := by decide +kernel
theorem dX12_look_95 : decode cX12_look 95 = .ok (.iconst 0, 1) := by decide +kernel
theorem dX12_look_96 : decode cX12_look 96 = .ok (.istore 5, 2) := by decide +kernel
theorem dX12_look_98 : decode cX12_look 98 = .ok (.iconst 2, 1) := by decide +kernel
theorem dX12_look_99 : decode cX12_look 99 = .ok (.istore 6, 2) := by decide +kernel
theorem dX12_look_101 : decode cX12_look 101 = .ok (.iload 6, 2) := by decide +kernel
theorem dX12_look_103 : decode cX12_look 103 = .ok (.bipush 8, 2) := by decide +kernel
theorem dX12_look_105 : decode cX12_look 105 = .ok (.if_icmp .ge 31, 3) := by decide +kernel
theorem dX12_look_108 : decode cX12_look 108 = .ok (.iload 5, 2) := by decide +kernel
theorem dX12_look_110 : decode cX12_look 110 = .ok (.aload_n 3, 1) := by decide +kernel
theorem dX12_look_111 : decode cX12_look 111 = .ok (.iload 6, 2) := by decide +kernel
theorem dX12_look_113 : decode cX12_look 113 = .ok (.iaload, 1) := by decide +kernel
theorem dX12_look_114 : decode cX12_look 114 = .ok (.aload 4, 2) := by decide +kernel
theorem dX12_look_116 : decode cX12_look 116 = .ok (.iload 6, 2) := by decide +kernel
theorem dX12_look_118 : decode cX12_look 118 = .ok (.iaload, 1) := by decide +kernel
theorem dX12_look_119 : decode cX12_look 119 = .ok (.if_icmp .ne 7, 3) := by decide +kernel
theorem dX12_look_122 : decode cX12_look 122 = .ok (.iconst 1, 1) := by decide +kernel
theorem dX12_look_123 : decode cX12_look 123 = .ok (.goto 4, 3) := by decide +kernel
theorem dX12_look_126 : decode cX12_look 126 = .ok (.iconst 0, 1) := by decide +kernel
theorem dX12_look_127 : decode cX12_look 127 = .ok (.iand, 1) := by decide +kernel
theorem dX12_look_128 : decode cX12_look 128 = .ok (.istore 5, 2) := by decide +kernel
theorem dX12_look_130 : decode cX12_look 130 = .ok (.iinc 6 1, 3) := by decide +kernel
theorem dX12_look_133 : decode cX12_look 133 = .ok (.goto (-32), 3) := by decide +kernel
theorem dX12_look_136 : decode cX12_look 136 = .ok (.iload 5, 2) := by decide +kernel
theorem dX12_look_138 : decode cX12_look 138 = .ok (.ifCond .ne 6, 3) := by decide +kernel
theorem dX12_look_141 : decode cX12_look 141 = .ok (.goto 30, 3) := by decide +kernel
theorem dX12_look_144 : decode cX12_look 144 = .ok (.iload_n 1, 1) := by decide +kernel
theorem dX12_look_145 : decode cX12_look 145 = .ok (.iconst 1, 1) := by decide +kernel
theorem dX12_look_146 : decode cX12_look 146 = .ok (.aload_n 3, 1) := by decide +kernel
theorem dX12_look_147 : decode cX12_look 147 = .ok (.iconst 1, 1) := by decide +kernel
theorem dX12_look_148 : decode cX12_look 148 = .ok (.iaload, 1) := by decide +kernel
theorem dX12_look_149 : decode cX12_look 149 = .ok (.ishl, 1) := by decide +kernel
theorem dX12_look_150 : decode cX12_look 150 = .ok (.ior, 1) := by decide +kernel
theorem dX12_look_151 : decode cX12_look 151 = .ok (.istore_n 1, 1) := by decide +kernel
theorem dX12_look_152 : decode cX12_look 152 = .ok (.aload_n 0, 1) := by decide +kernel
theorem dX12_look_153 : decode cX12_look 153 = .ok (.getfield 56, 3) := by decide +kernel
theorem dX12_look_156 : decode cX12_look 156 = .ok (.iload_n 2, 1) := by decide +kernel
theorem dX12_look_157 : decode cX12_look 157 = .ok (.aload_n 3, 1) := by decide +kernel
theorem dX12_look_158 : decode cX12_look 158 = .ok (.iconst 1, 1) := by decide +kernel
theorem dX12_look_159 : decode cX12_look 159 = .ok (.iaload, 1) := by decide +kernel
theorem dX12_look_160 : decode cX12_look 160 = .ok (.iastore, 1) := by decide +kernel
theorem dX12_look_161 : decode cX12_look 161 = .ok (.aload_n 0, 1) := by decide +kernel
theorem dX12_look_162 : decode cX12_look 162 = .ok (.dup, 1) := by decide +kernel
theorem dX12_look_163 : decode cX12_look 163 = .ok (.getfield 187, 3) := by decide +kernel
theorem dX12_look_166 : decode cX12_look 166 = .ok (.iconst 1, 1) := by decide +kernel
theorem dX12_look_167 : decode cX12_look 167 = .ok (.iadd, 1) := by decide +kernel
theorem dX12_look_168 : decode cX12_look 168 = .ok (.putfield 187, 3) := by decide +kernel
theorem dX12_look_171 : decode cX12_look 171 = .ok (.iinc 2 1, 3) := by decide +kernel
theorem dX12_look_174 : decode cX12_look 174 = .ok (.goto (-160), 3) := by decide +kernel
theorem dX12_look_177 : decode cX12_look 177 = .ok (.return_, 1) := by decide +kernel
set_option maxRecDepth 20000 in
theorem ggX12_isSound_X12_isPlace : GoodIn wsX12_isSound wsX12_isPlace := goodIn_r _ [5, 6, 7, 4, 8] (by decide +kernel) (by decide +kernel)
set_option maxRecDepth 20000 in
theorem gX12_isSound_X12_isPlace : GoodIn wsX12_isSound (va_wsS RX12 168 yX12_isPlace wsX12_isPlace) := goodIn_app (goodIn_of _ (by decide +kernel)) ggX12_isSound_X12_isPlace
set_option maxRecDepth 20000 in
theorem ggX12_isSound_X12_isSoundNow : GoodIn wsX12_isSound wsX12_isSoundNow := goodIn_r _ [12, 13, 14, 6, 7, 4, 8, 15, 16, 17, 18, 19, 20, 21, 22, 23, 24, 25, 26, 27, 28, 29, 30, 31, 32, 37, 38, 39, 40, 41, 42, 43, 44, 45, 46, 47, 48, 49, 50, 51, 52, 53, 54, 55, 56, 57, 58, 59, 60, 61] (by decide +kernel) (by decide +kernel)
set_option maxRecDepth 20000 in
theorem gX12_isSound_X12_isSoundNow : GoodIn wsX12_isSound (wsV RX12 190 RX12 yX12_isSoundNow wsX12_isSoundNow) := goodIn_app (goodIn_of _ (by decide +kernel)) ggX12_isSound_X12_isSoundNow
set_option maxRecDepth 20000 in
theorem ggX12_isSound_X12_isNot : GoodIn wsX12_isSound wsX12_isNot := goodIn_r _ [36, 1, 37, 38, 39, 40, 41, 42, 43, 44, 45, 46, 47, 48, 49, 50, 51, 52, 53, 54, 55, 56, 57, 58, 59, 60, 61] (by decide +kernel) (by decide +kernel)
set_option maxRecDepth 20000 in
theorem gX12_isSound_X12_isNot : GoodIn wsX12_isSound (wsV RX12 178 RX12 yX12_isNot wsX12_isNot) := goodIn_app (goodIn_of _ (by decide +kernel)) ggX12_isSound_X12_isNot
theorem dX12_isSound_0 : decode cX12_isSound 0 = .ok (.aload_n 0, 1) := by decide +kernel
theorem dX12_isSound_1 : decode cX12_isSound 1 = .ok (.iconst 0, 1) := by decide +kernel
theorem dX12_isSound_2 : decode cX12_isSound 2 = .ok (.putfield 59, 3) := by decide +kernel
theorem dX12_isSound_5 : decode cX12_isSound 5 = .ok (.iload_n 1, 1) := by decide +kernel
theorem dX12_isSound_6 : decode cX12_isSound 6 = .ok (.invokestatic 168, 3) := by decide +kernel
theorem dX12_isSound_9 : decode cX12_isSound 9 = .ok (.ifCond .eq 11, 3) := by decide +kernel
theorem dX12_isSound_12 : decode cX12_isSound 12 = .ok (.aload_n 0, 1) := by decide +kernel
theorem dX12_isSound_13 : decode cX12_isSound 13 = .ok (.iload_n 1, 1) := by decide +kernel
theorem dX12_isSound_14 : decode cX12_isSound 14 = .ok (.invokevirtual 190, 3) := by decide +kernel
theorem dX12_isSound_17 : decode cX12_isSound 17 = .ok (.goto 8, 3) := by decide +kernel
theorem dX12_isSound_20 : decode cX12_isSound 20 = .ok (.aload_n 0, 1) := by decide +kernel
theorem dX12_isSound_21 : decode cX12_isSound 21 = .ok (.iconst 1, 1) := by decide +kernel
theorem dX12_isSound_22 : decode cX12_isSound 22 = .ok (.invokevirtual 178, 3) := by decide +kernel
theorem dX12_isSound_25 : decode cX12_isSound 25 = .ok (.ireturn, 1) := by decide +kernel
set_option maxRecDepth 20000 in
theorem ggX12_leader_X12_look : GoodIn wsX12_leader wsX12_look := goodIn_r _ [6, 1, 7, 8, 9, 10, 11, 12, 13, 5, 14, 15, 16, 17, 18, 19, 20, 21, 22, 23, 24, 25, 26, 27, 28, 29, 30, 31, 32, 33, 34, 35, 36, 42, 43, 44, 45, 46, 47, 48, 49, 50, 51, 52, 53, 54, 55, 56, 57, 58, 59, 60, 61, 62, 63, 64, 65, 66] (by decide +kernel) (by decide +kernel)
set_option maxRecDepth 20000 in
theorem gX12_leader_X12_look : GoodIn wsX12_leader (wsV RX12 193 RX12 yX12_look wsX12_look) := goodIn_app (goodIn_of _ (by decide +kernel)) ggX12_leader_X12_look
set_option maxRecDepth 20000 in
theorem ggX12_leader_X12_ok : GoodIn wsX12_leader wsX12_ok := goodIn_r _ [40, 41, 42, 43, 44, 45, 46, 47, 48, 49, 50, 51, 52, 53, 54, 55, 56, 57, 58, 59, 60, 61, 62, 63, 64, 65, 66] (by decide +kernel) (by decide +kernel)
set_option maxRecDepth 20000 in
theorem gX12_leader_X12_ok : GoodIn wsX12_leader (wsV RX12 115 RX12 yX12_ok wsX12_ok) := goodIn_app (goodIn_of _ (by decide +kernel)) ggX12_leader_X12_ok
theorem dX12_leader_0 : decode cX12_leader 0 = .ok (.aload_n 0, 1) := by decide +kernel
theorem dX12_leader_1 : decode cX12_leader 1 = .ok (.invokevirtual 193, 3) := by decide +kernel
theorem dX12_leader_4 : decode cX12_leader 4 = .ok (.aload_n 0, 1) := by decide +kernel
theorem dX12_leader_5 : decode cX12_leader 5 = .ok (.aload_n 0, 1) := by decide +kernel
theorem dX12_leader_6 : decode cX12_leader 6 = .ok (.getfield 184, 3) := by decide +kernel
theorem dX12_leader_9 : decode cX12_leader 9 = .ok (.invokevirtual 115, 3) := by decide +kernel
theorem dX12_leader_12 : decode cX12_leader 12 = .ok (.ireturn, 1) := by decide +kernel
set_option maxRecDepth 20000 in
theorem ggX12_present_X12_look : GoodIn wsX12_present wsX12_look := goodIn_r _ [6, 7, 1, 8, 9, 10, 11, 12, 13, 5, 14, 15, 16, 17, 18, 19, 20, 21, 22, 23, 24, 25, 26, 27, 28, 29, 30, 31, 32, 33, 34, 35, 36, 42, 43, 44, 45, 46, 47, 48, 49, 50, 51, 52, 53, 54, 55, 56, 57, 58, 59, 60, 61, 62, 63, 64, 65, 66] (by decide +kernel) (by decide +kernel)
set_option maxRecDepth 20000 in
theorem gX12_present_X12_look : GoodIn wsX12_present (wsV RX12 193 RX12 yX12_look wsX12_look) := goodIn_app (goodIn_of _ (by decide +kernel)) ggX12_present_X12_look
set_option maxRecDepth 20000 in
theorem ggX12_present_X12_ok : GoodIn wsX12_present wsX12_ok := goodIn_r _ [40, 41, 42, 43, 44, 45, 46, 47, 48, 49, 50, 51, 52, 53, 54, 55, 56, 57, 58, 59, 60, 61, 62, 63, 64, 65, 66] (by decide +kernel) (by decide +kernel)
set_option maxRecDepth 20000 in
theorem gX12_present_X12_ok : GoodIn wsX12_present (wsV RX12 115 RX12 yX12_ok wsX12_ok) := goodIn_app (goodIn_of _ (by decide +kernel)) ggX12_present_X12_ok
theorem dX12_present_0 : decode cX12_present 0 = .ok (.aload_n 0, 1) := by decide +kernel
theorem dX12_present_1 : decode cX12_present 1 = .ok (.invokevirtual 193, 3) := by decide +kernel
theorem dX12_present_4 : decode cX12_present 4 = .ok (.aload_n 0, 1) := by decide +kernel
theorem dX12_present_5 : decode cX12_present 5 = .ok (.aload_n 0, 1) := by decide +kernel
theorem dX12_present_6 : decode cX12_present 6 = .ok (.getfield 187, 3) := by decide +kernel
theorem dX12_present_9 : decode cX12_present 9 = .ok (.invokevirtual 115, 3) := by decide +kernel
theorem dX12_present_12 : decode cX12_present 12 = .ok (.ireturn, 1) := by decide +kernel
set_option maxRecDepth 20000 in
theorem ggX12_numberOf_X12_isPlace : GoodIn wsX12_numberOf wsX12_isPlace := goodIn_r _ [6, 7, 8, 5, 9] (by decide +kernel) (by decide +kernel)
set_option maxRecDepth 20000 in
theorem gX12_numberOf_X12_isPlace : GoodIn wsX12_numberOf (va_wsS RX12 168 yX12_isPlace wsX12_isPlace) := goodIn_app (goodIn_of _ (by decide +kernel)) ggX12_numberOf_X12_isPlace
set_option maxRecDepth 20000 in
theorem ggX12_numberOf_X12_no : GoodIn wsX12_numberOf wsX12_no := goodIn_r _ [13, 1, 45, 46, 47, 48, 49, 50, 51, 52, 53, 54, 55, 56, 57, 58, 59, 60, 61, 62, 63, 64, 65, 66, 67, 68, 69] (by decide +kernel) (by decide +kernel)
set_option maxRecDepth 20000 in
theorem gX12_numberOf_X12_no : GoodIn wsX12_numberOf (wsV RX12 75 RX12 yX12_no wsX12_no) := goodIn_app (goodIn_of _ (by decide +kernel)) ggX12_numberOf_X12_no
set_option maxRecDepth 20000 in
theorem ggX12_numberOf_X12_look : GoodIn wsX12_numberOf wsX12_look := goodIn_r _ [17, 18, 19, 20, 2, 21, 22, 23, 24, 5, 25, 26, 7, 8, 9, 27, 28, 29, 30, 31, 32, 33, 34, 35, 36, 37, 38, 39, 40, 41, 42, 43, 44, 45, 46, 47, 48, 49, 50, 51, 52, 53, 54, 55, 56, 57, 58, 59, 60, 61, 62, 63, 64, 65, 66, 67, 68, 69] (by decide +kernel) (by decide +kernel)
set_option maxRecDepth 20000 in
theorem gX12_numberOf_X12_look : GoodIn wsX12_numberOf (wsV RX12 193 RX12 yX12_look wsX12_look) := goodIn_app (goodIn_of _ (by decide +kernel)) ggX12_numberOf_X12_look
theorem dX12_numberOf_0 : decode cX12_numberOf 0 = .ok (.aload_n 0, 1) := by decide +kernel
theorem dX12_numberOf_1 : decode cX12_numberOf 1 = .ok (.iconst 0, 1) := by decide +kernel
theorem dX12_numberOf_2 : decode cX12_numberOf 2 = .ok (.putfield 59, 3) := by decide +kernel
theorem dX12_numberOf_5 : decode cX12_numberOf 5 = .ok (.iload_n 1, 1) := by decide +kernel
theorem dX12_numberOf_6 : decode cX12_numberOf 6 = .ok (.invokestatic 168, 3) := by decide +kernel
theorem dX12_numberOf_9 : decode cX12_numberOf 9 = .ok (.ifCond .ne 9, 3) := by decide +kernel
theorem dX12_numberOf_12 : decode cX12_numberOf 12 = .ok (.aload_n 0, 1) := by decide +kernel
theorem dX12_numberOf_13 : decode cX12_numberOf 13 = .ok (.iconst 1, 1) := by decide +kernel
theorem dX12_numberOf_14 : decode cX12_numberOf 14 = .ok (.invokevirtual 75, 3) := by decide +kernel
theorem dX12_numberOf_17 : decode cX12_numberOf 17 = .ok (.ireturn, 1) := by decide +kernel
theorem dX12_numberOf_18 : decode cX12_numberOf 18 = .ok (.aload_n 0, 1) := by decide +kernel
theorem dX12_numberOf_19 : decode cX12_numberOf 19 = .ok (.invokevirtual 193, 3) := by decide +kernel
theorem dX12_numberOf_22 : decode cX12_numberOf 22 = .ok (.aload_n 0, 1) := by decide +kernel
theorem dX12_numberOf_23 : decode cX12_numberOf 23 = .ok (.getfield 56, 3) := by decide +kernel
theorem dX12_numberOf_26 : decode cX12_numberOf 26 = .ok (.iload_n 1, 1) := by decide +kernel
theorem dX12_numberOf_27 : decode cX12_numberOf 27 = .ok (.iaload, 1) := by decide +kernel
theorem dX12_numberOf_28 : decode cX12_numberOf 28 = .ok (.ireturn, 1) := by decide +kernel
theorem dX12_spareNow_0 : decode cX12_spareNow 0 = .ok (.aload_n 0, 1) := by decide +kernel
theorem dX12_spareNow_1 : decode cX12_spareNow 1 = .ok (.getfield 184, 3) := by decide +kernel
theorem dX12_spareNow_4 : decode cX12_spareNow 4 = .ok (.iconst (-1), 1) := by decide +kernel
theorem dX12_spareNow_5 : decode cX12_spareNow 5 = .ok (.if_icmp .eq 21, 3) := by decide +kernel
theorem dX12_spareNow_8 : decode cX12_spareNow 8 = .ok (.aload_n 0, 1) := by decide +kernel
theorem dX12_spareNow_9 : decode cX12_spareNow 9 = .ok (.getfield 187, 3) := by decide +kernel
theorem dX12_spareNow_12 : decode cX12_spareNow 12 = .ok (.aload_n 0, 1) := by decide +kernel
theorem dX12_spareNow_13 : decode cX12_spareNow 13 = .ok (.getfield 25, 3) := by decide +kernel
theorem dX12_spareNow_16 : decode cX12_spareNow 16 = .ok (.aload_n 0, 1) := by decide +kernel
theorem dX12_spareNow_17 : decode cX12_spareNow 17 = .ok (.getfield 184, 3) := by decide +kernel
theorem dX12_spareNow_20 : decode cX12_spareNow 20 = .ok (.aaload, 1) := by decide +kernel
theorem dX12_spareNow_21 : decode cX12_spareNow 21 = .ok (.iconst 2, 1) := by decide +kernel
theorem dX12_spareNow_22 : decode cX12_spareNow 22 = .ok (.iaload, 1) := by decide +kernel
theorem dX12_spareNow_23 : decode cX12_spareNow 23 = .ok (.if_icmp .ge 7, 3) := by decide +kernel
theorem dX12_spareNow_26 : decode cX12_spareNow 26 = .ok (.iconst (-1), 1) := by decide +kernel
theorem dX12_spareNow_27 : decode cX12_spareNow 27 = .ok (.goto 19, 3) := by decide +kernel
theorem dX12_spareNow_30 : decode cX12_spareNow 30 = .ok (.aload_n 0, 1) := by decide +kernel
theorem dX12_spareNow_31 : decode cX12_spareNow 31 = .ok (.getfield 187, 3) := by decide +kernel
theorem dX12_spareNow_34 : decode cX12_spareNow 34 = .ok (.aload_n 0, 1) := by decide +kernel
theorem dX12_spareNow_35 : decode cX12_spareNow 35 = .ok (.getfield 25, 3) := by decide +kernel
theorem dX12_spareNow_38 : decode cX12_spareNow 38 = .ok (.aload_n 0, 1) := by decide +kernel
theorem dX12_spareNow_39 : decode cX12_spareNow 39 = .ok (.getfield 184, 3) := by decide +kernel
theorem dX12_spareNow_42 : decode cX12_spareNow 42 = .ok (.aaload, 1) := by decide +kernel
theorem dX12_spareNow_43 : decode cX12_spareNow 43 = .ok (.iconst 2, 1) := by decide +kernel
theorem dX12_spareNow_44 : decode cX12_spareNow 44 = .ok (.iaload, 1) := by decide +kernel
theorem dX12_spareNow_45 : decode cX12_spareNow 45 = .ok (.isub, 1) := by decide +kernel
theorem dX12_spareNow_46 : decode cX12_spareNow 46 = .ok (.ireturn, 1) := by decide +kernel
set_option maxRecDepth 20000 in
theorem ggX12_spare_X12_look : GoodIn wsX12_spare wsX12_look := goodIn_r _ [5, 6, 7, 8, 9, 10, 11, 12, 13, 4, 14, 15, 16, 17, 18, 19, 20, 21, 22, 23, 24, 25, 26, 27, 28, 29, 30, 31, 32, 33, 34, 35, 36, 46, 47, 48, 49, 50, 51, 52, 53, 54, 55, 56, 57, 58, 59, 60, 61, 62, 63, 64, 65, 66, 67, 68, 69, 70] (by decide +kernel) (by decide +kernel)
set_option maxRecDepth 20000 in
theorem gX12_spare_X12_look : GoodIn wsX12_spare (wsV RX12 193 RX12 yX12_look wsX12_look) := goodIn_app (goodIn_of _ (by decide +kernel)) ggX12_spare_X12_look
set_option maxRecDepth 20000 in
theorem ggX12_spare_X12_spareNow : GoodIn wsX12_spare wsX12_spareNow := goodIn_r _ [40, 6, 7, 10, 46, 47, 48, 49, 50, 51, 52, 53, 54, 55, 56, 57, 58, 59, 60, 61, 62, 63, 64, 65, 66, 67, 68, 69, 70] (by decide +kernel) (by decide +kernel)
set_option maxRecDepth 20000 in
theorem gX12_spare_X12_spareNow : GoodIn wsX12_spare (wsV RX12 196 RX12 yX12_spareNow wsX12_spareNow) := goodIn_app (goodIn_of _ (by decide +kernel)) ggX12_spare_X12_spareNow
set_option maxRecDepth 20000 in
theorem ggX12_spare_X12_ok : GoodIn wsX12_spare wsX12_ok := goodIn_r _ [44, 45, 46, 47, 48, 49, 50, 51, 52, 53, 54, 55, 56, 57, 58, 59, 60, 61, 62, 63, 64, 65, 66, 67, 68, 69, 70] (by decide +kernel) (by decide +kernel)
set_option maxRecDepth 20000 in
theorem gX12_spare_X12_ok : GoodIn wsX12_spare (wsV RX12 115 RX12 yX12_ok wsX12_ok) := goodIn_app (goodIn_of _ (by decide +kernel)) ggX12_spare_X12_ok
theorem dX12_spare_0 : decode cX12_spare 0 = .ok (.aload_n 0, 1) := by decide +kernel
theorem dX12_spare_1 : decode cX12_spare 1 = .ok (.invokevirtual 193, 3) := by decide +kernel
theorem dX12_spare_4 : decode cX12_spare 4 = .ok (.aload_n 0, 1) := by decide +kernel
theorem dX12_spare_5 : decode cX12_spare 5 = .ok (.aload_n 0, 1) := by decide +kernel
theorem dX12_spare_6 : decode cX12_spare 6 = .ok (.invokevirtual 196, 3) := by decide +kernel
theorem dX12_spare_9 : decode cX12_spare 9 = .ok (.invokevirtual 115, 3) := by decide +kernel
theorem dX12_spare_12 : decode cX12_spare 12 = .ok (.ireturn, 1) := by decide +kernel
set_option maxRecDepth 20000 in
theorem ggX12_repair_X12_putVolumes : GoodIn wsX12_repair wsX12_putVolumes := goodIn_r _ [10, 11, 12, 13, 14, 9, 15, 16, 17, 18, 19, 20, 21, 22, 23, 24, 25, 26, 27, 28, 29, 30, 31, 32, 33, 34, 35, 36, 37, 38, 39, 40, 41, 42, 43, 44, 45, 46, 47, 52, 53, 54, 55, 56, 57, 58, 59, 60, 61, 62, 63, 64, 65, 66, 67, 68, 69, 70, 71, 72, 73, 74, 75, 76] (by decide +kernel) (by decide +kernel)
set_option maxRecDepth 20000 in
theorem gX12_repair_X12_putVolumes : GoodIn wsX12_repair (wsV RX12 161 RX12 yX12_putVolumes wsX12_putVolumes) := goodIn_app (goodIn_of _ (by decide +kernel)) ggX12_repair_X12_putVolumes
set_option maxRecDepth 20000 in
theorem ggX12_repair_X12_no : GoodIn wsX12_repair wsX12_no := goodIn_r _ [51, 1, 52, 53, 54, 55, 56, 57, 58, 59, 60, 61, 62, 63, 64, 65, 66, 67, 68, 69, 70, 71, 72, 73, 74, 75, 76] (by decide +kernel) (by decide +kernel)
set_option maxRecDepth 20000 in
theorem gX12_repair_X12_no : GoodIn wsX12_repair (wsV RX12 75 RX12 yX12_no wsX12_no) := goodIn_app (goodIn_of _ (by decide +kernel)) ggX12_repair_X12_no
theorem dX12_repair_0 : decode cX12_repair 0 = .ok (.aload_n 0, 1) := by decide +kernel
theorem dX12_repair_1 : decode cX12_repair 1 = .ok (.iconst 0, 1) := by decide +kernel
theorem dX12_repair_2 : decode cX12_repair 2 = .ok (.putfield 59, 3) := by decide +kernel
theorem dX12_repair_5 : decode cX12_repair 5 = .ok (.aload_n 0, 1) := by decide +kernel
theorem dX12_repair_6 : decode cX12_repair 6 = .ok (.getfield 164, 3) := by decide +kernel
theorem dX12_repair_9 : decode cX12_repair 9 = .ok (.ifCond .eq 22, 3) := by decide +kernel
theorem dX12_repair_12 : decode cX12_repair 12 = .ok (.aload_n 0, 1) := by decide +kernel
theorem dX12_repair_13 : decode cX12_repair 13 = .ok (.aload_n 0, 1) := by decide +kernel
theorem dX12_repair_14 : decode cX12_repair 14 = .ok (.getfield 31, 3) := by decide +kernel
theorem dX12_repair_17 : decode cX12_repair 17 = .ok (.aload_n 0, 1) := by decide +kernel
theorem dX12_repair_18 : decode cX12_repair 18 = .ok (.getfield 199, 3) := by decide +kernel
theorem dX12_repair_21 : decode cX12_repair 21 = .ok (.aload_n 0, 1) := by decide +kernel
theorem dX12_repair_22 : decode cX12_repair 22 = .ok (.getfield 202, 3) := by decide +kernel
theorem dX12_repair_25 : decode cX12_repair 25 = .ok (.invokevirtual 161, 3) := by decide +kernel
theorem dX12_repair_28 : decode cX12_repair 28 = .ok (.goto 8, 3) := by decide +kernel
theorem dX12_repair_31 : decode cX12_repair 31 = .ok (.aload_n 0, 1) := by decide +kernel
theorem dX12_repair_32 : decode cX12_repair 32 = .ok (.iconst 1, 1) := by decide +kernel
theorem dX12_repair_33 : decode cX12_repair 33 = .ok (.invokevirtual 75, 3) := by decide +kernel
theorem dX12_repair_36 : decode cX12_repair 36 = .ok (.ireturn, 1) := by decide +kernel
theorem dX12_placeOfNumber_0 : decode cX12_placeOfNumber 0 = .ok (.iconst 0, 1) := by decide +kernel
theorem dX12_placeOfNumber_1 : decode cX12_placeOfNumber 1 = .ok (.istore_n 2, 1) := by decide +kernel
theorem dX12_placeOfNumber_2 : decode cX12_placeOfNumber 2 = .ok (.iload_n 2, 1) := by decide +kernel
theorem dX12_placeOfNumber_3 : decode cX12_placeOfNumber 3 = .ok (.bipush 16, 2) := by decide +kernel
theorem dX12_placeOfNumber_5 : decode cX12_placeOfNumber 5 = .ok (.if_icmp .ge 21, 3) := by decide +kernel
theorem dX12_placeOfNumber_8 : decode cX12_placeOfNumber 8 = .ok (.aload_n 0, 1) := by decide +kernel
theorem dX12_placeOfNumber_9 : decode cX12_placeOfNumber 9 = .ok (.getfield 56, 3) := by decide +kernel
theorem dX12_placeOfNumber_12 : decode cX12_placeOfNumber 12 = .ok (.iload_n 2, 1) := by decide +kernel
theorem dX12_placeOfNumber_13 : decode cX12_placeOfNumber 13 = .ok (.iaload, 1) := by decide +kernel
theorem dX12_placeOfNumber_14 : decode cX12_placeOfNumber 14 = .ok (.iload_n 1, 1) := by decide +kernel
theorem dX12_placeOfNumber_15 : decode cX12_placeOfNumber 15 = .ok (.if_icmp .ne 5, 3) := by decide +kernel
theorem dX12_placeOfNumber_18 : decode cX12_placeOfNumber 18 = .ok (.iload_n 2, 1) := by decide +kernel
theorem dX12_placeOfNumber_19 : decode cX12_placeOfNumber 19 = .ok (.ireturn, 1) := by decide +kernel
theorem dX12_placeOfNumber_20 : decode cX12_placeOfNumber 20 = .ok (.iinc 2 1, 3) := by decide +kernel
theorem dX12_placeOfNumber_23 : decode cX12_placeOfNumber 23 = .ok (.goto (-21), 3) := by decide +kernel
theorem dX12_placeOfNumber_26 : decode cX12_placeOfNumber 26 = .ok (.iconst (-1), 1) := by decide +kernel
theorem dX12_placeOfNumber_27 : decode cX12_placeOfNumber 27 = .ok (.ireturn, 1) := by decide +kernel
set_option maxRecDepth 20000 in
theorem ggX12_workOut_X12_placeOfNumber : GoodIn wsX12_workOut wsX12_placeOfNumber := goodIn_r _ [8, 9, 28, 29, 30, 31, 32, 33, 34, 35, 36, 37, 38, 39, 40, 41, 42, 43, 44, 45, 46, 47, 48, 49, 50, 51, 52] (by decide +kernel) (by decide +kernel)
set_option maxRecDepth 20000 in
theorem gX12_workOut_X12_placeOfNumber : GoodIn wsX12_workOut (wsV RX12 205 RX12 yX12_placeOfNumber wsX12_placeOfNumber) := goodIn_app (goodIn_of _ (by decide +kernel)) ggX12_workOut_X12_placeOfNumber
set_option maxRecDepth 20000 in
theorem ggX12_workOut_X12_factor : GoodIn wsX12_workOut wsX12_factor := goodIn_r _ [12, 13, 14, 7, 15, 16, 17, 18] (by decide +kernel) (by decide +kernel)
set_option maxRecDepth 20000 in
theorem gX12_workOut_X12_factor : GoodIn wsX12_workOut (va_wsS RX12 78 yX12_factor wsX12_factor) := goodIn_app (goodIn_of _ (by decide +kernel)) ggX12_workOut_X12_factor
set_option maxRecDepth 20000 in
theorem ggX12_workOut_X12_addTimes : GoodIn wsX12_workOut wsX12_addTimes := goodIn_r _ [21, 16, 17, 7, 18] (by decide +kernel) (by decide +kernel)
set_option maxRecDepth 20000 in
theorem gX12_workOut_X12_addTimes : GoodIn wsX12_workOut (va_wsS RX12 208 yX12_addTimes wsX12_addTimes) := goodIn_app (goodIn_of _ (by decide +kernel)) ggX12_workOut_X12_addTimes
set_option maxRecDepth 20000 in
theorem ggX12_workOut_X12_swap : GoodIn wsX12_workOut wsX12_swap := goodIn_r _ [24] (by decide +kernel) (by decide +kernel)
set_option maxRecDepth 20000 in
theorem gX12_workOut_X12_swap : GoodIn wsX12_workOut (va_wsS RX12 212 yX12_swap wsX12_swap) := goodIn_app (goodIn_of _ (by decide +kernel)) ggX12_workOut_X12_swap
set_option maxRecDepth 20000 in
theorem ggX12_workOut_X12_inverseOf : GoodIn wsX12_workOut wsX12_inverseOf := goodIn_r _ [15, 16, 17, 7, 18] (by decide +kernel) (by decide +kernel)
set_option maxRecDepth 20000 in
theorem gX12_workOut_X12_inverseOf : GoodIn wsX12_workOut (va_wsS RX12 67 yX12_inverseOf wsX12_inverseOf) := goodIn_app (goodIn_of _ (by decide +kernel)) ggX12_workOut_X12_inverseOf
set_option maxRecDepth 20000 in
theorem ggX12_workOut_X12_multiply : GoodIn wsX12_workOut wsX12_multiply := goodIn_r _ [27, 16, 17, 7, 18] (by decide +kernel) (by decide +kernel)
set_option maxRecDepth 20000 in
theorem gX12_workOut_X12_multiply : GoodIn wsX12_workOut (va_wsS RX12 216 yX12_multiply wsX12_multiply) := goodIn_app (goodIn_of _ (by decide +kernel)) ggX12_workOut_X12_multiply
theorem dX12_workOut_0 : decode cX12_workOut 0 = .ok (.iload_n 2, 1) := by decide +kernel
theorem dX12_workOut_1 : decode cX12_workOut 1 = .ok (.newarray .int, 2) := by decide +kernel
theorem dX12_workOut_3 : decode cX12_workOut 3 = .ok (.astore 5, 2) := by decide +kernel
theorem dX12_workOut_5 : decode cX12_workOut 5 = .ok (.iconst 0, 1) := by decide +kernel
theorem dX12_workOut_6 : decode cX12_workOut 6 = .ok (.istore 6, 2) := by decide +kernel
theorem dX12_workOut_8 : decode cX12_workOut 8 = .ok (.iconst 0, 1) := by decide +kernel
theorem dX12_workOut_9 : decode cX12_workOut 9 = .ok (.istore 7, 2) := by decide +kernel
theorem dX12_workOut_11 : decode cX12_workOut 11 = .ok (.iload 7, 2) := by decide +kernel
theorem dX12_workOut_13 : decode cX12_workOut 13 = .ok (.iload_n 2, 1) := by decide +kernel
theorem dX12_workOut_14 : decode cX12_workOut 14 = .ok (.if_icmp .ge 26, 3) := by decide +kernel
theorem dX12_workOut_17 : decode cX12_workOut 17 = .ok (.aload_n 1, 1) := by decide +kernel
theorem dX12_workOut_18 : decode cX12_workOut 18 = .ok (.iload 7, 2) := by decide +kernel
theorem dX12_workOut_20 : decode cX12_workOut 20 = .ok (.aaload, 1) := by decide +kernel
theorem dX12_workOut_21 : decode cX12_workOut 21 = .ok (.ifnonnull 13, 3) := by decide +kernel
theorem dX12_workOut_24 : decode cX12_workOut 24 = .ok (.aload 5, 2) := by decide +kernel
theorem dX12_workOut_26 : decode cX12_workOut 26 = .ok (.iload 6, 2) := by decide +kernel
theorem dX12_workOut_28 : decode cX12_workOut 28 = .ok (.iinc 6 1, 3) := by decide +kernel
theorem dX12_workOut_31 : decode cX12_workOut 31 = .ok (.iload 7, 2) := by decide +kernel
theorem dX12_workOut_33 : decode cX12_workOut 33 = .ok (.iastore, 1) := by decide +kernel
theorem dX12_workOut_34 : decode cX12_workOut 34 = .ok (.iinc 7 1, 3) := by decide +kernel
theorem dX12_workOut_37 : decode cX12_workOut 37 = .ok (.goto (-26), 3) := by decide +kernel
theorem dX12_workOut_40 : decode cX12_workOut 40 = .ok (.iload 6, 2) := by decide +kernel
theorem dX12_workOut_42 : decode cX12_workOut 42 = .ok (.iload 6, 2) := by decide +kernel
theorem dX12_workOut_44 : decode cX12_workOut 44 = .ok (.multianewarray 19 2, 4) := by decide +kernel
theorem dX12_workOut_48 : decode cX12_workOut 48 = .ok (.astore 7, 2) := by decide +kernel
theorem dX12_workOut_50 : decode cX12_workOut 50 = .ok (.iload 6, 2) := by decide +kernel
theorem dX12_workOut_52 : decode cX12_workOut 52 = .ok (.iload 4, 2) := by decide +kernel
theorem dX12_workOut_54 : decode cX12_workOut 54 = .ok (.multianewarray 19 2, 4) := by decide +kernel
theorem dX12_workOut_58 : decode cX12_workOut 58 = .ok (.astore 8, 2) := by decide +kernel
theorem dX12_workOut_60 : decode cX12_workOut 60 = .ok (.iconst 0, 1) := by decide +kernel
theorem dX12_workOut_61 : decode cX12_workOut 61 = .ok (.istore 9, 2) := by decide +kernel
theorem dX12_workOut_63 : decode cX12_workOut 63 = .ok (.iconst 0, 1) := by decide +kernel
theorem dX12_workOut_64 : decode cX12_workOut 64 = .ok (.istore 10, 2) := by decide +kernel
theorem dX12_workOut_66 : decode cX12_workOut 66 = .ok (.iload 10, 2) := by decide +kernel
theorem dX12_workOut_68 : decode cX12_workOut 68 = .ok (.iload_n 3, 1) := by decide +kernel
theorem dX12_workOut_69 : decode cX12_workOut 69 = .ok (.if_icmp .ge 150, 3) := by decide +kernel
theorem dX12_workOut_72 : decode cX12_workOut 72 = .ok (.iload 9, 2) := by decide +kernel
theorem dX12_workOut_74 : decode cX12_workOut 74 = .ok (.iload 6, 2) := by decide +kernel
theorem dX12_workOut_76 : decode cX12_workOut 76 = .ok (.if_icmp .ge 143, 3) := by decide +kernel
theorem dX12_workOut_79 : decode cX12_workOut 79 = .ok (.aload_n 0, 1) := by decide +kernel
theorem dX12_workOut_80 : decode cX12_workOut 80 = .ok (.iload_n 2, 1) := by decide +kernel
theorem dX12_workOut_81 : decode cX12_workOut 81 = .ok (.iload 10, 2) := by decide +kernel
theorem dX12_workOut_83 : decode cX12_workOut 83 = .ok (.iadd, 1) := by decide +kernel
theorem dX12_workOut_84 : decode cX12_workOut 84 = .ok (.invokevirtual 205, 3) := by decide +kernel
theorem dX12_workOut_87 : decode cX12_workOut 87 = .ok (.istore 11, 2) := by decide +kernel
theorem dX12_workOut_89 : decode cX12_workOut 89 = .ok (.iload 11, 2) := by decide +kernel
theorem dX12_workOut_91 : decode cX12_workOut 91 = .ok (.iconst (-1), 1) := by decide +kernel
theorem dX12_workOut_92 : decode cX12_workOut 92 = .ok (.if_icmp .ne 6, 3) := by decide +kernel
theorem dX12_workOut_95 : decode cX12_workOut 95 = .ok (.goto 118, 3) := by decide +kernel
theorem dX12_workOut_98 : decode cX12_workOut 98 = .ok (.iconst 0, 1) := by decide +kernel
theorem dX12_workOut_99 : decode cX12_workOut 99 = .ok (.istore 12, 2) := by decide +kernel
theorem dX12_workOut_101 : decode cX12_workOut 101 = .ok (.iload 12, 2) := by decide +kernel
theorem dX12_workOut_103 : decode cX12_workOut 103 = .ok (.iload 4, 2) := by decide +kernel
theorem dX12_workOut_105 : decode cX12_workOut 105 = .ok (.if_icmp .ge 30, 3) := by decide +kernel
theorem dX12_workOut_108 : decode cX12_workOut 108 = .ok (.aload 8, 2) := by decide +kernel
theorem dX12_workOut_110 : decode cX12_workOut 110 = .ok (.iload 9, 2) := by decide +kernel
theorem dX12_workOut_112 : decode cX12_workOut 112 = .ok (.aaload, 1) := by decide +kernel
theorem dX12_workOut_113 : decode cX12_workOut 113 = .ok (.iload 12, 2) := by decide +kernel
theorem dX12_workOut_115 : decode cX12_workOut 115 = .ok (.aload_n 0, 1) := by decide +kernel
theorem dX12_workOut_116 : decode cX12_workOut 116 = .ok (.getfield 25, 3) := by decide +kernel
theorem dX12_workOut_119 : decode cX12_workOut 119 = .ok (.iload 11, 2) := by decide +kernel
theorem dX12_workOut_121 : decode cX12_workOut 121 = .ok (.aaload, 1) := by decide +kernel
theorem dX12_workOut_122 : decode cX12_workOut 122 = .ok (.bipush 10, 2) := by decide +kernel
theorem dX12_workOut_124 : decode cX12_workOut 124 = .ok (.iload 12, 2) := by decide +kernel
theorem dX12_workOut_126 : decode cX12_workOut 126 = .ok (.iadd, 1) := by decide +kernel
theorem dX12_workOut_127 : decode cX12_workOut 127 = .ok (.iaload, 1) := by decide +kernel
theorem dX12_workOut_128 : decode cX12_workOut 128 = .ok (.iastore, 1) := by decide +kernel
theorem dX12_workOut_129 : decode cX12_workOut 129 = .ok (.iinc 12 1, 3) := by decide +kernel
theorem dX12_workOut_132 : decode cX12_workOut 132 = .ok (.goto (-31), 3) := by decide +kernel
theorem dX12_workOut_135 : decode cX12_workOut 135 = .ok (.iconst 0, 1) := by decide +kernel
theorem dX12_workOut_136 : decode cX12_workOut 136 = .ok (.istore 12, 2) := by decide +kernel
theorem dX12_workOut_138 : decode cX12_workOut 138 = .ok (.iload 12, 2) := by decide +kernel
theorem dX12_workOut_140 : decode cX12_workOut 140 = .ok (.iload_n 2, 1) := by decide +kernel
theorem dX12_workOut_141 : decode cX12_workOut 141 = .ok (.if_icmp .ge 35, 3) := by decide +kernel
theorem dX12_workOut_144 : decode cX12_workOut 144 = .ok (.aload_n 1, 1) := by decide +kernel
theorem dX12_workOut_145 : decode cX12_workOut 145 = .ok (.iload 12, 2) := by decide +kernel
theorem dX12_workOut_147 : decode cX12_workOut 147 = .ok (.aaload, 1) := by decide +kernel
theorem dX12_workOut_148 : decode cX12_workOut 148 = .ok (.ifnull 22, 3) := by decide +kernel
theorem dX12_workOut_151 : decode cX12_workOut 151 = .ok (.aload 8, 2) := by decide +kernel
theorem dX12_workOut_153 : decode cX12_workOut 153 = .ok (.iload 9, 2) := by decide +kernel
theorem dX12_workOut_155 : decode cX12_workOut 155 = .ok (.aaload, 1) := by decide +kernel
theorem dX12_workOut_156 : decode cX12_workOut 156 = .ok (.aload_n 1, 1) := by decide +kernel
theorem dX12_workOut_157 : decode cX12_workOut 157 = .ok (.iload 12, 2) := by decide +kernel
theorem dX12_workOut_159 : decode cX12_workOut 159 = .ok (.aaload, 1) := by decide +kernel
theorem dX12_workOut_160 : decode cX12_workOut 160 = .ok (.iload 10, 2) := by decide +kernel
theorem dX12_workOut_162 : decode cX12_workOut 162 = .ok (.iload 12, 2) := by decide +kernel
theorem dX12_workOut_164 : decode cX12_workOut 164 = .ok (.invokestatic 78, 3) := by decide +kernel
theorem dX12_workOut_167 : decode cX12_workOut 167 = .ok (.invokestatic 208, 3) := by decide +kernel
theorem dX12_workOut_170 : decode cX12_workOut 170 = .ok (.iinc 12 1, 3) := by decide +kernel
theorem dX12_workOut_173 : decode cX12_workOut 173 = .ok (.goto (-35), 3) := by decide +kernel
theorem dX12_workOut_176 : decode cX12_workOut 176 = .ok (.iconst 0, 1) := by decide +kernel
theorem dX12_workOut_177 : decode cX12_workOut 177 = .ok (.istore 12, 2) := by decide +kernel
theorem dX12_workOut_179 : decode cX12_workOut 179 = .ok (.iload 12, 2) := by decide +kernel
theorem dX12_workOut_181 : decode cX12_workOut 181 = .ok (.iload 6, 2) := by decide +kernel
theorem dX12_workOut_183 : decode cX12_workOut 183 = .ok (.if_icmp .ge 27, 3) := by decide +kernel
theorem dX12_workOut_186 : decode cX12_workOut 186 = .ok (.aload 7, 2) := by decide +kernel
theorem dX12_workOut_188 : decode cX12_workOut 188 = .ok (.iload 9, 2) := by decide +kernel
theorem dX12_workOut_190 : decode cX12_workOut 190 = .ok (.aaload, 1) := by decide +kernel
theorem dX12_workOut_191 : decode cX12_workOut 191 = .ok (.iload 12, 2) := by decide +kernel
theorem dX12_workOut_193 : decode cX12_workOut 193 = .ok (.iload 10, 2) := by decide +kernel
theorem dX12_workOut_195 : decode cX12_workOut 195 = .ok (.aload 5, 2) := by decide +kernel
theorem dX12_workOut_197 : decode cX12_workOut 197 = .ok (.iload 12, 2) := by decide +kernel
theorem dX12_workOut_199 : decode cX12_workOut 199 = .ok (.iaload, 1) := by decide +kernel
theorem dX12_workOut_200 : decode cX12_workOut 200 = .ok (.invokestatic 78, 3) := by decide +kernel
theorem dX12_workOut_203 : decode cX12_workOut 203 = .ok (.iastore, 1) := by decide +kernel
theorem dX12_workOut_204 : decode cX12_workOut 204 = .ok (.iinc 12 1, 3) := by decide +kernel
theorem dX12_workOut_207 : decode cX12_workOut 207 = .ok (.goto (-28), 3) := by decide +kernel
theorem dX12_workOut_210 : decode cX12_workOut 210 = .ok (.iinc 9 1, 3) := by decide +kernel
theorem dX12_workOut_213 : decode cX12_workOut 213 = .ok (.iinc 10 1, 3) := by decide +kernel
theorem dX12_workOut_216 : decode cX12_workOut 216 = .ok (.goto (-150), 3) := by decide +kernel
theorem dX12_workOut_219 : decode cX12_workOut 219 = .ok (.iconst 0, 1) := by decide +kernel
theorem dX12_workOut_220 : decode cX12_workOut 220 = .ok (.istore 10, 2) := by decide +kernel
theorem dX12_workOut_222 : decode cX12_workOut 222 = .ok (.iload 10, 2) := by decide +kernel
theorem dX12_workOut_224 : decode cX12_workOut 224 = .ok (.iload 6, 2) := by decide +kernel
theorem dX12_workOut_226 : decode cX12_workOut 226 = .ok (.if_icmp .ge 147, 3) := by decide +kernel
theorem dX12_workOut_229 : decode cX12_workOut 229 = .ok (.iload 10, 2) := by decide +kernel
theorem dX12_workOut_231 : decode cX12_workOut 231 = .ok (.istore 11, 2) := by decide +kernel
theorem dX12_workOut_233 : decode cX12_workOut 233 = .ok (.aload 7, 2) := by decide +kernel
theorem dX12_workOut_235 : decode cX12_workOut 235 = .ok (.iload 11, 2) := by decide +kernel
theorem dX12_workOut_237 : decode cX12_workOut 237 = .ok (.aaload, 1) := by decide +kernel
theorem dX12_workOut_238 : decode cX12_workOut 238 = .ok (.iload 10, 2) := by decide +kernel
theorem dX12_workOut_240 : decode cX12_workOut 240 = .ok (.iaload, 1) := by decide +kernel
theorem dX12_workOut_241 : decode cX12_workOut 241 = .ok (.ifCond .ne 9, 3) := by decide +kernel
theorem dX12_workOut_244 : decode cX12_workOut 244 = .ok (.iinc 11 1, 3) := by decide +kernel
theorem dX12_workOut_247 : decode cX12_workOut 247 = .ok (.goto (-14), 3) := by decide +kernel
theorem dX12_workOut_250 : decode cX12_workOut 250 = .ok (.aload 7, 2) := by decide +kernel
theorem dX12_workOut_252 : decode cX12_workOut 252 = .ok (.iload 11, 2) := by decide +kernel
theorem dX12_workOut_254 : decode cX12_workOut 254 = .ok (.iload 10, 2) := by decide +kernel
theorem dX12_workOut_256 : decode cX12_workOut 256 = .ok (.invokestatic 212, 3) := by decide +kernel
theorem dX12_workOut_259 : decode cX12_workOut 259 = .ok (.aload 8, 2) := by decide +kernel
theorem dX12_workOut_261 : decode cX12_workOut 261 = .ok (.iload 11, 2) := by decide +kernel
theorem dX12_workOut_263 : decode cX12_workOut 263 = .ok (.iload 10, 2) := by decide +kernel
theorem dX12_workOut_265 : decode cX12_workOut 265 = .ok (.invokestatic 212, 3) := by decide +kernel
theorem dX12_workOut_268 : decode cX12_workOut 268 = .ok (.aload 7, 2) := by decide +kernel
theorem dX12_workOut_270 : decode cX12_workOut 270 = .ok (.iload 10, 2) := by decide +kernel
theorem dX12_workOut_272 : decode cX12_workOut 272 = .ok (.aaload, 1) := by decide +kernel
theorem dX12_workOut_273 : decode cX12_workOut 273 = .ok (.iload 10, 2) := by decide +kernel
theorem dX12_workOut_275 : decode cX12_workOut 275 = .ok (.iaload, 1) := by decide +kernel
theorem dX12_workOut_276 : decode cX12_workOut 276 = .ok (.invokestatic 67, 3) := by decide +kernel
theorem dX12_workOut_279 : decode cX12_workOut 279 = .ok (.istore 12, 2) := by decide +kernel
theorem dX12_workOut_281 : decode cX12_workOut 281 = .ok (.aload 7, 2) := by decide +kernel
theorem dX12_workOut_283 : decode cX12_workOut 283 = .ok (.iload 10, 2) := by decide +kernel
theorem dX12_workOut_285 : decode cX12_workOut 285 = .ok (.aaload, 1) := by decide +kernel
theorem dX12_workOut_286 : decode cX12_workOut 286 = .ok (.iload 12, 2) := by decide +kernel
theorem dX12_workOut_288 : decode cX12_workOut 288 = .ok (.invokestatic 216, 3) := by decide +kernel
theorem dX12_workOut_291 : decode cX12_workOut 291 = .ok (.aload 8, 2) := by decide +kernel
theorem dX12_workOut_293 : decode cX12_workOut 293 = .ok (.iload 10, 2) := by decide +kernel
theorem dX12_workOut_295 : decode cX12_workOut 295 = .ok (.aaload, 1) := by decide +kernel
theorem dX12_workOut_296 : decode cX12_workOut 296 = .ok (.iload 12, 2) := by decide +kernel
theorem dX12_workOut_298 : decode cX12_workOut 298 = .ok (.invokestatic 216, 3) := by decide +kernel
theorem dX12_workOut_301 : decode cX12_workOut 301 = .ok (.iconst 0, 1) := by decide +kernel
theorem dX12_workOut_302 : decode cX12_workOut 302 = .ok (.istore 13, 2) := by decide +kernel
theorem dX12_workOut_304 : decode cX12_workOut 304 = .ok (.iload 13, 2) := by decide +kernel
theorem dX12_workOut_306 : decode cX12_workOut 306 = .ok (.iload 6, 2) := by decide +kernel
theorem dX12_workOut_308 : decode cX12_workOut 308 = .ok (.if_icmp .ge 59, 3) := by decide +kernel
theorem dX12_workOut_311 : decode cX12_workOut 311 = .ok (.iload 13, 2) := by decide +kernel
theorem dX12_workOut_313 : decode cX12_workOut 313 = .ok (.iload 10, 2) := by decide +kernel
theorem dX12_workOut_315 : decode cX12_workOut 315 = .ok (.if_icmp .ne 6, 3) := by decide +kernel
theorem dX12_workOut_318 : decode cX12_workOut 318 = .ok (.goto 43, 3) := by decide +kernel
theorem dX12_workOut_321 : decode cX12_workOut 321 = .ok (.aload 7, 2) := by decide +kernel
theorem dX12_workOut_323 : decode cX12_workOut 323 = .ok (.iload 13, 2) := by decide +kernel
theorem dX12_workOut_325 : decode cX12_workOut 325 = .ok (.aaload, 1) := by decide +kernel
theorem dX12_workOut_326 : decode cX12_workOut 326 = .ok (.iload 10, 2) := by decide +kernel
theorem dX12_workOut_328 : decode cX12_workOut 328 = .ok (.iaload, 1) := by decide +kernel
theorem dX12_workOut_329 : decode cX12_workOut 329 = .ok (.istore 14, 2) := by decide +kernel
theorem dX12_workOut_331 : decode cX12_workOut 331 = .ok (.aload 7, 2) := by decide +kernel
theorem dX12_workOut_333 : decode cX12_workOut 333 = .ok (.iload 13, 2) := by decide +kernel
theorem dX12_workOut_335 : decode cX12_workOut 335 = .ok (.aaload, 1) := by decide +kernel
theorem dX12_workOut_336 : decode cX12_workOut 336 = .ok (.aload 7, 2) := by decide +kernel
theorem dX12_workOut_338 : decode cX12_workOut 338 = .ok (.iload 10, 2) := by decide +kernel
theorem dX12_workOut_340 : decode cX12_workOut 340 = .ok (.aaload, 1) := by decide +kernel
theorem dX12_workOut_341 : decode cX12_workOut 341 = .ok (.iload 14, 2) := by decide +kernel
theorem dX12_workOut_343 : decode cX12_workOut 343 = .ok (.invokestatic 208, 3) := by decide +kernel
theorem dX12_workOut_346 : decode cX12_workOut 346 = .ok (.aload 8, 2) := by decide +kernel
theorem dX12_workOut_348 : decode cX12_workOut 348 = .ok (.iload 13, 2) := by decide +kernel
theorem dX12_workOut_350 : decode cX12_workOut 350 = .ok (.aaload, 1) := by decide +kernel
theorem dX12_workOut_351 : decode cX12_workOut 351 = .ok (.aload 8, 2) := by decide +kernel
theorem dX12_workOut_353 : decode cX12_workOut 353 = .ok (.iload 10, 2) := by decide +kernel
theorem dX12_workOut_355 : decode cX12_workOut 355 = .ok (.aaload, 1) := by decide +kernel
theorem dX12_workOut_356 : decode cX12_workOut 356 = .ok (.iload 14, 2) := by decide +kernel
theorem dX12_workOut_358 : decode cX12_workOut 358 = .ok (.invokestatic 208, 3) := by decide +kernel
theorem dX12_workOut_361 : decode cX12_workOut 361 = .ok (.iinc 13 1, 3) := by decide +kernel
theorem dX12_workOut_364 : decode cX12_workOut 364 = .ok (.goto (-60), 3) := by decide +kernel
theorem dX12_workOut_367 : decode cX12_workOut 367 = .ok (.iinc 10 1, 3) := by decide +kernel
theorem dX12_workOut_370 : decode cX12_workOut 370 = .ok (.goto (-148), 3) := by decide +kernel
theorem dX12_workOut_373 : decode cX12_workOut 373 = .ok (.iconst 0, 1) := by decide +kernel
theorem dX12_workOut_374 : decode cX12_workOut 374 = .ok (.istore 10, 2) := by decide +kernel
theorem dX12_workOut_376 : decode cX12_workOut 376 = .ok (.iload 10, 2) := by decide +kernel
theorem dX12_workOut_378 : decode cX12_workOut 378 = .ok (.iload 6, 2) := by decide +kernel
theorem dX12_workOut_380 : decode cX12_workOut 380 = .ok (.if_icmp .ge 21, 3) := by decide +kernel
theorem dX12_workOut_383 : decode cX12_workOut 383 = .ok (.aload_n 1, 1) := by decide +kernel
theorem dX12_workOut_384 : decode cX12_workOut 384 = .ok (.aload 5, 2) := by decide +kernel
theorem dX12_workOut_386 : decode cX12_workOut 386 = .ok (.iload 10, 2) := by decide +kernel
theorem dX12_workOut_388 : decode cX12_workOut 388 = .ok (.iaload, 1) := by decide +kernel
theorem dX12_workOut_389 : decode cX12_workOut 389 = .ok (.aload 8, 2) := by decide +kernel
theorem dX12_workOut_391 : decode cX12_workOut 391 = .ok (.iload 10, 2) := by decide +kernel
theorem dX12_workOut_393 : decode cX12_workOut 393 = .ok (.aaload, 1) := by decide +kernel
theorem dX12_workOut_394 : decode cX12_workOut 394 = .ok (.aastore, 1) := by decide +kernel
theorem dX12_workOut_395 : decode cX12_workOut 395 = .ok (.iinc 10 1, 3) := by decide +kernel
theorem dX12_workOut_398 : decode cX12_workOut 398 = .ok (.goto (-22), 3) := by decide +kernel
theorem dX12_workOut_401 : decode cX12_workOut 401 = .ok (.iload 6, 2) := by decide +kernel
theorem dX12_workOut_403 : decode cX12_workOut 403 = .ok (.ireturn, 1) := by decide +kernel
theorem dX12_swap_0 : decode cX12_swap 0 = .ok (.aload_n 0, 1) := by decide +kernel
theorem dX12_swap_1 : decode cX12_swap 1 = .ok (.iload_n 1, 1) := by decide +kernel
theorem dX12_swap_2 : decode cX12_swap 2 = .ok (.aaload, 1) := by decide +kernel
theorem dX12_swap_3 : decode cX12_swap 3 = .ok (.astore_n 3, 1) := by decide +kernel
theorem dX12_swap_4 : decode cX12_swap 4 = .ok (.aload_n 0, 1) := by decide +kernel
theorem dX12_swap_5 : decode cX12_swap 5 = .ok (.iload_n 1, 1) := by decide +kernel
theorem dX12_swap_6 : decode cX12_swap 6 = .ok (.aload_n 0, 1) := by decide +kernel
theorem dX12_swap_7 : decode cX12_swap 7 = .ok (.iload_n 2, 1) := by decide +kernel
theorem dX12_swap_8 : decode cX12_swap 8 = .ok (.aaload, 1) := by decide +kernel
theorem dX12_swap_9 : decode cX12_swap 9 = .ok (.aastore, 1) := by decide +kernel
theorem dX12_swap_10 : decode cX12_swap 10 = .ok (.aload_n 0, 1) := by decide +kernel
theorem dX12_swap_11 : decode cX12_swap 11 = .ok (.iload_n 2, 1) := by decide +kernel
theorem dX12_swap_12 : decode cX12_swap 12 = .ok (.aload_n 3, 1) := by decide +kernel
theorem dX12_swap_13 : decode cX12_swap 13 = .ok (.aastore, 1) := by decide +kernel
theorem dX12_swap_14 : decode cX12_swap 14 = .ok (.return_, 1) := by decide +kernel
set_option maxRecDepth 20000 in
theorem ggX12_multiply_X12_times : GoodIn wsX12_multiply wsX12_times := goodIn_r _ [4] (by decide +kernel) (by decide +kernel)
set_option maxRecDepth 20000 in
theorem gX12_multiply_X12_times : GoodIn wsX12_multiply (va_wsS RX12 63 yX12_times wsX12_times) := goodIn_app (goodIn_of _ (by decide +kernel)) ggX12_multiply_X12_times
theorem dX12_multiply_0 : decode cX12_multiply 0 = .ok (.iconst 0, 1) := by decide +kernel
theorem dX12_multiply_1 : decode cX12_multiply 1 = .ok (.istore_n 2, 1) := by decide +kernel
theorem dX12_multiply_2 : decode cX12_multiply 2 = .ok (.iload_n 2, 1) := by decide +kernel
theorem dX12_multiply_3 : decode cX12_multiply 3 = .ok (.aload_n 0, 1) := by decide +kernel
theorem dX12_multiply_4 : decode cX12_multiply 4 = .ok (.arraylength, 1) := by decide +kernel
theorem dX12_multiply_5 : decode cX12_multiply 5 = .ok (.if_icmp .ge 19, 3) := by decide +kernel
theorem dX12_multiply_8 : decode cX12_multiply 8 = .ok (.aload_n 0, 1) := by decide +kernel
theorem dX12_multiply_9 : decode cX12_multiply 9 = .ok (.iload_n 2, 1) := by decide +kernel
theorem dX12_multiply_10 : decode cX12_multiply 10 = .ok (.aload_n 0, 1) := by decide +kernel
theorem dX12_multiply_11 : decode cX12_multiply 11 = .ok (.iload_n 2, 1) := by decide +kernel
theorem dX12_multiply_12 : decode cX12_multiply 12 = .ok (.iaload, 1) := by decide +kernel
theorem dX12_multiply_13 : decode cX12_multiply 13 = .ok (.iload_n 1, 1) := by decide +kernel
theorem dX12_multiply_14 : decode cX12_multiply 14 = .ok (.invokestatic 63, 3) := by decide +kernel
theorem dX12_multiply_17 : decode cX12_multiply 17 = .ok (.iastore, 1) := by decide +kernel
theorem dX12_multiply_18 : decode cX12_multiply 18 = .ok (.iinc 2 1, 3) := by decide +kernel
theorem dX12_multiply_21 : decode cX12_multiply 21 = .ok (.goto (-19), 3) := by decide +kernel
theorem dX12_multiply_24 : decode cX12_multiply 24 = .ok (.return_, 1) := by decide +kernel
set_option maxRecDepth 20000 in
theorem ggX12_addTimes_X12_times : GoodIn wsX12_addTimes wsX12_times := goodIn_r _ [4] (by decide +kernel) (by decide +kernel)
set_option maxRecDepth 20000 in
theorem gX12_addTimes_X12_times : GoodIn wsX12_addTimes (va_wsS RX12 63 yX12_times wsX12_times) := goodIn_app (goodIn_of _ (by decide +kernel)) ggX12_addTimes_X12_times
theorem dX12_addTimes_0 : decode cX12_addTimes 0 = .ok (.iconst 0, 1) := by decide +kernel
theorem dX12_addTimes_1 : decode cX12_addTimes 1 = .ok (.istore_n 3, 1) := by decide +kernel
theorem dX12_addTimes_2 : decode cX12_addTimes 2 = .ok (.iload_n 3, 1) := by decide +kernel
theorem dX12_addTimes_3 : decode cX12_addTimes 3 = .ok (.aload_n 0, 1) := by decide +kernel
theorem dX12_addTimes_4 : decode cX12_addTimes 4 = .ok (.arraylength, 1) := by decide +kernel
theorem dX12_addTimes_5 : decode cX12_addTimes 5 = .ok (.if_icmp .ge 22, 3) := by decide +kernel
theorem dX12_addTimes_8 : decode cX12_addTimes 8 = .ok (.aload_n 0, 1) := by decide +kernel
theorem dX12_addTimes_9 : decode cX12_addTimes 9 = .ok (.iload_n 3, 1) := by decide +kernel
theorem dX12_addTimes_10 : decode cX12_addTimes 10 = .ok (.dup2, 1) := by decide +kernel
theorem dX12_addTimes_11 : decode cX12_addTimes 11 = .ok (.iaload, 1) := by decide +kernel
theorem dX12_addTimes_12 : decode cX12_addTimes 12 = .ok (.aload_n 1, 1) := by decide +kernel
theorem dX12_addTimes_13 : decode cX12_addTimes 13 = .ok (.iload_n 3, 1) := by decide +kernel
theorem dX12_addTimes_14 : decode cX12_addTimes 14 = .ok (.iaload, 1) := by decide +kernel
theorem dX12_addTimes_15 : decode cX12_addTimes 15 = .ok (.iload_n 2, 1) := by decide +kernel
theorem dX12_addTimes_16 : decode cX12_addTimes 16 = .ok (.invokestatic 63, 3) := by decide +kernel
theorem dX12_addTimes_19 : decode cX12_addTimes 19 = .ok (.ixor, 1) := by decide +kernel
theorem dX12_addTimes_20 : decode cX12_addTimes 20 = .ok (.iastore, 1) := by decide +kernel
theorem dX12_addTimes_21 : decode cX12_addTimes 21 = .ok (.iinc 3 1, 3) := by decide +kernel
theorem dX12_addTimes_24 : decode cX12_addTimes 24 = .ok (.goto (-22), 3) := by decide +kernel
theorem dX12_addTimes_27 : decode cX12_addTimes 27 = .ok (.return_, 1) := by decide +kernel
set_option maxRecDepth 20000 in
theorem ggX12_open_X12_look : GoodIn wsX12_open wsX12_look := goodIn_r _ [18, 4, 19, 20, 21, 3, 22, 23, 24, 17, 25, 26, 27, 28, 29, 30, 31, 32, 33, 34, 35, 36, 37, 38, 39, 40, 41, 42, 43, 44, 45, 46, 47, 110, 111, 112, 113, 114, 115, 116, 117, 118, 119, 120, 121, 122, 123, 124, 125, 126, 127, 128, 129, 130, 131, 132, 133, 134] (by decide +kernel) (by decide +kernel)
set_option maxRecDepth 20000 in
theorem gX12_open_X12_look : GoodIn wsX12_open (wsV RX12 193 RX12 yX12_look wsX12_look) := goodIn_app (goodIn_of _ (by decide +kernel)) ggX12_open_X12_look
set_option maxRecDepth 20000 in
theorem ggX12_open_X12_spareNow : GoodIn wsX12_open wsX12_spareNow := goodIn_r _ [51, 4, 19, 3, 110, 111, 112, 113, 114, 115, 116, 117, 118, 119, 120, 121, 122, 123, 124, 125, 126, 127, 128, 129, 130, 131, 132, 133, 134] (by decide +kernel) (by decide +kernel)
set_option maxRecDepth 20000 in
theorem gX12_open_X12_spareNow : GoodIn wsX12_open (wsV RX12 196 RX12 yX12_spareNow wsX12_spareNow) := goodIn_app (goodIn_of _ (by decide +kernel)) ggX12_open_X12_spareNow
set_option maxRecDepth 20000 in
theorem ggX12_open_X12_word : GoodIn wsX12_open wsX12_word := goodIn_r _ [32] (by decide +kernel) (by decide +kernel)
set_option maxRecDepth 20000 in
theorem gX12_open_X12_word : GoodIn wsX12_open (va_wsS RX12 181 yX12_word wsX12_word) := goodIn_app (goodIn_of _ (by decide +kernel)) ggX12_open_X12_word
set_option maxRecDepth 20000 in
theorem ggX12_open_X12_placeOfNumber : GoodIn wsX12_open wsX12_placeOfNumber := goodIn_r _ [55, 21, 110, 111, 112, 113, 114, 115, 116, 117, 118, 119, 120, 121, 122, 123, 124, 125, 126, 127, 128, 129, 130, 131, 132, 133, 134] (by decide +kernel) (by decide +kernel)
set_option maxRecDepth 20000 in
theorem gX12_open_X12_placeOfNumber : GoodIn wsX12_open (wsV RX12 205 RX12 yX12_placeOfNumber wsX12_placeOfNumber) := goodIn_app (goodIn_of _ (by decide +kernel)) ggX12_open_X12_placeOfNumber
set_option maxRecDepth 20000 in
theorem ggX12_open_X12_workOut : GoodIn wsX12_open wsX12_workOut := goodIn_r _ [59, 6, 60, 3, 52, 53, 54, 17, 55, 21, 61, 62, 63, 64, 65, 66, 67, 68, 69, 70, 71, 72, 73, 74, 75, 76, 77, 78, 110, 111, 112, 113, 114, 115, 116, 117, 118, 119, 120, 121, 122, 123, 124, 125, 126, 127, 128, 129, 130, 131, 132, 133, 134] (by decide +kernel) (by decide +kernel)
set_option maxRecDepth 20000 in
theorem gX12_open_X12_workOut : GoodIn wsX12_open (wsV RX12 220 RX12 yX12_workOut wsX12_workOut) := goodIn_app (goodIn_of _ (by decide +kernel)) ggX12_open_X12_workOut
set_option maxRecDepth 20000 in
theorem ggX12_open_X12_findFiles : GoodIn wsX12_open wsX12_findFiles := goodIn_r _ [82, 83, 84, 13, 85, 86, 87, 17, 88, 30, 31, 32, 39, 40, 41, 42, 43, 44, 45, 46, 47, 89, 90, 91, 92, 93, 94, 95, 96, 97, 98, 99, 100, 101, 102, 103, 104, 105, 106, 107, 108, 109, 110, 111, 112, 113, 114, 115, 116, 117, 118, 119, 120, 121, 122, 123, 124, 125, 126, 127, 128, 129, 130, 131, 132, 133, 134] (by decide +kernel) (by decide +kernel)
set_option maxRecDepth 20000 in
theorem gX12_open_X12_findFiles : GoodIn wsX12_open (wsV RX12 224 RX12 yX12_findFiles wsX12_findFiles) := goodIn_app (goodIn_of _ (by decide +kernel)) ggX12_open_X12_findFiles
theorem dX12_open_0 : decode cX12_open 0 = .ok (.aload_n 0, 1) := by decide +kernel
theorem dX12_open_1 : decode cX12_open 1 = .ok (.iconst 0, 1) := by decide +kernel
theorem dX12_open_2 : decode cX12_open 2 = .ok (.putfield 59, 3) := by decide +kernel
theorem dX12_open_5 : decode cX12_open 5 = .ok (.aload_n 0, 1) := by decide +kernel
theorem dX12_open_6 : decode cX12_open 6 = .ok (.iconst 0, 1) := by decide +kernel
theorem dX12_open_7 : decode cX12_open 7 = .ok (.putfield 164, 3) := by decide +kernel
theorem dX12_open_10 : decode cX12_open 10 = .ok (.aload_n 0, 1) := by decide +kernel
theorem dX12_open_11 : decode cX12_open 11 = .ok (.invokevirtual 193, 3) := by decide +kernel
theorem dX12_open_14 : decode cX12_open 14 = .ok (.aload_n 0, 1) := by decide +kernel
theorem dX12_open_15 : decode cX12_open 15 = .ok (.invokevirtual 196, 3) := by decide +kernel
theorem dX12_open_18 : decode cX12_open 18 = .ok (.iconst (-1), 1) := by decide +kernel
theorem dX12_open_19 : decode cX12_open 19 = .ok (.if_icmp .ne 5, 3) := by decide +kernel
theorem dX12_open_22 : decode cX12_open 22 = .ok (.iconst (-1), 1) := by decide +kernel
theorem dX12_open_23 : decode cX12_open 23 = .ok (.ireturn, 1) := by decide +kernel
theorem dX12_open_24 : decode cX12_open 24 = .ok (.aload_n 0, 1) := by decide +kernel
theorem dX12_open_25 : decode cX12_open 25 = .ok (.getfield 25, 3) := by decide +kernel
theorem dX12_open_28 : decode cX12_open 28 = .ok (.aload_n 0, 1) := by decide +kernel
theorem dX12_open_29 : decode cX12_open 29 = .ok (.getfield 184, 3) := by decide +kernel
theorem dX12_open_32 : decode cX12_open 32 = .ok (.aaload, 1) := by decide +kernel
theorem dX12_open_33 : decode cX12_open 33 = .ok (.astore_n 1, 1) := by decide +kernel
theorem dX12_open_34 : decode cX12_open 34 = .ok (.aload_n 1, 1) := by decide +kernel
theorem dX12_open_35 : decode cX12_open 35 = .ok (.iconst 2, 1) := by decide +kernel
theorem dX12_open_36 : decode cX12_open 36 = .ok (.iaload, 1) := by decide +kernel
theorem dX12_open_37 : decode cX12_open 37 = .ok (.istore_n 2, 1) := by decide +kernel
theorem dX12_open_38 : decode cX12_open 38 = .ok (.aload_n 1, 1) := by decide +kernel
theorem dX12_open_39 : decode cX12_open 39 = .ok (.iconst 4, 1) := by decide +kernel
theorem dX12_open_40 : decode cX12_open 40 = .ok (.invokestatic 181, 3) := by decide +kernel
theorem dX12_open_43 : decode cX12_open 43 = .ok (.istore_n 3, 1) := by decide +kernel
theorem dX12_open_44 : decode cX12_open 44 = .ok (.iload_n 2, 1) := by decide +kernel
theorem dX12_open_45 : decode cX12_open 45 = .ok (.anewarray 24, 3) := by decide +kernel
theorem dX12_open_48 : decode cX12_open 48 = .ok (.astore 4, 2) := by decide +kernel
theorem dX12_open_50 : decode cX12_open 50 = .ok (.iconst 0, 1) := by decide +kernel
theorem dX12_open_51 : decode cX12_open 51 = .ok (.istore 5, 2) := by decide +kernel
theorem dX12_open_53 : decode cX12_open 53 = .ok (.iload 5, 2) := by decide +kernel
theorem dX12_open_55 : decode cX12_open 55 = .ok (.iload_n 2, 1) := by decide +kernel
theorem dX12_open_56 : decode cX12_open 56 = .ok (.if_icmp .ge 53, 3) := by decide +kernel
theorem dX12_open_59 : decode cX12_open 59 = .ok (.aload_n 0, 1) := by decide +kernel
theorem dX12_open_60 : decode cX12_open 60 = .ok (.iload 5, 2) := by decide +kernel
theorem dX12_open_62 : decode cX12_open 62 = .ok (.invokevirtual 205, 3) := by decide +kernel
theorem dX12_open_65 : decode cX12_open 65 = .ok (.istore 6, 2) := by decide +kernel
theorem dX12_open_67 : decode cX12_open 67 = .ok (.iload 6, 2) := by decide +kernel
theorem dX12_open_69 : decode cX12_open 69 = .ok (.iconst (-1), 1) := by decide +kernel
theorem dX12_open_70 : decode cX12_open 70 = .ok (.if_icmp .ne 6, 3) := by decide +kernel
theorem dX12_open_73 : decode cX12_open 73 = .ok (.goto 30, 3) := by decide +kernel
theorem dX12_open_76 : decode cX12_open 76 = .ok (.aload 4, 2) := by decide +kernel
theorem dX12_open_78 : decode cX12_open 78 = .ok (.iload 5, 2) := by decide +kernel
theorem dX12_open_80 : decode cX12_open 80 = .ok (.iload_n 3, 1) := by decide +kernel
theorem dX12_open_81 : decode cX12_open 81 = .ok (.newarray .int, 2) := by decide +kernel
theorem dX12_open_83 : decode cX12_open 83 = .ok (.aastore, 1) := by decide +kernel
theorem dX12_open_84 : decode cX12_open 84 = .ok (.aload_n 0, 1) := by decide +kernel
theorem dX12_open_85 : decode cX12_open 85 = .ok (.getfield 25, 3) := by decide +kernel
theorem dX12_open_88 : decode cX12_open 88 = .ok (.iload 6, 2) := by decide +kernel
theorem dX12_open_90 : decode cX12_open 90 = .ok (.aaload, 1) := by decide +kernel
theorem dX12_open_91 : decode cX12_open 91 = .ok (.bipush 10, 2) := by decide +kernel
theorem dX12_open_93 : decode cX12_open 93 = .ok (.aload 4, 2) := by decide +kernel
theorem dX12_open_95 : decode cX12_open 95 = .ok (.iload 5, 2) := by decide +kernel
theorem dX12_open_97 : decode cX12_open 97 = .ok (.aaload, 1) := by decide +kernel
theorem dX12_open_98 : decode cX12_open 98 = .ok (.iconst 0, 1) := by decide +kernel
theorem dX12_open_99 : decode cX12_open 99 = .ok (.iload_n 3, 1) := by decide +kernel
theorem dX12_open_100 : decode cX12_open 100 = .ok (.invokestatic 98, 3) := by decide +kernel
theorem dX12_open_103 : decode cX12_open 103 = .ok (.iinc 5 1, 3) := by decide +kernel
theorem dX12_open_106 : decode cX12_open 106 = .ok (.goto (-53), 3) := by decide +kernel
theorem dX12_open_109 : decode cX12_open 109 = .ok (.aload_n 0, 1) := by decide +kernel
theorem dX12_open_110 : decode cX12_open 110 = .ok (.iload_n 2, 1) := by decide +kernel
theorem dX12_open_111 : decode cX12_open 111 = .ok (.putfield 199, 3) := by decide +kernel
theorem dX12_open_114 : decode cX12_open 114 = .ok (.aload_n 0, 1) := by decide +kernel
theorem dX12_open_115 : decode cX12_open 115 = .ok (.aload_n 1, 1) := by decide +kernel
theorem dX12_open_116 : decode cX12_open 116 = .ok (.iconst 3, 1) := by decide +kernel
theorem dX12_open_117 : decode cX12_open 117 = .ok (.iaload, 1) := by decide +kernel
theorem dX12_open_118 : decode cX12_open 118 = .ok (.putfield 202, 3) := by decide +kernel
theorem dX12_open_121 : decode cX12_open 121 = .ok (.aload_n 0, 1) := by decide +kernel
theorem dX12_open_122 : decode cX12_open 122 = .ok (.aload_n 1, 1) := by decide +kernel
theorem dX12_open_123 : decode cX12_open 123 = .ok (.bipush 6, 2) := by decide +kernel
theorem dX12_open_125 : decode cX12_open 125 = .ok (.invokestatic 181, 3) := by decide +kernel
theorem dX12_open_128 : decode cX12_open 128 = .ok (.newarray .int, 2) := by decide +kernel
theorem dX12_open_130 : decode cX12_open 130 = .ok (.putfield 31, 3) := by decide +kernel
theorem dX12_open_133 : decode cX12_open 133 = .ok (.aload_n 0, 1) := by decide +kernel
theorem dX12_open_134 : decode cX12_open 134 = .ok (.aload 4, 2) := by decide +kernel
theorem dX12_open_136 : decode cX12_open 136 = .ok (.iload_n 2, 1) := by decide +kernel
theorem dX12_open_137 : decode cX12_open 137 = .ok (.aload_n 1, 1) := by decide +kernel
theorem dX12_open_138 : decode cX12_open 138 = .ok (.iconst 3, 1) := by decide +kernel
theorem dX12_open_139 : decode cX12_open 139 = .ok (.iaload, 1) := by decide +kernel
theorem dX12_open_140 : decode cX12_open 140 = .ok (.iload_n 3, 1) := by decide +kernel
theorem dX12_open_141 : decode cX12_open 141 = .ok (.invokevirtual 220, 3) := by decide +kernel
theorem dX12_open_144 : decode cX12_open 144 = .ok (.istore 5, 2) := by decide +kernel
theorem dX12_open_146 : decode cX12_open 146 = .ok (.iconst 0, 1) := by decide +kernel
