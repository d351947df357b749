set_option maxRecDepth 20000 in
theorem gX12_keyOf_X12_no : GoodIn wsX12_keyOf (wsV RX12 75 RX12 yX12_no wsX12_no) := goodIn_app (goodIn_of _ (by decide +kernel)) ggX12_keyOf_X12_no
theorem dX12_keyOf_0 : decode cX12_keyOf 0 = .ok (.aload_n 0, 1) := by decide +kernel
theorem dX12_keyOf_1 : decode cX12_keyOf 1 = .ok (.iconst 0, 1) := by decide +kernel
theorem dX12_keyOf_2 : decode cX12_keyOf 2 = .ok (.putfield 59, 3) := by decide +kernel
theorem dX12_keyOf_5 : decode cX12_keyOf 5 = .ok (.aload_n 0, 1) := by decide +kernel
theorem dX12_keyOf_6 : decode cX12_keyOf 6 = .ok (.iload_n 1, 1) := by decide +kernel
theorem dX12_keyOf_7 : decode cX12_keyOf 7 = .ok (.invokevirtual 118, 3) := by decide +kernel
theorem dX12_keyOf_10 : decode cX12_keyOf 10 = .ok (.ifCond .eq 12, 3) := by decide +kernel
theorem dX12_keyOf_13 : decode cX12_keyOf 13 = .ok (.aload_n 0, 1) := by decide +kernel
theorem dX12_keyOf_14 : decode cX12_keyOf 14 = .ok (.getfield 13, 3) := by decide +kernel
theorem dX12_keyOf_17 : decode cX12_keyOf 17 = .ok (.iload_n 1, 1) := by decide +kernel
theorem dX12_keyOf_18 : decode cX12_keyOf 18 = .ok (.iaload, 1) := by decide +kernel
theorem dX12_keyOf_19 : decode cX12_keyOf 19 = .ok (.goto 8, 3) := by decide +kernel
theorem dX12_keyOf_22 : decode cX12_keyOf 22 = .ok (.aload_n 0, 1) := by decide +kernel
theorem dX12_keyOf_23 : decode cX12_keyOf 23 = .ok (.iconst 1, 1) := by decide +kernel
theorem dX12_keyOf_24 : decode cX12_keyOf 24 = .ok (.invokevirtual 75, 3) := by decide +kernel
theorem dX12_keyOf_27 : decode cX12_keyOf 27 = .ok (.ireturn, 1) := by decide +kernel
set_option maxRecDepth 20000 in
theorem ggX12_lengthOf_X12_isFile : GoodIn wsX12_lengthOf wsX12_isFile := goodIn_r _ [7, 8, 9, 10, 6, 11, 16, 17, 18, 19, 20, 21, 22, 23, 24, 25, 26, 27, 28, 29, 30, 31, 32, 33, 34, 35, 36, 37, 38, 39, 40] (by decide +kernel) (by decide +kernel)
set_option maxRecDepth 20000 in
theorem gX12_lengthOf_X12_isFile : GoodIn wsX12_lengthOf (wsV RX12 118 RX12 yX12_isFile wsX12_isFile) := goodIn_app (goodIn_of _ (by decide +kernel)) ggX12_lengthOf_X12_isFile
set_option maxRecDepth 20000 in
theorem ggX12_lengthOf_X12_no : GoodIn wsX12_lengthOf wsX12_no := goodIn_r _ [15, 1, 16, 17, 18, 19, 20, 21, 22, 23, 24, 25, 26, 27, 28, 29, 30, 31, 32, 33, 34, 35, 36, 37, 38, 39, 40] (by decide +kernel) (by decide +kernel)
set_option maxRecDepth 20000 in
theorem gX12_lengthOf_X12_no : GoodIn wsX12_lengthOf (wsV RX12 75 RX12 yX12_no wsX12_no) := goodIn_app (goodIn_of _ (by decide +kernel)) ggX12_lengthOf_X12_no
theorem dX12_lengthOf_0 : decode cX12_lengthOf 0 = .ok (.aload_n 0, 1) := by decide +kernel
theorem dX12_lengthOf_1 : decode cX12_lengthOf 1 = .ok (.iconst 0, 1) := by decide +kernel
theorem dX12_lengthOf_2 : decode cX12_lengthOf 2 = .ok (.putfield 59, 3) := by decide +kernel
theorem dX12_lengthOf_5 : decode cX12_lengthOf 5 = .ok (.aload_n 0, 1) := by decide +kernel
theorem dX12_lengthOf_6 : decode cX12_lengthOf 6 = .ok (.iload_n 1, 1) := by decide +kernel
theorem dX12_lengthOf_7 : decode cX12_lengthOf 7 = .ok (.invokevirtual 118, 3) := by decide +kernel
theorem dX12_lengthOf_10 : decode cX12_lengthOf 10 = .ok (.ifCond .eq 12, 3) := by decide +kernel
theorem dX12_lengthOf_13 : decode cX12_lengthOf 13 = .ok (.aload_n 0, 1) := by decide +kernel
theorem dX12_lengthOf_14 : decode cX12_lengthOf 14 = .ok (.getfield 16, 3) := by decide +kernel
theorem dX12_lengthOf_17 : decode cX12_lengthOf 17 = .ok (.iload_n 1, 1) := by decide +kernel
theorem dX12_lengthOf_18 : decode cX12_lengthOf 18 = .ok (.iaload, 1) := by decide +kernel
theorem dX12_lengthOf_19 : decode cX12_lengthOf 19 = .ok (.goto 8, 3) := by decide +kernel
theorem dX12_lengthOf_22 : decode cX12_lengthOf 22 = .ok (.aload_n 0, 1) := by decide +kernel
theorem dX12_lengthOf_23 : decode cX12_lengthOf 23 = .ok (.iconst 1, 1) := by decide +kernel
theorem dX12_lengthOf_24 : decode cX12_lengthOf 24 = .ok (.invokevirtual 75, 3) := by decide +kernel
theorem dX12_lengthOf_27 : decode cX12_lengthOf 27 = .ok (.ireturn, 1) := by decide +kernel
set_option maxRecDepth 20000 in
theorem ggX12_contentAt_X12_isFile : GoodIn wsX12_contentAt wsX12_isFile := goodIn_r _ [8, 9, 10, 11, 7, 12, 17, 18, 19, 20, 21, 22, 23, 24, 25, 26, 27, 28, 29, 30, 31, 32, 33, 34, 35, 36, 37, 38, 39, 40, 41] (by decide +kernel) (by decide +kernel)
set_option maxRecDepth 20000 in
theorem gX12_contentAt_X12_isFile : GoodIn wsX12_contentAt (wsV RX12 118 RX12 yX12_isFile wsX12_isFile) := goodIn_app (goodIn_of _ (by decide +kernel)) ggX12_contentAt_X12_isFile
set_option maxRecDepth 20000 in
theorem ggX12_contentAt_X12_isIn : GoodIn wsX12_contentAt wsX12_isIn := goodIn_r _ [12] (by decide +kernel) (by decide +kernel)
set_option maxRecDepth 20000 in
theorem gX12_contentAt_X12_isIn : GoodIn wsX12_contentAt (va_wsS RX12 71 yX12_isIn wsX12_isIn) := goodIn_app (goodIn_of _ (by decide +kernel)) ggX12_contentAt_X12_isIn
set_option maxRecDepth 20000 in
theorem ggX12_contentAt_X12_no : GoodIn wsX12_contentAt wsX12_no := goodIn_r _ [16, 1, 17, 18, 19, 20, 21, 22, 23, 24, 25, 26, 27, 28, 29, 30, 31, 32, 33, 34, 35, 36, 37, 38, 39, 40, 41] (by decide +kernel) (by decide +kernel)
set_option maxRecDepth 20000 in
theorem gX12_contentAt_X12_no : GoodIn wsX12_contentAt (wsV RX12 75 RX12 yX12_no wsX12_no) := goodIn_app (goodIn_of _ (by decide +kernel)) ggX12_contentAt_X12_no
theorem dX12_contentAt_0 : decode cX12_contentAt 0 = .ok (.aload_n 0, 1) := by decide +kernel
theorem dX12_contentAt_1 : decode cX12_contentAt 1 = .ok (.iconst 0, 1) := by decide +kernel
theorem dX12_contentAt_2 : decode cX12_contentAt 2 = .ok (.putfield 59, 3) := by decide +kernel
theorem dX12_contentAt_5 : decode cX12_contentAt 5 = .ok (.aload_n 0, 1) := by decide +kernel
theorem dX12_contentAt_6 : decode cX12_contentAt 6 = .ok (.iload_n 1, 1) := by decide +kernel
theorem dX12_contentAt_7 : decode cX12_contentAt 7 = .ok (.invokevirtual 118, 3) := by decide +kernel
theorem dX12_contentAt_10 : decode cX12_contentAt 10 = .ok (.ifCond .eq 30, 3) := by decide +kernel
theorem dX12_contentAt_13 : decode cX12_contentAt 13 = .ok (.iload_n 2, 1) := by decide +kernel
theorem dX12_contentAt_14 : decode cX12_contentAt 14 = .ok (.iconst 0, 1) := by decide +kernel
theorem dX12_contentAt_15 : decode cX12_contentAt 15 = .ok (.aload_n 0, 1) := by decide +kernel
theorem dX12_contentAt_16 : decode cX12_contentAt 16 = .ok (.getfield 16, 3) := by decide +kernel
theorem dX12_contentAt_19 : decode cX12_contentAt 19 = .ok (.iload_n 1, 1) := by decide +kernel
theorem dX12_contentAt_20 : decode cX12_contentAt 20 = .ok (.iaload, 1) := by decide +kernel
theorem dX12_contentAt_21 : decode cX12_contentAt 21 = .ok (.iconst 1, 1) := by decide +kernel
theorem dX12_contentAt_22 : decode cX12_contentAt 22 = .ok (.isub, 1) := by decide +kernel
theorem dX12_contentAt_23 : decode cX12_contentAt 23 = .ok (.invokestatic 71, 3) := by decide +kernel
theorem dX12_contentAt_26 : decode cX12_contentAt 26 = .ok (.ifCond .eq 14, 3) := by decide +kernel
theorem dX12_contentAt_29 : decode cX12_contentAt 29 = .ok (.aload_n 0, 1) := by decide +kernel
theorem dX12_contentAt_30 : decode cX12_contentAt 30 = .ok (.getfield 21, 3) := by decide +kernel
theorem dX12_contentAt_33 : decode cX12_contentAt 33 = .ok (.iload_n 1, 1) := by decide +kernel
theorem dX12_contentAt_34 : decode cX12_contentAt 34 = .ok (.aaload, 1) := by decide +kernel
theorem dX12_contentAt_35 : decode cX12_contentAt 35 = .ok (.iload_n 2, 1) := by decide +kernel
theorem dX12_contentAt_36 : decode cX12_contentAt 36 = .ok (.iaload, 1) := by decide +kernel
theorem dX12_contentAt_37 : decode cX12_contentAt 37 = .ok (.goto 8, 3) := by decide +kernel
theorem dX12_contentAt_40 : decode cX12_contentAt 40 = .ok (.aload_n 0, 1) := by decide +kernel
theorem dX12_contentAt_41 : decode cX12_contentAt 41 = .ok (.iconst 1, 1) := by decide +kernel
theorem dX12_contentAt_42 : decode cX12_contentAt 42 = .ok (.invokevirtual 75, 3) := by decide +kernel
theorem dX12_contentAt_45 : decode cX12_contentAt 45 = .ok (.ireturn, 1) := by decide +kernel
set_option maxRecDepth 20000 in
theorem ggX12_checkOf_X12_isFile : GoodIn wsX12_checkOf wsX12_isFile := goodIn_r _ [8, 9, 10, 11, 7, 12, 26, 27, 28, 29, 30, 31, 32, 33, 34, 35, 36, 37, 38, 39, 40, 41, 42, 43, 44, 45, 46, 47, 48, 49, 50] (by decide +kernel) (by decide +kernel)
set_option maxRecDepth 20000 in
theorem gX12_checkOf_X12_isFile : GoodIn wsX12_checkOf (wsV RX12 118 RX12 yX12_isFile wsX12_isFile) := goodIn_app (goodIn_of _ (by decide +kernel)) ggX12_checkOf_X12_isFile
set_option maxRecDepth 20000 in
theorem ggX12_checkOf_X12_check : GoodIn wsX12_checkOf wsX12_check := goodIn_r _ [15, 16, 17, 18, 7, 19, 20, 21] (by decide +kernel) (by decide +kernel)
set_option maxRecDepth 20000 in
theorem gX12_checkOf_X12_check : GoodIn wsX12_checkOf (va_wsS RX12 122 yX12_check wsX12_check) := goodIn_app (goodIn_of _ (by decide +kernel)) ggX12_checkOf_X12_check
set_option maxRecDepth 20000 in
theorem ggX12_checkOf_X12_no : GoodIn wsX12_checkOf wsX12_no := goodIn_r _ [25, 1, 26, 27, 28, 29, 30, 31, 32, 33, 34, 35, 36, 37, 38, 39, 40, 41, 42, 43, 44, 45, 46, 47, 48, 49, 50] (by decide +kernel) (by decide +kernel)
set_option maxRecDepth 20000 in
theorem gX12_checkOf_X12_no : GoodIn wsX12_checkOf (wsV RX12 75 RX12 yX12_no wsX12_no) := goodIn_app (goodIn_of _ (by decide +kernel)) ggX12_checkOf_X12_no
theorem dX12_checkOf_0 : decode cX12_checkOf 0 = .ok (.aload_n 0, 1) := by decide +kernel
theorem dX12_checkOf_1 : decode cX12_checkOf 1 = .ok (.iconst 0, 1) := by decide +kernel
theorem dX12_checkOf_2 : decode cX12_checkOf 2 = .ok (.putfield 59, 3) := by decide +kernel
theorem dX12_checkOf_5 : decode cX12_checkOf 5 = .ok (.aload_n 0, 1) := by decide +kernel
theorem dX12_checkOf_6 : decode cX12_checkOf 6 = .ok (.iload_n 1, 1) := by decide +kernel
theorem dX12_checkOf_7 : decode cX12_checkOf 7 = .ok (.invokevirtual 118, 3) := by decide +kernel
theorem dX12_checkOf_10 : decode cX12_checkOf 10 = .ok (.ifCond .eq 22, 3) := by decide +kernel
theorem dX12_checkOf_13 : decode cX12_checkOf 13 = .ok (.aload_n 0, 1) := by decide +kernel
theorem dX12_checkOf_14 : decode cX12_checkOf 14 = .ok (.getfield 21, 3) := by decide +kernel
theorem dX12_checkOf_17 : decode cX12_checkOf 17 = .ok (.iload_n 1, 1) := by decide +kernel
theorem dX12_checkOf_18 : decode cX12_checkOf 18 = .ok (.aaload, 1) := by decide +kernel
theorem dX12_checkOf_19 : decode cX12_checkOf 19 = .ok (.iconst 0, 1) := by decide +kernel
theorem dX12_checkOf_20 : decode cX12_checkOf 20 = .ok (.aload_n 0, 1) := by decide +kernel
theorem dX12_checkOf_21 : decode cX12_checkOf 21 = .ok (.getfield 16, 3) := by decide +kernel
theorem dX12_checkOf_24 : decode cX12_checkOf 24 = .ok (.iload_n 1, 1) := by decide +kernel
theorem dX12_checkOf_25 : decode cX12_checkOf 25 = .ok (.iaload, 1) := by decide +kernel
theorem dX12_checkOf_26 : decode cX12_checkOf 26 = .ok (.invokestatic 122, 3) := by decide +kernel
theorem dX12_checkOf_29 : decode cX12_checkOf 29 = .ok (.goto 8, 3) := by decide +kernel
theorem dX12_checkOf_32 : decode cX12_checkOf 32 = .ok (.aload_n 0, 1) := by decide +kernel
theorem dX12_checkOf_33 : decode cX12_checkOf 33 = .ok (.iconst 1, 1) := by decide +kernel
theorem dX12_checkOf_34 : decode cX12_checkOf 34 = .ok (.invokevirtual 75, 3) := by decide +kernel
theorem dX12_checkOf_37 : decode cX12_checkOf 37 = .ok (.ireturn, 1) := by decide +kernel
set_option maxRecDepth 20000 in
theorem ggX12_packedLength_X12_isFile : GoodIn wsX12_packedLength wsX12_isFile := goodIn_r _ [8, 9, 10, 11, 7, 12, 25, 26, 27, 28, 29, 30, 31, 32, 33, 34, 35, 36, 37, 38, 39, 40, 41, 42, 43, 44, 45, 46, 47, 48, 49] (by decide +kernel) (by decide +kernel)
set_option maxRecDepth 20000 in
theorem gX12_packedLength_X12_isFile : GoodIn wsX12_packedLength (wsV RX12 118 RX12 yX12_isFile wsX12_isFile) := goodIn_app (goodIn_of _ (by decide +kernel)) ggX12_packedLength_X12_isFile
set_option maxRecDepth 20000 in
theorem ggX12_packedLength_X12_pack : GoodIn wsX12_packedLength wsX12_pack := goodIn_r _ [16, 17, 18, 19, 7, 20, 25, 26, 27, 28, 29, 30, 31, 32, 33, 34, 35, 36, 37, 38, 39, 40, 41, 42, 43, 44, 45, 46, 47, 48, 49] (by decide +kernel) (by decide +kernel)
set_option maxRecDepth 20000 in
theorem gX12_packedLength_X12_pack : GoodIn wsX12_packedLength (wsV RX12 126 RX12 yX12_pack wsX12_pack) := goodIn_app (goodIn_of _ (by decide +kernel)) ggX12_packedLength_X12_pack
set_option maxRecDepth 20000 in
theorem ggX12_packedLength_X12_no : GoodIn wsX12_packedLength wsX12_no := goodIn_r _ [24, 1, 25, 26, 27, 28, 29, 30, 31, 32, 33, 34, 35, 36, 37, 38, 39, 40, 41, 42, 43, 44, 45, 46, 47, 48, 49] (by decide +kernel) (by decide +kernel)
set_option maxRecDepth 20000 in
theorem gX12_packedLength_X12_no : GoodIn wsX12_packedLength (wsV RX12 75 RX12 yX12_no wsX12_no) := goodIn_app (goodIn_of _ (by decide +kernel)) ggX12_packedLength_X12_no
theorem dX12_packedLength_0 : decode cX12_packedLength 0 = .ok (.aload_n 0, 1) := by decide +kernel
theorem dX12_packedLength_1 : decode cX12_packedLength 1 = .ok (.iconst 0, 1) := by decide +kernel
theorem dX12_packedLength_2 : decode cX12_packedLength 2 = .ok (.putfield 59, 3) := by decide +kernel
theorem dX12_packedLength_5 : decode cX12_packedLength 5 = .ok (.aload_n 0, 1) := by decide +kernel
theorem dX12_packedLength_6 : decode cX12_packedLength 6 = .ok (.iload_n 1, 1) := by decide +kernel
theorem dX12_packedLength_7 : decode cX12_packedLength 7 = .ok (.invokevirtual 118, 3) := by decide +kernel
theorem dX12_packedLength_10 : decode cX12_packedLength 10 = .ok (.ifCond .eq 22, 3) := by decide +kernel
theorem dX12_packedLength_13 : decode cX12_packedLength 13 = .ok (.aload_n 0, 1) := by decide +kernel
theorem dX12_packedLength_14 : decode cX12_packedLength 14 = .ok (.aload_n 0, 1) := by decide +kernel
theorem dX12_packedLength_15 : decode cX12_packedLength 15 = .ok (.getfield 21, 3) := by decide +kernel
theorem dX12_packedLength_18 : decode cX12_packedLength 18 = .ok (.iload_n 1, 1) := by decide +kernel
theorem dX12_packedLength_19 : decode cX12_packedLength 19 = .ok (.aaload, 1) := by decide +kernel
theorem dX12_packedLength_20 : decode cX12_packedLength 20 = .ok (.aload_n 0, 1) := by decide +kernel
theorem dX12_packedLength_21 : decode cX12_packedLength 21 = .ok (.getfield 16, 3) := by decide +kernel
theorem dX12_packedLength_24 : decode cX12_packedLength 24 = .ok (.iload_n 1, 1) := by decide +kernel
theorem dX12_packedLength_25 : decode cX12_packedLength 25 = .ok (.iaload, 1) := by decide +kernel
theorem dX12_packedLength_26 : decode cX12_packedLength 26 = .ok (.invokevirtual 126, 3) := by decide +kernel
theorem dX12_packedLength_29 : decode cX12_packedLength 29 = .ok (.goto 8, 3) := by decide +kernel
theorem dX12_packedLength_32 : decode cX12_packedLength 32 = .ok (.aload_n 0, 1) := by decide +kernel
theorem dX12_packedLength_33 : decode cX12_packedLength 33 = .ok (.iconst 1, 1) := by decide +kernel
theorem dX12_packedLength_34 : decode cX12_packedLength 34 = .ok (.invokevirtual 75, 3) := by decide +kernel
theorem dX12_packedLength_37 : decode cX12_packedLength 37 = .ok (.ireturn, 1) := by decide +kernel
set_option maxRecDepth 20000 in
theorem ggX12_packedAt_X12_isFile : GoodIn wsX12_packedAt wsX12_isFile := goodIn_r _ [9, 10, 11, 12, 8, 13, 25, 26, 27, 28, 29, 30, 31, 32, 33, 34, 35, 36, 37, 38, 39, 40, 41, 42, 43, 44, 45, 46, 47, 48, 49] (by decide +kernel) (by decide +kernel)
set_option maxRecDepth 20000 in
theorem gX12_packedAt_X12_isFile : GoodIn wsX12_packedAt (wsV RX12 118 RX12 yX12_isFile wsX12_isFile) := goodIn_app (goodIn_of _ (by decide +kernel)) ggX12_packedAt_X12_isFile
set_option maxRecDepth 20000 in
theorem ggX12_packedAt_X12_pack : GoodIn wsX12_packedAt wsX12_pack := goodIn_r _ [17, 4, 18, 19, 8, 20, 25, 26, 27, 28, 29, 30, 31, 32, 33, 34, 35, 36, 37, 38, 39, 40, 41, 42, 43, 44, 45, 46, 47, 48, 49] (by decide +kernel) (by decide +kernel)
set_option maxRecDepth 20000 in
theorem gX12_packedAt_X12_pack : GoodIn wsX12_packedAt (wsV RX12 126 RX12 yX12_pack wsX12_pack) := goodIn_app (goodIn_of _ (by decide +kernel)) ggX12_packedAt_X12_pack
set_option maxRecDepth 20000 in
theorem ggX12_packedAt_X12_isIn : GoodIn wsX12_packedAt wsX12_isIn := goodIn_r _ [13] (by decide +kernel) (by decide +kernel)
set_option maxRecDepth 20000 in
theorem gX12_packedAt_X12_isIn : GoodIn wsX12_packedAt (va_wsS RX12 71 yX12_isIn wsX12_isIn) := goodIn_app (goodIn_of _ (by decide +kernel)) ggX12_packedAt_X12_isIn
set_option maxRecDepth 20000 in
theorem ggX12_packedAt_X12_no : GoodIn wsX12_packedAt wsX12_no := goodIn_r _ [24, 1, 25, 26, 27, 28, 29, 30, 31, 32, 33, 34, 35, 36, 37, 38, 39, 40, 41, 42, 43, 44, 45, 46, 47, 48, 49] (by decide +kernel) (by decide +kernel)
set_option maxRecDepth 20000 in
theorem gX12_packedAt_X12_no : GoodIn wsX12_packedAt (wsV RX12 75 RX12 yX12_no wsX12_no) := goodIn_app (goodIn_of _ (by decide +kernel)) ggX12_packedAt_X12_no
theorem dX12_packedAt_0 : decode cX12_packedAt 0 = .ok (.aload_n 0, 1) := by decide +kernel
theorem dX12_packedAt_1 : decode cX12_packedAt 1 = .ok (.iconst 0, 1) := by decide +kernel
theorem dX12_packedAt_2 : decode cX12_packedAt 2 = .ok (.putfield 59, 3) := by decide +kernel
theorem dX12_packedAt_5 : decode cX12_packedAt 5 = .ok (.aload_n 0, 1) := by decide +kernel
theorem dX12_packedAt_6 : decode cX12_packedAt 6 = .ok (.iload_n 1, 1) := by decide +kernel
theorem dX12_packedAt_7 : decode cX12_packedAt 7 = .ok (.invokevirtual 118, 3) := by decide +kernel
theorem dX12_packedAt_10 : decode cX12_packedAt 10 = .ok (.ifCond .eq 38, 3) := by decide +kernel
theorem dX12_packedAt_13 : decode cX12_packedAt 13 = .ok (.iload_n 2, 1) := by decide +kernel
theorem dX12_packedAt_14 : decode cX12_packedAt 14 = .ok (.iconst 0, 1) := by decide +kernel
theorem dX12_packedAt_15 : decode cX12_packedAt 15 = .ok (.aload_n 0, 1) := by decide +kernel
theorem dX12_packedAt_16 : decode cX12_packedAt 16 = .ok (.aload_n 0, 1) := by decide +kernel
theorem dX12_packedAt_17 : decode cX12_packedAt 17 = .ok (.getfield 21, 3) := by decide +kernel
theorem dX12_packedAt_20 : decode cX12_packedAt 20 = .ok (.iload_n 1, 1) := by decide +kernel
theorem dX12_packedAt_21 : decode cX12_packedAt 21 = .ok (.aaload, 1) := by decide +kernel
theorem dX12_packedAt_22 : decode cX12_packedAt 22 = .ok (.aload_n 0, 1) := by decide +kernel
theorem dX12_packedAt_23 : decode cX12_packedAt 23 = .ok (.getfield 16, 3) := by decide +kernel
theorem dX12_packedAt_26 : decode cX12_packedAt 26 = .ok (.iload_n 1, 1) := by decide +kernel
theorem dX12_packedAt_27 : decode cX12_packedAt 27 = .ok (.iaload, 1) := by decide +kernel
theorem dX12_packedAt_28 : decode cX12_packedAt 28 = .ok (.invokevirtual 126, 3) := by decide +kernel
theorem dX12_packedAt_31 : decode cX12_packedAt 31 = .ok (.iconst 1, 1) := by decide +kernel
theorem dX12_packedAt_32 : decode cX12_packedAt 32 = .ok (.isub, 1) := by decide +kernel
theorem dX12_packedAt_33 : decode cX12_packedAt 33 = .ok (.invokestatic 71, 3) := by decide +kernel
theorem dX12_packedAt_36 : decode cX12_packedAt 36 = .ok (.ifCond .eq 12, 3) := by decide +kernel
theorem dX12_packedAt_39 : decode cX12_packedAt 39 = .ok (.aload_n 0, 1) := by decide +kernel
theorem dX12_packedAt_40 : decode cX12_packedAt 40 = .ok (.getfield 46, 3) := by decide +kernel
theorem dX12_packedAt_43 : decode cX12_packedAt 43 = .ok (.iload_n 2, 1) := by decide +kernel
theorem dX12_packedAt_44 : decode cX12_packedAt 44 = .ok (.iaload, 1) := by decide +kernel
theorem dX12_packedAt_45 : decode cX12_packedAt 45 = .ok (.goto 8, 3) := by decide +kernel
theorem dX12_packedAt_48 : decode cX12_packedAt 48 = .ok (.aload_n 0, 1) := by decide +kernel
theorem dX12_packedAt_49 : decode cX12_packedAt 49 = .ok (.iconst 1, 1) := by decide +kernel
theorem dX12_packedAt_50 : decode cX12_packedAt 50 = .ok (.invokevirtual 75, 3) := by decide +kernel
theorem dX12_packedAt_53 : decode cX12_packedAt 53 = .ok (.ireturn, 1) := by decide +kernel
set_option maxRecDepth 20000 in
theorem ggX12_streamSize_X12_pack : GoodIn wsX12_streamSize wsX12_pack := goodIn_r _ [12, 13, 14, 15, 11, 16, 17, 18, 19, 20, 21, 22, 23, 24, 25, 26, 27, 28, 29, 30, 31, 32, 33, 34, 35, 36, 37, 38, 39, 40, 41] (by decide +kernel) (by decide +kernel)
set_option maxRecDepth 20000 in
theorem gX12_streamSize_X12_pack : GoodIn wsX12_streamSize (wsV RX12 126 RX12 yX12_pack wsX12_pack) := goodIn_app (goodIn_of _ (by decide +kernel)) ggX12_streamSize_X12_pack
theorem dX12_streamSize_0 : decode cX12_streamSize 0 = .ok (.bipush 6, 2) := by decide +kernel
theorem dX12_streamSize_2 : decode cX12_streamSize 2 = .ok (.istore_n 1, 1) := by decide +kernel
theorem dX12_streamSize_3 : decode cX12_streamSize 3 = .ok (.iconst 0, 1) := by decide +kernel
theorem dX12_streamSize_4 : decode cX12_streamSize 4 = .ok (.istore_n 2, 1) := by decide +kernel
theorem dX12_streamSize_5 : decode cX12_streamSize 5 = .ok (.iload_n 2, 1) := by decide +kernel
theorem dX12_streamSize_6 : decode cX12_streamSize 6 = .ok (.aload_n 0, 1) := by decide +kernel
theorem dX12_streamSize_7 : decode cX12_streamSize 7 = .ok (.getfield 95, 3) := by decide +kernel
theorem dX12_streamSize_10 : decode cX12_streamSize 10 = .ok (.if_icmp .ge 40, 3) := by decide +kernel
theorem dX12_streamSize_13 : decode cX12_streamSize 13 = .ok (.iload_n 1, 1) := by decide +kernel
theorem dX12_streamSize_14 : decode cX12_streamSize 14 = .ok (.bipush 14, 2) := by decide +kernel
theorem dX12_streamSize_16 : decode cX12_streamSize 16 = .ok (.aload_n 0, 1) := by decide +kernel
theorem dX12_streamSize_17 : decode cX12_streamSize 17 = .ok (.getfield 16, 3) := by decide +kernel
theorem dX12_streamSize_20 : decode cX12_streamSize 20 = .ok (.iload_n 2, 1) := by decide +kernel
theorem dX12_streamSize_21 : decode cX12_streamSize 21 = .ok (.iaload, 1) := by decide +kernel
theorem dX12_streamSize_22 : decode cX12_streamSize 22 = .ok (.aload_n 0, 1) := by decide +kernel
theorem dX12_streamSize_23 : decode cX12_streamSize 23 = .ok (.aload_n 0, 1) := by decide +kernel
theorem dX12_streamSize_24 : decode cX12_streamSize 24 = .ok (.getfield 21, 3) := by decide +kernel
theorem dX12_streamSize_27 : decode cX12_streamSize 27 = .ok (.iload_n 2, 1) := by decide +kernel
theorem dX12_streamSize_28 : decode cX12_streamSize 28 = .ok (.aaload, 1) := by decide +kernel
theorem dX12_streamSize_29 : decode cX12_streamSize 29 = .ok (.aload_n 0, 1) := by decide +kernel
theorem dX12_streamSize_30 : decode cX12_streamSize 30 = .ok (.getfield 16, 3) := by decide +kernel
theorem dX12_streamSize_33 : decode cX12_streamSize 33 = .ok (.iload_n 2, 1) := by decide +kernel
theorem dX12_streamSize_34 : decode cX12_streamSize 34 = .ok (.iaload, 1) := by decide +kernel
theorem dX12_streamSize_35 : decode cX12_streamSize 35 = .ok (.invokevirtual 126, 3) := by decide +kernel
theorem dX12_streamSize_38 : decode cX12_streamSize 38 = .ok (.invokestatic 130, 3) := by decide +kernel
theorem dX12_streamSize_41 : decode cX12_streamSize 41 = .ok (.iadd, 1) := by decide +kernel
theorem dX12_streamSize_42 : decode cX12_streamSize 42 = .ok (.iadd, 1) := by decide +kernel
theorem dX12_streamSize_43 : decode cX12_streamSize 43 = .ok (.istore_n 1, 1) := by decide +kernel
theorem dX12_streamSize_44 : decode cX12_streamSize 44 = .ok (.iinc 2 1, 3) := by decide +kernel
theorem dX12_streamSize_47 : decode cX12_streamSize 47 = .ok (.goto (-42), 3) := by decide +kernel
theorem dX12_streamSize_50 : decode cX12_streamSize 50 = .ok (.iload_n 1, 1) := by decide +kernel
theorem dX12_streamSize_51 : decode cX12_streamSize 51 = .ok (.ireturn, 1) := by decide +kernel
set_option maxRecDepth 20000 in
theorem ggX12_streamLength_X12_streamSize : GoodIn wsX12_streamLength wsX12_streamSize := goodIn_r _ [5, 6, 7, 8, 9, 10, 11, 12, 13, 14, 15, 4, 16, 17, 18, 19, 20, 26, 27, 28, 29, 30, 31, 32, 33, 34, 35, 36, 37, 38, 39, 40, 41, 42, 43, 44, 45, 46, 47, 48, 49, 50] (by decide +kernel) (by decide +kernel)
set_option maxRecDepth 20000 in
theorem gX12_streamLength_X12_streamSize : GoodIn wsX12_streamLength (wsV RX12 135 RX12 yX12_streamSize wsX12_streamSize) := goodIn_app (goodIn_of _ (by decide +kernel)) ggX12_streamLength_X12_streamSize
set_option maxRecDepth 20000 in
theorem ggX12_streamLength_X12_ok : GoodIn wsX12_streamLength wsX12_ok := goodIn_r _ [24, 25, 26, 27, 28, 29, 30, 31, 32, 33, 34, 35, 36, 37, 38, 39, 40, 41, 42, 43, 44, 45, 46, 47, 48, 49, 50] (by decide +kernel) (by decide +kernel)
set_option maxRecDepth 20000 in
theorem gX12_streamLength_X12_ok : GoodIn wsX12_streamLength (wsV RX12 115 RX12 yX12_ok wsX12_ok) := goodIn_app (goodIn_of _ (by decide +kernel)) ggX12_streamLength_X12_ok
theorem dX12_streamLength_0 : decode cX12_streamLength 0 = .ok (.aload_n 0, 1) := by decide +kernel
theorem dX12_streamLength_1 : decode cX12_streamLength 1 = .ok (.aload_n 0, 1) := by decide +kernel
theorem dX12_streamLength_2 : decode cX12_streamLength 2 = .ok (.invokevirtual 135, 3) := by decide +kernel
theorem dX12_streamLength_5 : decode cX12_streamLength 5 = .ok (.invokevirtual 115, 3) := by decide +kernel
theorem dX12_streamLength_8 : decode cX12_streamLength 8 = .ok (.ireturn, 1) := by decide +kernel
theorem dX12_word_0 : decode cX12_word 0 = .ok (.aload_n 0, 1) := by decide +kernel
theorem dX12_word_1 : decode cX12_word 1 = .ok (.iload_n 1, 1) := by decide +kernel
theorem dX12_word_2 : decode cX12_word 2 = .ok (.iaload, 1) := by decide +kernel
theorem dX12_word_3 : decode cX12_word 3 = .ok (.bipush 8, 2) := by decide +kernel
theorem dX12_word_5 : decode cX12_word 5 = .ok (.ishl, 1) := by decide +kernel
theorem dX12_word_6 : decode cX12_word 6 = .ok (.aload_n 0, 1) := by decide +kernel
theorem dX12_word_7 : decode cX12_word 7 = .ok (.iload_n 1, 1) := by decide +kernel
theorem dX12_word_8 : decode cX12_word 8 = .ok (.iconst 1, 1) := by decide +kernel
theorem dX12_word_9 : decode cX12_word 9 = .ok (.iadd, 1) := by decide +kernel
theorem dX12_word_10 : decode cX12_word 10 = .ok (.iaload, 1) := by decide +kernel
theorem dX12_word_11 : decode cX12_word 11 = .ok (.ior, 1) := by decide +kernel
theorem dX12_word_12 : decode cX12_word 12 = .ok (.ireturn, 1) := by decide +kernel
theorem dX12_setWord_0 : decode cX12_setWord 0 = .ok (.aload_n 0, 1) := by decide +kernel
theorem dX12_setWord_1 : decode cX12_setWord 1 = .ok (.iload_n 1, 1) := by decide +kernel
theorem dX12_setWord_2 : decode cX12_setWord 2 = .ok (.iload_n 2, 1) := by decide +kernel
theorem dX12_setWord_3 : decode cX12_setWord 3 = .ok (.bipush 8, 2) := by decide +kernel
theorem dX12_setWord_5 : decode cX12_setWord 5 = .ok (.ishr, 1) := by decide +kernel
theorem dX12_setWord_6 : decode cX12_setWord 6 = .ok (.iastore, 1) := by decide +kernel
theorem dX12_setWord_7 : decode cX12_setWord 7 = .ok (.aload_n 0, 1) := by decide +kernel
theorem dX12_setWord_8 : decode cX12_setWord 8 = .ok (.iload_n 1, 1) := by decide +kernel
theorem dX12_setWord_9 : decode cX12_setWord 9 = .ok (.iconst 1, 1) := by decide +kernel
theorem dX12_setWord_10 : decode cX12_setWord 10 = .ok (.iadd, 1) := by decide +kernel
theorem dX12_setWord_11 : decode cX12_setWord 11 = .ok (.iload_n 2, 1) := by decide +kernel
theorem dX12_setWord_12 : decode cX12_setWord 12 = .ok (.sipush 255, 3) := by decide +kernel
theorem dX12_setWord_15 : decode cX12_setWord 15 = .ok (.iand, 1) := by decide +kernel
theorem dX12_setWord_16 : decode cX12_setWord 16 = .ok (.iastore, 1) := by decide +kernel
theorem dX12_setWord_17 : decode cX12_setWord 17 = .ok (.return_, 1) := by decide +kernel
set_option maxRecDepth 20000 in
theorem ggX12_makeStream_X12_streamSize : GoodIn wsX12_makeStream wsX12_streamSize := goodIn_r _ [15, 2, 4, 3, 16, 17, 18, 19, 20, 21, 22, 14, 23, 6, 24, 25, 26, 39, 40, 41, 42, 43, 44, 45, 46, 47, 48, 49, 50, 51, 52, 53, 54, 55, 56, 57, 58, 59, 60, 61, 62, 63] (by decide +kernel) (by decide +kernel)
set_option maxRecDepth 20000 in
theorem gX12_makeStream_X12_streamSize : GoodIn wsX12_makeStream (wsV RX12 135 RX12 yX12_streamSize wsX12_streamSize) := goodIn_app (goodIn_of _ (by decide +kernel)) ggX12_makeStream_X12_streamSize
set_option maxRecDepth 20000 in
theorem ggX12_makeStream_X12_pack : GoodIn wsX12_makeStream wsX12_pack := goodIn_r _ [23, 6, 24, 25, 14, 26, 39, 40, 41, 42, 43, 44, 45, 46, 47, 48, 49, 50, 51, 52, 53, 54, 55, 56, 57, 58, 59, 60, 61, 62, 63] (by decide +kernel) (by decide +kernel)
set_option maxRecDepth 20000 in
theorem gX12_makeStream_X12_pack : GoodIn wsX12_makeStream (wsV RX12 126 RX12 yX12_pack wsX12_pack) := goodIn_app (goodIn_of _ (by decide +kernel)) ggX12_makeStream_X12_pack
set_option maxRecDepth 20000 in
theorem ggX12_makeStream_X12_setWord : GoodIn wsX12_makeStream wsX12_setWord := goodIn_r _ [29] (by decide +kernel) (by decide +kernel)
set_option maxRecDepth 20000 in
theorem gX12_makeStream_X12_setWord : GoodIn wsX12_makeStream (va_wsS RX12 139 yX12_setWord wsX12_setWord) := goodIn_app (goodIn_of _ (by decide +kernel)) ggX12_makeStream_X12_setWord
set_option maxRecDepth 20000 in
theorem ggX12_makeStream_X12_check : GoodIn wsX12_makeStream wsX12_check := goodIn_r _ [32, 33, 34, 35, 14, 36, 37, 38] (by decide +kernel) (by decide +kernel)
set_option maxRecDepth 20000 in
theorem gX12_makeStream_X12_check : GoodIn wsX12_makeStream (va_wsS RX12 122 yX12_check wsX12_check) := goodIn_app (goodIn_of _ (by decide +kernel)) ggX12_makeStream_X12_check
theorem dX12_makeStream_0 : decode cX12_makeStream 0 = .ok (.aload_n 0, 1) := by decide +kernel
theorem dX12_makeStream_1 : decode cX12_makeStream 1 = .ok (.invokevirtual 135, 3) := by decide +kernel
theorem dX12_makeStream_4 : decode cX12_makeStream 4 = .ok (.newarray .int, 2) := by decide +kernel
theorem dX12_makeStream_6 : decode cX12_makeStream 6 = .ok (.astore_n 1, 1) := by decide +kernel
theorem dX12_makeStream_7 : decode cX12_makeStream 7 = .ok (.bipush 16, 2) := by decide +kernel
theorem dX12_makeStream_9 : decode cX12_makeStream 9 = .ok (.newarray .int, 2) := by decide +kernel
theorem dX12_makeStream_11 : decode cX12_makeStream 11 = .ok (.astore_n 2, 1) := by decide +kernel
theorem dX12_makeStream_12 : decode cX12_makeStream 12 = .ok (.iconst 0, 1) := by decide +kernel
theorem dX12_makeStream_13 : decode cX12_makeStream 13 = .ok (.istore_n 3, 1) := by decide +kernel
theorem dX12_makeStream_14 : decode cX12_makeStream 14 = .ok (.iconst 0, 1) := by decide +kernel
theorem dX12_makeStream_15 : decode cX12_makeStream 15 = .ok (.istore 4, 2) := by decide +kernel
theorem dX12_makeStream_17 : decode cX12_makeStream 17 = .ok (.iload 4, 2) := by decide +kernel
theorem dX12_makeStream_19 : decode cX12_makeStream 19 = .ok (.aload_n 0, 1) := by decide +kernel
theorem dX12_makeStream_20 : decode cX12_makeStream 20 = .ok (.getfield 95, 3) := by decide +kernel
theorem dX12_makeStream_23 : decode cX12_makeStream 23 = .ok (.if_icmp .ge 174, 3) := by decide +kernel
theorem dX12_makeStream_26 : decode cX12_makeStream 26 = .ok (.aload_n 2, 1) := by decide +kernel
theorem dX12_makeStream_27 : decode cX12_makeStream 27 = .ok (.iload 4, 2) := by decide +kernel
theorem dX12_makeStream_29 : decode cX12_makeStream 29 = .ok (.iload_n 3, 1) := by decide +kernel
theorem dX12_makeStream_30 : decode cX12_makeStream 30 = .ok (.iastore, 1) := by decide +kernel
theorem dX12_makeStream_31 : decode cX12_makeStream 31 = .ok (.aload_n 0, 1) := by decide +kernel
theorem dX12_makeStream_32 : decode cX12_makeStream 32 = .ok (.aload_n 0, 1) := by decide +kernel
theorem dX12_makeStream_33 : decode cX12_makeStream 33 = .ok (.getfield 21, 3) := by decide +kernel
theorem dX12_makeStream_36 : decode cX12_makeStream 36 = .ok (.iload 4, 2) := by decide +kernel
theorem dX12_makeStream_38 : decode cX12_makeStream 38 = .ok (.aaload, 1) := by decide +kernel
theorem dX12_makeStream_39 : decode cX12_makeStream 39 = .ok (.aload_n 0, 1) := by decide +kernel
theorem dX12_makeStream_40 : decode cX12_makeStream 40 = .ok (.getfield 16, 3) := by decide +kernel
theorem dX12_makeStream_43 : decode cX12_makeStream 43 = .ok (.iload 4, 2) := by decide +kernel
theorem dX12_makeStream_45 : decode cX12_makeStream 45 = .ok (.iaload, 1) := by decide +kernel
theorem dX12_makeStream_46 : decode cX12_makeStream 46 = .ok (.invokevirtual 126, 3) := by decide +kernel
theorem dX12_makeStream_49 : decode cX12_makeStream 49 = .ok (.istore 5, 2) := by decide +kernel
theorem dX12_makeStream_51 : decode cX12_makeStream 51 = .ok (.iload 5, 2) := by decide +kernel
theorem dX12_makeStream_53 : decode cX12_makeStream 53 = .ok (.aload_n 0, 1) := by decide +kernel
theorem dX12_makeStream_54 : decode cX12_makeStream 54 = .ok (.getfield 16, 3) := by decide +kernel
theorem dX12_makeStream_57 : decode cX12_makeStream 57 = .ok (.iload 4, 2) := by decide +kernel
theorem dX12_makeStream_59 : decode cX12_makeStream 59 = .ok (.iaload, 1) := by decide +kernel
theorem dX12_makeStream_60 : decode cX12_makeStream 60 = .ok (.if_icmp .ge 7, 3) := by decide +kernel
theorem dX12_makeStream_63 : decode cX12_makeStream 63 = .ok (.iconst 1, 1) := by decide +kernel
theorem dX12_makeStream_64 : decode cX12_makeStream 64 = .ok (.goto 4, 3) := by decide +kernel
theorem dX12_makeStream_67 : decode cX12_makeStream 67 = .ok (.iconst 0, 1) := by decide +kernel
theorem dX12_makeStream_68 : decode cX12_makeStream 68 = .ok (.istore 6, 2) := by decide +kernel
theorem dX12_makeStream_70 : decode cX12_makeStream 70 = .ok (.iload 6, 2) := by decide +kernel
theorem dX12_makeStream_72 : decode cX12_makeStream 72 = .ok (.ifCond .ne 12, 3) := by decide +kernel
theorem dX12_makeStream_75 : decode cX12_makeStream 75 = .ok (.aload_n 0, 1) := by decide +kernel
theorem dX12_makeStream_76 : decode cX12_makeStream 76 = .ok (.getfield 16, 3) := by decide +kernel
theorem dX12_makeStream_79 : decode cX12_makeStream 79 = .ok (.iload 4, 2) := by decide +kernel
theorem dX12_makeStream_81 : decode cX12_makeStream 81 = .ok (.iaload, 1) := by decide +kernel
theorem dX12_makeStream_82 : decode cX12_makeStream 82 = .ok (.istore 5, 2) := by decide +kernel
theorem dX12_makeStream_84 : decode cX12_makeStream 84 = .ok (.aload_n 1, 1) := by decide +kernel
theorem dX12_makeStream_85 : decode cX12_makeStream 85 = .ok (.iload_n 3, 1) := by decide +kernel
theorem dX12_makeStream_86 : decode cX12_makeStream 86 = .ok (.bipush 69, 2) := by decide +kernel
theorem dX12_makeStream_88 : decode cX12_makeStream 88 = .ok (.iastore, 1) := by decide +kernel
theorem dX12_makeStream_89 : decode cX12_makeStream 89 = .ok (.aload_n 1, 1) := by decide +kernel
theorem dX12_makeStream_90 : decode cX12_makeStream 90 = .ok (.iload_n 3, 1) := by decide +kernel
theorem dX12_makeStream_91 : decode cX12_makeStream 91 = .ok (.iconst 1, 1) := by decide +kernel
theorem dX12_makeStream_92 : decode cX12_makeStream 92 = .ok (.iadd, 1) := by decide +kernel
theorem dX12_makeStream_93 : decode cX12_makeStream 93 = .ok (.iload 6, 2) := by decide +kernel
theorem dX12_makeStream_95 : decode cX12_makeStream 95 = .ok (.ifCond .eq 7, 3) := by decide +kernel
theorem dX12_makeStream_98 : decode cX12_makeStream 98 = .ok (.iconst 1, 1) := by decide +kernel
theorem dX12_makeStream_99 : decode cX12_makeStream 99 = .ok (.goto 4, 3) := by decide +kernel
theorem dX12_makeStream_102 : decode cX12_makeStream 102 = .ok (.iconst 0, 1) := by decide +kernel
theorem dX12_makeStream_103 : decode cX12_makeStream 103 = .ok (.iastore, 1) := by decide +kernel
theorem dX12_makeStream_104 : decode cX12_makeStream 104 = .ok (.aload_n 1, 1) := by decide +kernel
theorem dX12_makeStream_105 : decode cX12_makeStream 105 = .ok (.iload_n 3, 1) := by decide +kernel
theorem dX12_makeStream_106 : decode cX12_makeStream 106 = .ok (.iconst 2, 1) := by decide +kernel
theorem dX12_makeStream_107 : decode cX12_makeStream 107 = .ok (.iadd, 1) := by decide +kernel
theorem dX12_makeStream_108 : decode cX12_makeStream 108 = .ok (.aload_n 0, 1) := by decide +kernel
theorem dX12_makeStream_109 : decode cX12_makeStream 109 = .ok (.getfield 13, 3) := by decide +kernel
theorem dX12_makeStream_112 : decode cX12_makeStream 112 = .ok (.iload 4, 2) := by decide +kernel
theorem dX12_makeStream_114 : decode cX12_makeStream 114 = .ok (.iaload, 1) := by decide +kernel
theorem dX12_makeStream_115 : decode cX12_makeStream 115 = .ok (.invokestatic 139, 3) := by decide +kernel
theorem dX12_makeStream_118 : decode cX12_makeStream 118 = .ok (.aload_n 1, 1) := by decide +kernel
theorem dX12_makeStream_119 : decode cX12_makeStream 119 = .ok (.iload_n 3, 1) := by decide +kernel
theorem dX12_makeStream_120 : decode cX12_makeStream 120 = .ok (.iconst 4, 1) := by decide +kernel
theorem dX12_makeStream_121 : decode cX12_makeStream 121 = .ok (.iadd, 1) := by decide +kernel
theorem dX12_makeStream_122 : decode cX12_makeStream 122 = .ok (.iload 5, 2) := by decide +kernel
theorem dX12_makeStream_124 : decode cX12_makeStream 124 = .ok (.invokestatic 139, 3) := by decide +kernel
theorem dX12_makeStream_127 : decode cX12_makeStream 127 = .ok (.aload_n 1, 1) := by decide +kernel
theorem dX12_makeStream_128 : decode cX12_makeStream 128 = .ok (.iload_n 3, 1) := by decide +kernel
theorem dX12_makeStream_129 : decode cX12_makeStream 129 = .ok (.bipush 6, 2) := by decide +kernel
theorem dX12_makeStream_131 : decode cX12_makeStream 131 = .ok (.iadd, 1) := by decide +kernel
theorem dX12_makeStream_132 : decode cX12_makeStream 132 = .ok (.aload_n 0, 1) := by decide +kernel
theorem dX12_makeStream_133 : decode cX12_makeStream 133 = .ok (.getfield 21, 3) := by decide +kernel
theorem dX12_makeStream_136 : decode cX12_makeStream 136 = .ok (.iload 4, 2) := by decide +kernel
theorem dX12_makeStream_138 : decode cX12_makeStream 138 = .ok (.aaload, 1) := by decide +kernel
theorem dX12_makeStream_139 : decode cX12_makeStream 139 = .ok (.iconst 0, 1) := by decide +kernel
theorem dX12_makeStream_140 : decode cX12_makeStream 140 = .ok (.aload_n 0, 1) := by decide +kernel
theorem dX12_makeStream_141 : decode cX12_makeStream 141 = .ok (.getfield 16, 3) := by decide +kernel
theorem dX12_makeStream_144 : decode cX12_makeStream 144 = .ok (.iload 4, 2) := by decide +kernel
theorem dX12_makeStream_146 : decode cX12_makeStream 146 = .ok (.iaload, 1) := by decide +kernel
theorem dX12_makeStream_147 : decode cX12_makeStream 147 = .ok (.invokestatic 122, 3) := by decide +kernel
theorem dX12_makeStream_150 : decode cX12_makeStream 150 = .ok (.invokestatic 139, 3) := by decide +kernel
theorem dX12_makeStream_153 : decode cX12_makeStream 153 = .ok (.iload 6, 2) := by decide +kernel
theorem dX12_makeStream_155 : decode cX12_makeStream 155 = .ok (.ifCond .eq 10, 3) := by decide +kernel
theorem dX12_makeStream_158 : decode cX12_makeStream 158 = .ok (.aload_n 0, 1) := by decide +kernel
theorem dX12_makeStream_159 : decode cX12_makeStream 159 = .ok (.getfield 46, 3) := by decide +kernel
theorem dX12_makeStream_162 : decode cX12_makeStream 162 = .ok (.goto 10, 3) := by decide +kernel
theorem dX12_makeStream_165 : decode cX12_makeStream 165 = .ok (.aload_n 0, 1) := by decide +kernel
theorem dX12_makeStream_166 : decode cX12_makeStream 166 = .ok (.getfield 21, 3) := by decide +kernel
theorem dX12_makeStream_169 : decode cX12_makeStream 169 = .ok (.iload 4, 2) := by decide +kernel
theorem dX12_makeStream_171 : decode cX12_makeStream 171 = .ok (.aaload, 1) := by decide +kernel
theorem dX12_makeStream_172 : decode cX12_makeStream 172 = .ok (.iconst 0, 1) := by decide +kernel
theorem dX12_makeStream_173 : decode cX12_makeStream 173 = .ok (.aload_n 1, 1) := by decide +kernel
theorem dX12_makeStream_174 : decode cX12_makeStream 174 = .ok (.iload_n 3, 1) := by decide +kernel
theorem dX12_makeStream_175 : decode cX12_makeStream 175 = .ok (.bipush 8, 2) := by decide +kernel
theorem dX12_makeStream_177 : decode cX12_makeStream 177 = .ok (.iadd, 1) := by decide +kernel
theorem dX12_makeStream_178 : decode cX12_makeStream 178 = .ok (.iload 5, 2) := by decide +kernel
theorem dX12_makeStream_180 : decode cX12_makeStream 180 = .ok (.invokestatic 98, 3) := by decide +kernel
theorem dX12_makeStream_183 : decode cX12_makeStream 183 = .ok (.iload_n 3, 1) := by decide +kernel
theorem dX12_makeStream_184 : decode cX12_makeStream 184 = .ok (.bipush 8, 2) := by decide +kernel
theorem dX12_makeStream_186 : decode cX12_makeStream 186 = .ok (.iload 5, 2) := by decide +kernel
theorem dX12_makeStream_188 : decode cX12_makeStream 188 = .ok (.iadd, 1) := by decide +kernel
theorem dX12_makeStream_189 : decode cX12_makeStream 189 = .ok (.iadd, 1) := by decide +kernel
theorem dX12_makeStream_190 : decode cX12_makeStream 190 = .ok (.istore_n 3, 1) := by decide +kernel
theorem dX12_makeStream_191 : decode cX12_makeStream 191 = .ok (.iinc 4 1, 3) := by decide +kernel
theorem dX12_makeStream_194 : decode cX12_makeStream 194 = .ok (.goto (-177), 3) := by decide +kernel
theorem dX12_makeStream_197 : decode cX12_makeStream 197 = .ok (.iload_n 3, 1) := by decide +kernel
theorem dX12_makeStream_198 : decode cX12_makeStream 198 = .ok (.istore 4, 2) := by decide +kernel
theorem dX12_makeStream_200 : decode cX12_makeStream 200 = .ok (.iconst 0, 1) := by decide +kernel
theorem dX12_makeStream_201 : decode cX12_makeStream 201 = .ok (.istore 5, 2) := by decide +kernel
theorem dX12_makeStream_203 : decode cX12_makeStream 203 = .ok (.iload 5, 2) := by decide +kernel
theorem dX12_makeStream_205 : decode cX12_makeStream 205 = .ok (.aload_n 0, 1) := by decide +kernel
theorem dX12_makeStream_206 : decode cX12_makeStream 206 = .ok (.getfield 95, 3) := by decide +kernel
theorem dX12_makeStream_209 : decode cX12_makeStream 209 = .ok (.if_icmp .ge 49, 3) := by decide +kernel
theorem dX12_makeStream_212 : decode cX12_makeStream 212 = .ok (.aload_n 1, 1) := by decide +kernel
theorem dX12_makeStream_213 : decode cX12_makeStream 213 = .ok (.iload_n 3, 1) := by decide +kernel
theorem dX12_makeStream_214 : decode cX12_makeStream 214 = .ok (.aload_n 0, 1) := by decide +kernel
theorem dX12_makeStream_215 : decode cX12_makeStream 215 = .ok (.getfield 13, 3) := by decide +kernel
theorem dX12_makeStream_218 : decode cX12_makeStream 218 = .ok (.iload 5, 2) := by decide +kernel
theorem dX12_makeStream_220 : decode cX12_makeStream 220 = .ok (.iaload, 1) := by decide +kernel
theorem dX12_makeStream_221 : decode cX12_makeStream 221 = .ok (.invokestatic 139, 3) := by decide +kernel
theorem dX12_makeStream_224 : decode cX12_makeStream 224 = .ok (.aload_n 1, 1) := by decide +kernel
theorem dX12_makeStream_225 : decode cX12_makeStream 225 = .ok (.iload_n 3, 1) := by decide +kernel
theorem dX12_makeStream_226 : decode cX12_makeStream 226 = .ok (.iconst 2, 1) := by decide +kernel
theorem dX12_makeStream_227 : decode cX12_makeStream 227 = .ok (.iadd, 1) := by decide +kernel
theorem dX12_makeStream_228 : decode cX12_makeStream 228 = .ok (.aload_n 2, 1) := by decide +kernel
theorem dX12_makeStream_229 : decode cX12_makeStream 229 = .ok (.iload 5, 2) := by decide +kernel
theorem dX12_makeStream_231 : decode cX12_makeStream 231 = .ok (.iaload, 1) := by decide +kernel
theorem dX12_makeStream_232 : decode cX12_makeStream 232 = .ok (.invokestatic 139, 3) := by decide +kernel
theorem dX12_makeStream_235 : decode cX12_makeStream 235 = .ok (.aload_n 1, 1) := by decide +kernel
theorem dX12_makeStream_236 : decode cX12_makeStream 236 = .ok (.iload_n 3, 1) := by decide +kernel
theorem dX12_makeStream_237 : decode cX12_makeStream 237 = .ok (.iconst 4, 1) := by decide +kernel
theorem dX12_makeStream_238 : decode cX12_makeStream 238 = .ok (.iadd, 1) := by decide +kernel
theorem dX12_makeStream_239 : decode cX12_makeStream 239 = .ok (.aload_n 0, 1) := by decide +kernel
theorem dX12_makeStream_240 : decode cX12_makeStream 240 = .ok (.getfield 16, 3) := by decide +kernel
theorem dX12_makeStream_243 : decode cX12_makeStream 243 = .ok (.iload 5, 2) := by decide +kernel
theorem dX12_makeStream_245 : decode cX12_makeStream 245 = .ok (.iaload, 1) := by decide +kernel
theorem dX12_makeStream_246 : decode cX12_makeStream 246 = .ok (.invokestatic 139, 3) := by decide +kernel
theorem dX12_makeStream_249 : decode cX12_makeStream 249 = .ok (.iinc 3 6, 3) := by decide +kernel
theorem dX12_makeStream_252 : decode cX12_makeStream 252 = .ok (.iinc 5 1, 3) := by decide +kernel
theorem dX12_makeStream_255 : decode cX12_makeStream 255 = .ok (.goto (-52), 3) := by decide +kernel
theorem dX12_makeStream_258 : decode cX12_makeStream 258 = .ok (.aload_n 1, 1) := by decide +kernel
theorem dX12_makeStream_259 : decode cX12_makeStream 259 = .ok (.iload_n 3, 1) := by decide +kernel
theorem dX12_makeStream_260 : decode cX12_makeStream 260 = .ok (.bipush 88, 2) := by decide +kernel
theorem dX12_makeStream_262 : decode cX12_makeStream 262 = .ok (.iastore, 1) := by decide +kernel
theorem dX12_makeStream_263 : decode cX12_makeStream 263 = .ok (.aload_n 1, 1) := by decide +kernel
theorem dX12_makeStream_264 : decode cX12_makeStream 264 = .ok (.iload_n 3, 1) := by decide +kernel
theorem dX12_makeStream_265 : decode cX12_makeStream 265 = .ok (.iconst 1, 1) := by decide +kernel
theorem dX12_makeStream_266 : decode cX12_makeStream 266 = .ok (.iadd, 1) := by decide +kernel
theorem dX12_makeStream_267 : decode cX12_makeStream 267 = .ok (.aload_n 0, 1) := by decide +kernel
theorem dX12_makeStream_268 : decode cX12_makeStream 268 = .ok (.getfield 95, 3) := by decide +kernel
theorem dX12_makeStream_271 : decode cX12_makeStream 271 = .ok (.iastore, 1) := by decide +kernel
theorem dX12_makeStream_272 : decode cX12_makeStream 272 = .ok (.aload_n 1, 1) := by decide +kernel
theorem dX12_makeStream_273 : decode cX12_makeStream 273 = .ok (.iload_n 3, 1) := by decide +kernel
theorem dX12_makeStream_274 : decode cX12_makeStream 274 = .ok (.iconst 2, 1) := by decide +kernel
theorem dX12_makeStream_275 : decode cX12_makeStream 275 = .ok (.iadd, 1) := by decide +kernel
theorem dX12_makeStream_276 : decode cX12_makeStream 276 = .ok (.iload 4, 2) := by decide +kernel
theorem dX12_makeStream_278 : decode cX12_makeStream 278 = .ok (.invokestatic 139, 3) := by decide +kernel
theorem dX12_makeStream_281 : decode cX12_makeStream 281 = .ok (.aload_n 1, 1) := by decide +kernel
theorem dX12_makeStream_282 : decode cX12_makeStream 282 = .ok (.iload_n 3, 1) := by decide +kernel
theorem dX12_makeStream_283 : decode cX12_makeStream 283 = .ok (.iconst 4, 1) := by decide +kernel
theorem dX12_makeStream_284 : decode cX12_makeStream 284 = .ok (.iadd, 1) := by decide +kernel
theorem dX12_makeStream_285 : decode cX12_makeStream 285 = .ok (.aload_n 1, 1) := by decide +kernel
theorem dX12_makeStream_286 : decode cX12_makeStream 286 = .ok (.iload 4, 2) := by decide +kernel
theorem dX12_makeStream_288 : decode cX12_makeStream 288 = .ok (.iload_n 3, 1) := by decide +kernel
theorem dX12_makeStream_289 : decode cX12_makeStream 289 = .ok (.invokestatic 122, 3) := by decide +kernel
theorem dX12_makeStream_292 : decode cX12_makeStream 292 = .ok (.invokestatic 139, 3) := by decide +kernel
theorem dX12_makeStream_295 : decode cX12_makeStream 295 = .ok (.aload_n 1, 1) := by decide +kernel
theorem dX12_makeStream_296 : decode cX12_makeStream 296 = .ok (.areturn, 1) := by decide +kernel
theorem dX12_bodySize_0 : decode cX12_bodySize 0 = .ok (.iload_n 0, 1) := by decide +kernel
theorem dX12_bodySize_1 : decode cX12_bodySize 1 = .ok (.iload_n 1, 1) := by decide +kernel
theorem dX12_bodySize_2 : decode cX12_bodySize 2 = .ok (.iadd, 1) := by decide +kernel
theorem dX12_bodySize_3 : decode cX12_bodySize 3 = .ok (.iconst 1, 1) := by decide +kernel
theorem dX12_bodySize_4 : decode cX12_bodySize 4 = .ok (.isub, 1) := by decide +kernel
theorem dX12_bodySize_5 : decode cX12_bodySize 5 = .ok (.iload_n 1, 1) := by decide +kernel
theorem dX12_bodySize_6 : decode cX12_bodySize 6 = .ok (.idiv, 1) := by decide +kernel
theorem dX12_bodySize_7 : decode cX12_bodySize 7 = .ok (.ireturn, 1) := by decide +kernel
set_option maxRecDepth 20000 in
theorem ggX12_makeVolume_X12_bodySize : GoodIn wsX12_makeVolume wsX12_bodySize := goodIn_r _ [5] (by decide +kernel) (by decide +kernel)
set_option maxRecDepth 20000 in
theorem gX12_makeVolume_X12_bodySize : GoodIn wsX12_makeVolume (va_wsS RX12 143 yX12_bodySize wsX12_bodySize) := goodIn_app (goodIn_of _ (by decide +kernel)) ggX12_makeVolume_X12_bodySize
set_option maxRecDepth 20000 in
theorem ggX12_makeVolume_X12_setWord : GoodIn wsX12_makeVolume wsX12_setWord := goodIn_r _ [8] (by decide +kernel) (by decide +kernel)
set_option maxRecDepth 20000 in
theorem gX12_makeVolume_X12_setWord : GoodIn wsX12_makeVolume (va_wsS RX12 139 yX12_setWord wsX12_setWord) := goodIn_app (goodIn_of _ (by decide +kernel)) ggX12_makeVolume_X12_setWord
set_option maxRecDepth 20000 in
theorem ggX12_makeVolume_X12_factor : GoodIn wsX12_makeVolume wsX12_factor := goodIn_r _ [11, 12, 13, 4, 14, 15, 16, 17] (by decide +kernel) (by decide +kernel)
set_option maxRecDepth 20000 in
theorem gX12_makeVolume_X12_factor : GoodIn wsX12_makeVolume (va_wsS RX12 78 yX12_factor wsX12_factor) := goodIn_app (goodIn_of _ (by decide +kernel)) ggX12_makeVolume_X12_factor
set_option maxRecDepth 20000 in
theorem ggX12_makeVolume_X12_times : GoodIn wsX12_makeVolume wsX12_times := goodIn_r _ [17] (by decide +kernel) (by decide +kernel)
set_option maxRecDepth 20000 in
theorem gX12_makeVolume_X12_times : GoodIn wsX12_makeVolume (va_wsS RX12 63 yX12_times wsX12_times) := goodIn_app (goodIn_of _ (by decide +kernel)) ggX12_makeVolume_X12_times
set_option maxRecDepth 20000 in
theorem ggX12_makeVolume_X12_volumeCheck : GoodIn wsX12_makeVolume wsX12_volumeCheck := goodIn_r _ [20, 21, 22, 4, 23, 24, 25, 26, 27, 28, 29] (by decide +kernel) (by decide +kernel)
set_option maxRecDepth 20000 in
theorem gX12_makeVolume_X12_volumeCheck : GoodIn wsX12_makeVolume (va_wsS RX12 146 yX12_volumeCheck wsX12_volumeCheck) := goodIn_app (goodIn_of _ (by decide +kernel)) ggX12_makeVolume_X12_volumeCheck
theorem dX12_makeVolume_0 : decode cX12_makeVolume 0 = .ok (.aload_n 0, 1) := by decide +kernel
theorem dX12_makeVolume_1 : decode cX12_makeVolume 1 = .ok (.arraylength, 1) := by decide +kernel
theorem dX12_makeVolume_2 : decode cX12_makeVolume 2 = .ok (.iload_n 2, 1) := by decide +kernel
theorem dX12_makeVolume_3 : decode cX12_makeVolume 3 = .ok (.invokestatic 143, 3) := by decide +kernel
theorem dX12_makeVolume_6 : decode cX12_makeVolume 6 = .ok (.istore 4, 2) := by decide +kernel
theorem dX12_makeVolume_8 : decode cX12_makeVolume 8 = .ok (.bipush 10, 2) := by decide +kernel
theorem dX12_makeVolume_10 : decode cX12_makeVolume 10 = .ok (.iload 4, 2) := by decide +kernel
theorem dX12_makeVolume_12 : decode cX12_makeVolume 12 = .ok (.iadd, 1) := by decide +kernel
theorem dX12_makeVolume_13 : decode cX12_makeVolume 13 = .ok (.newarray .int, 2) := by decide +kernel
theorem dX12_makeVolume_15 : decode cX12_makeVolume 15 = .ok (.astore 5, 2) := by decide +kernel
theorem dX12_makeVolume_17 : decode cX12_makeVolume 17 = .ok (.aload 5, 2) := by decide +kernel
theorem dX12_makeVolume_19 : decode cX12_makeVolume 19 = .ok (.iconst 0, 1) := by decide +kernel
theorem dX12_makeVolume_20 : decode cX12_makeVolume 20 = .ok (.bipush 86, 2) := by decide +kernel
theorem dX12_makeVolume_22 : decode cX12_makeVolume 22 = .ok (.iastore, 1) := by decide +kernel
theorem dX12_makeVolume_23 : decode cX12_makeVolume 23 = .ok (.aload 5, 2) := by decide +kernel
theorem dX12_makeVolume_25 : decode cX12_makeVolume 25 = .ok (.iconst 1, 1) := by decide +kernel
theorem dX12_makeVolume_26 : decode cX12_makeVolume 26 = .ok (.iload_n 1, 1) := by decide +kernel
theorem dX12_makeVolume_27 : decode cX12_makeVolume 27 = .ok (.iastore, 1) := by decide +kernel
theorem dX12_makeVolume_28 : decode cX12_makeVolume 28 = .ok (.aload 5, 2) := by decide +kernel
theorem dX12_makeVolume_30 : decode cX12_makeVolume 30 = .ok (.iconst 2, 1) := by decide +kernel
theorem dX12_makeVolume_31 : decode cX12_makeVolume 31 = .ok (.iload_n 2, 1) := by decide +kernel
theorem dX12_makeVolume_32 : decode cX12_makeVolume 32 = .ok (.iastore, 1) := by decide +kernel
theorem dX12_makeVolume_33 : decode cX12_makeVolume 33 = .ok (.aload 5, 2) := by decide +kernel
theorem dX12_makeVolume_35 : decode cX12_makeVolume 35 = .ok (.iconst 3, 1) := by decide +kernel
theorem dX12_makeVolume_36 : decode cX12_makeVolume 36 = .ok (.iload_n 3, 1) := by decide +kernel
theorem dX12_makeVolume_37 : decode cX12_makeVolume 37 = .ok (.iastore, 1) := by decide +kernel
theorem dX12_makeVolume_38 : decode cX12_makeVolume 38 = .ok (.aload 5, 2) := by decide +kernel
theorem dX12_makeVolume_40 : decode cX12_makeVolume 40 = .ok (.iconst 4, 1) := by decide +kernel
theorem dX12_makeVolume_41 : decode cX12_makeVolume 41 = .ok (.iload 4, 2) := by decide +kernel
theorem dX12_makeVolume_43 : decode cX12_makeVolume 43 = .ok (.invokestatic 139, 3) := by decide +kernel
theorem dX12_makeVolume_46 : decode cX12_makeVolume 46 = .ok (.aload 5, 2) := by decide +kernel
theorem dX12_makeVolume_48 : decode cX12_makeVolume 48 = .ok (.bipush 6, 2) := by decide +kernel
theorem dX12_makeVolume_50 : decode cX12_makeVolume 50 = .ok (.aload_n 0, 1) := by decide +kernel
theorem dX12_makeVolume_51 : decode cX12_makeVolume 51 = .ok (.arraylength, 1) := by decide +kernel
theorem dX12_makeVolume_52 : decode cX12_makeVolume 52 = .ok (.invokestatic 139, 3) := by decide +kernel
theorem dX12_makeVolume_55 : decode cX12_makeVolume 55 = .ok (.iconst 0, 1) := by decide +kernel
theorem dX12_makeVolume_56 : decode cX12_makeVolume 56 = .ok (.istore 6, 2) := by decide +kernel
theorem dX12_makeVolume_58 : decode cX12_makeVolume 58 = .ok (.iload 6, 2) := by decide +kernel
theorem dX12_makeVolume_60 : decode cX12_makeVolume 60 = .ok (.iload_n 2, 1) := by decide +kernel
theorem dX12_makeVolume_61 : decode cX12_makeVolume 61 = .ok (.if_icmp .ge 97, 3) := by decide +kernel
theorem dX12_makeVolume_64 : decode cX12_makeVolume 64 = .ok (.iload_n 1, 1) := by decide +kernel
theorem dX12_makeVolume_65 : decode cX12_makeVolume 65 = .ok (.iload_n 2, 1) := by decide +kernel
theorem dX12_makeVolume_66 : decode cX12_makeVolume 66 = .ok (.if_icmp .ge 12, 3) := by decide +kernel
theorem dX12_makeVolume_69 : decode cX12_makeVolume 69 = .ok (.iload_n 1, 1) := by decide +kernel
theorem dX12_makeVolume_70 : decode cX12_makeVolume 70 = .ok (.iload 6, 2) := by decide +kernel
theorem dX12_makeVolume_72 : decode cX12_makeVolume 72 = .ok (.if_icmp .eq 6, 3) := by decide +kernel
theorem dX12_makeVolume_75 : decode cX12_makeVolume 75 = .ok (.goto 77, 3) := by decide +kernel
theorem dX12_makeVolume_78 : decode cX12_makeVolume 78 = .ok (.iload_n 1, 1) := by decide +kernel
theorem dX12_makeVolume_79 : decode cX12_makeVolume 79 = .ok (.iload_n 2, 1) := by decide +kernel
theorem dX12_makeVolume_80 : decode cX12_makeVolume 80 = .ok (.if_icmp .ge 7, 3) := by decide +kernel
theorem dX12_makeVolume_83 : decode cX12_makeVolume 83 = .ok (.iconst 1, 1) := by decide +kernel
theorem dX12_makeVolume_84 : decode cX12_makeVolume 84 = .ok (.goto 11, 3) := by decide +kernel
theorem dX12_makeVolume_87 : decode cX12_makeVolume 87 = .ok (.iload_n 1, 1) := by decide +kernel
theorem dX12_makeVolume_88 : decode cX12_makeVolume 88 = .ok (.iload_n 2, 1) := by decide +kernel
theorem dX12_makeVolume_89 : decode cX12_makeVolume 89 = .ok (.isub, 1) := by decide +kernel
theorem dX12_makeVolume_90 : decode cX12_makeVolume 90 = .ok (.iload 6, 2) := by decide +kernel
theorem dX12_makeVolume_92 : decode cX12_makeVolume 92 = .ok (.invokestatic 78, 3) := by decide +kernel
theorem dX12_makeVolume_95 : decode cX12_makeVolume 95 = .ok (.istore 7, 2) := by decide +kernel
theorem dX12_makeVolume_97 : decode cX12_makeVolume 97 = .ok (.iconst 0, 1) := by decide +kernel
theorem dX12_makeVolume_98 : decode cX12_makeVolume 98 = .ok (.istore 8, 2) := by decide +kernel
theorem dX12_makeVolume_100 : decode cX12_makeVolume 100 = .ok (.iload 8, 2) := by decide +kernel
theorem dX12_makeVolume_102 : decode cX12_makeVolume 102 = .ok (.iload 4, 2) := by decide +kernel
theorem dX12_makeVolume_104 : decode cX12_makeVolume 104 = .ok (.if_icmp .ge 48, 3) := by decide +kernel
theorem dX12_makeVolume_107 : decode cX12_makeVolume 107 = .ok (.iload 6, 2) := by decide +kernel
theorem dX12_makeVolume_109 : decode cX12_makeVolume 109 = .ok (.iload 4, 2) := by decide +kernel
theorem dX12_makeVolume_111 : decode cX12_makeVolume 111 = .ok (.imul, 1) := by decide +kernel
theorem dX12_makeVolume_112 : decode cX12_makeVolume 112 = .ok (.iload 8, 2) := by decide +kernel
theorem dX12_makeVolume_114 : decode cX12_makeVolume 114 = .ok (.iadd, 1) := by decide +kernel
theorem dX12_makeVolume_115 : decode cX12_makeVolume 115 = .ok (.aload_n 0, 1) := by decide +kernel
theorem dX12_makeVolume_116 : decode cX12_makeVolume 116 = .ok (.arraylength, 1) := by decide +kernel
theorem dX12_makeVolume_117 : decode cX12_makeVolume 117 = .ok (.if_icmp .ge 35, 3) := by decide +kernel
theorem dX12_makeVolume_120 : decode cX12_makeVolume 120 = .ok (.aload 5, 2) := by decide +kernel
theorem dX12_makeVolume_122 : decode cX12_makeVolume 122 = .ok (.bipush 10, 2) := by decide +kernel
theorem dX12_makeVolume_124 : decode cX12_makeVolume 124 = .ok (.iload 8, 2) := by decide +kernel
theorem dX12_makeVolume_126 : decode cX12_makeVolume 126 = .ok (.iadd, 1) := by decide +kernel
theorem dX12_makeVolume_127 : decode cX12_makeVolume 127 = .ok (.dup2, 1) := by decide +kernel
theorem dX12_makeVolume_128 : decode cX12_makeVolume 128 = .ok (.iaload, 1) := by decide +kernel
theorem dX12_makeVolume_129 : decode cX12_makeVolume 129 = .ok (.iload 7, 2) := by decide +kernel
theorem dX12_makeVolume_131 : decode cX12_makeVolume 131 = .ok (.aload_n 0, 1) := by decide +kernel
theorem dX12_makeVolume_132 : decode cX12_makeVolume 132 = .ok (.iload 6, 2) := by decide +kernel
theorem dX12_makeVolume_134 : decode cX12_makeVolume 134 = .ok (.iload 4, 2) := by decide +kernel
theorem dX12_makeVolume_136 : decode cX12_makeVolume 136 = .ok (.imul, 1) := by decide +kernel
theorem dX12_makeVolume_137 : decode cX12_makeVolume 137 = .ok (.iload 8, 2) := by decide +kernel
theorem dX12_makeVolume_139 : decode cX12_makeVolume 139 = .ok (.iadd, 1) := by decide +kernel
theorem dX12_makeVolume_140 : decode cX12_makeVolume 140 = .ok (.iaload, 1) := by decide +kernel
theorem dX12_makeVolume_141 : decode cX12_makeVolume 141 = .ok (.invokestatic 63, 3) := by decide +kernel
theorem dX12_makeVolume_144 : decode cX12_makeVolume 144 = .ok (.ixor, 1) := by decide +kernel
theorem dX12_makeVolume_145 : decode cX12_makeVolume 145 = .ok (.iastore, 1) := by decide +kernel
theorem dX12_makeVolume_146 : decode cX12_makeVolume 146 = .ok (.iinc 8 1, 3) := by decide +kernel
theorem dX12_makeVolume_149 : decode cX12_makeVolume 149 = .ok (.goto (-49), 3) := by decide +kernel
theorem dX12_makeVolume_152 : decode cX12_makeVolume 152 = .ok (.iinc 6 1, 3) := by decide +kernel
theorem dX12_makeVolume_155 : decode cX12_makeVolume 155 = .ok (.goto (-97), 3) := by decide +kernel
theorem dX12_makeVolume_158 : decode cX12_makeVolume 158 = .ok (.aload 5, 2) := by decide +kernel
theorem dX12_makeVolume_160 : decode cX12_makeVolume 160 = .ok (.bipush 8, 2) := by decide +kernel
theorem dX12_makeVolume_162 : decode cX12_makeVolume 162 = .ok (.aload 5, 2) := by decide +kernel
theorem dX12_makeVolume_164 : decode cX12_makeVolume 164 = .ok (.aload 5, 2) := by decide +kernel
theorem dX12_makeVolume_166 : decode cX12_makeVolume 166 = .ok (.arraylength, 1) := by decide +kernel
theorem dX12_makeVolume_167 : decode cX12_makeVolume 167 = .ok (.invokestatic 146, 3) := by decide +kernel
theorem dX12_makeVolume_170 : decode cX12_makeVolume 170 = .ok (.invokestatic 139, 3) := by decide +kernel
theorem dX12_makeVolume_173 : decode cX12_makeVolume 173 = .ok (.aload 5, 2) := by decide +kernel
theorem dX12_makeVolume_175 : decode cX12_makeVolume 175 = .ok (.areturn, 1) := by decide +kernel
set_option maxRecDepth 20000 in
theorem ggX12_volumeCheck_X12_check : GoodIn wsX12_volumeCheck wsX12_check := goodIn_r _ [4, 5, 6, 7, 3, 8, 9, 10] (by decide +kernel) (by decide +kernel)
set_option maxRecDepth 20000 in
theorem gX12_volumeCheck_X12_check : GoodIn wsX12_volumeCheck (va_wsS RX12 122 yX12_check wsX12_check) := goodIn_app (goodIn_of _ (by decide +kernel)) ggX12_volumeCheck_X12_check
set_option maxRecDepth 20000 in
theorem ggX12_volumeCheck_X12_checked : GoodIn wsX12_volumeCheck wsX12_checked := goodIn_r _ [8, 9, 10] (by decide +kernel) (by decide +kernel)
set_option maxRecDepth 20000 in
theorem gX12_volumeCheck_X12_checked : GoodIn wsX12_volumeCheck (va_wsS RX12 84 yX12_checked wsX12_checked) := goodIn_app (goodIn_of _ (by decide +kernel)) ggX12_volumeCheck_X12_checked
theorem dX12_volumeCheck_0 : decode cX12_volumeCheck 0 = .ok (.aload_n 0, 1) := by decide +kernel
theorem dX12_volumeCheck_1 : decode cX12_volumeCheck 1 = .ok (.iconst 0, 1) := by decide +kernel
theorem dX12_volumeCheck_2 : decode cX12_volumeCheck 2 = .ok (.bipush 8, 2) := by decide +kernel
theorem dX12_volumeCheck_4 : decode cX12_volumeCheck 4 = .ok (.invokestatic 122, 3) := by decide +kernel
theorem dX12_volumeCheck_7 : decode cX12_volumeCheck 7 = .ok (.istore_n 2, 1) := by decide +kernel
theorem dX12_volumeCheck_8 : decode cX12_volumeCheck 8 = .ok (.bipush 10, 2) := by decide +kernel
theorem dX12_volumeCheck_10 : decode cX12_volumeCheck 10 = .ok (.istore_n 3, 1) := by decide +kernel
theorem dX12_volumeCheck_11 : decode cX12_volumeCheck 11 = .ok (.iload_n 3, 1) := by decide +kernel
theorem dX12_volumeCheck_12 : decode cX12_volumeCheck 12 = .ok (.iload_n 1, 1) := by decide +kernel
theorem dX12_volumeCheck_13 : decode cX12_volumeCheck 13 = .ok (.if_icmp .ge 17, 3) := by decide +kernel
theorem dX12_volumeCheck_16 : decode cX12_volumeCheck 16 = .ok (.iload_n 2, 1) := by decide +kernel
theorem dX12_volumeCheck_17 : decode cX12_volumeCheck 17 = .ok (.aload_n 0, 1) := by decide +kernel
theorem dX12_volumeCheck_18 : decode cX12_volumeCheck 18 = .ok (.iload_n 3, 1) := by decide +kernel
theorem dX12_volumeCheck_19 : decode cX12_volumeCheck 19 = .ok (.iaload, 1) := by decide +kernel
theorem dX12_volumeCheck_20 : decode cX12_volumeCheck 20 = .ok (.invokestatic 84, 3) := by decide +kernel
theorem dX12_volumeCheck_23 : decode cX12_volumeCheck 23 = .ok (.istore_n 2, 1) := by decide +kernel
theorem dX12_volumeCheck_24 : decode cX12_volumeCheck 24 = .ok (.iinc 3 1, 3) := by decide +kernel
theorem dX12_volumeCheck_27 : decode cX12_volumeCheck 27 = .ok (.goto (-16), 3) := by decide +kernel
theorem dX12_volumeCheck_30 : decode cX12_volumeCheck 30 = .ok (.iload_n 2, 1) := by decide +kernel
theorem dX12_volumeCheck_31 : decode cX12_volumeCheck 31 = .ok (.ireturn, 1) := by decide +kernel
theorem dX12_isAs_0 : decode cX12_isAs 0 = .ok (.aload_n 0, 1) := by decide +kernel
theorem dX12_isAs_1 : decode cX12_isAs 1 = .ok (.getfield 28, 3) := by decide +kernel
theorem dX12_isAs_4 : decode cX12_isAs 4 = .ok (.iload_n 1, 1) := by decide +kernel
theorem dX12_isAs_5 : decode cX12_isAs 5 = .ok (.iaload, 1) := by decide +kernel
theorem dX12_isAs_6 : decode cX12_isAs 6 = .ok (.aload_n 2, 1) := by decide +kernel
theorem dX12_isAs_7 : decode cX12_isAs 7 = .ok (.arraylength, 1) := by decide +kernel
theorem dX12_isAs_8 : decode cX12_isAs 8 = .ok (.if_icmp .eq 5, 3) := by decide +kernel
theorem dX12_isAs_11 : decode cX12_isAs 11 = .ok (.iconst 0, 1) := by decide +kernel
theorem dX12_isAs_12 : decode cX12_isAs 12 = .ok (.ireturn, 1) := by decide +kernel
theorem dX12_isAs_13 : decode cX12_isAs 13 = .ok (.iconst 0, 1) := by decide +kernel
theorem dX12_isAs_14 : decode cX12_isAs 14 = .ok (.istore_n 3, 1) := by decide +kernel
theorem dX12_isAs_15 : decode cX12_isAs 15 = .ok (.iload_n 3, 1) := by decide +kernel
theorem dX12_isAs_16 : decode cX12_isAs 16 = .ok (.aload_n 2, 1) := by decide +kernel
theorem dX12_isAs_17 : decode cX12_isAs 17 = .ok (.arraylength, 1) := by decide +kernel
theorem dX12_isAs_18 : decode cX12_isAs 18 = .ok (.if_icmp .ge 25, 3) := by decide +kernel
theorem dX12_isAs_21 : decode cX12_isAs 21 = .ok (.aload_n 0, 1) := by decide +kernel
theorem dX12_isAs_22 : decode cX12_isAs 22 = .ok (.getfield 25, 3) := by decide +kernel
theorem dX12_isAs_25 : decode cX12_isAs 25 = .ok (.iload_n 1, 1) := by decide +kernel
theorem dX12_isAs_26 : decode cX12_isAs 26 = .ok (.aaload, 1) := by decide +kernel
theorem dX12_isAs_27 : decode cX12_isAs 27 = .ok (.iload_n 3, 1) := by decide +kernel
theorem dX12_isAs_28 : decode cX12_isAs 28 = .ok (.iaload, 1) := by decide +kernel
theorem dX12_isAs_29 : decode cX12_isAs 29 = .ok (.aload_n 2, 1) := by decide +kernel
theorem dX12_isAs_30 : decode cX12_isAs 30 = .ok (.iload_n 3, 1) := by decide +kernel
theorem dX12_isAs_31 : decode cX12_isAs 31 = .ok (.iaload, 1) := by decide +kernel
theorem dX12_isAs_32 : decode cX12_isAs 32 = .ok (.if_icmp .eq 5, 3) := by decide +kernel
theorem dX12_isAs_35 : decode cX12_isAs 35 = .ok (.iconst 0, 1) := by decide +kernel
theorem dX12_isAs_36 : decode cX12_isAs 36 = .ok (.ireturn, 1) := by decide +kernel
theorem dX12_isAs_37 : decode cX12_isAs 37 = .ok (.iinc 3 1, 3) := by decide +kernel
theorem dX12_isAs_40 : decode cX12_isAs 40 = .ok (.goto (-25), 3) := by decide +kernel
theorem dX12_isAs_43 : decode cX12_isAs 43 = .ok (.iconst 1, 1) := by decide +kernel
theorem dX12_isAs_44 : decode cX12_isAs 44 = .ok (.ireturn, 1) := by decide +kernel
set_option maxRecDepth 20000 in
theorem ggX12_putVolumes_X12_makeVolume : GoodIn wsX12_putVolumes wsX12_makeVolume := goodIn_r _ [6, 7, 8, 9, 5, 10, 11, 12, 13, 14, 15, 16, 17, 18, 19, 20, 21, 22, 23, 24, 25, 26, 27, 28, 29, 30, 31, 32, 33, 34] (by decide +kernel) (by decide +kernel)
set_option maxRecDepth 20000 in
theorem gX12_putVolumes_X12_makeVolume : GoodIn wsX12_putVolumes (va_wsS RX12 149 yX12_makeVolume wsX12_makeVolume) := goodIn_app (goodIn_of _ (by decide +kernel)) ggX12_putVolumes_X12_makeVolume
set_option maxRecDepth 20000 in
theorem ggX12_putVolumes_X12_isAs : GoodIn wsX12_putVolumes wsX12_isAs := goodIn_r _ [38, 1, 2, 39, 40, 41, 42, 43, 44, 45, 46, 47, 48, 49, 50, 51, 52, 53, 54, 55, 56, 57, 58, 59, 60, 61, 62, 63] (by decide +kernel) (by decide +kernel)
set_option maxRecDepth 20000 in
theorem gX12_putVolumes_X12_isAs : GoodIn wsX12_putVolumes (wsV RX12 153 RX12 yX12_isAs wsX12_isAs) := goodIn_app (goodIn_of _ (by decide +kernel)) ggX12_putVolumes_X12_isAs
theorem dX12_putVolumes_0 : decode cX12_putVolumes 0 = .ok (.iconst 0, 1) := by decide +kernel
theorem dX12_putVolumes_1 : decode cX12_putVolumes 1 = .ok (.istore 4, 2) := by decide +kernel
theorem dX12_putVolumes_3 : decode cX12_putVolumes 3 = .ok (.iconst 0, 1) := by decide +kernel
theorem dX12_putVolumes_4 : decode cX12_putVolumes 4 = .ok (.istore 5, 2) := by decide +kernel
theorem dX12_putVolumes_6 : decode cX12_putVolumes 6 = .ok (.iload 5, 2) := by decide +kernel
theorem dX12_putVolumes_8 : decode cX12_putVolumes 8 = .ok (.bipush 16, 2) := by decide +kernel
theorem dX12_putVolumes_10 : decode cX12_putVolumes 10 = .ok (.if_icmp .ge 99, 3) := by decide +kernel
theorem dX12_putVolumes_13 : decode cX12_putVolumes 13 = .ok (.iload 5, 2) := by decide +kernel
theorem dX12_putVolumes_15 : decode cX12_putVolumes 15 = .ok (.iload_n 2, 1) := by decide +kernel
theorem dX12_putVolumes_16 : decode cX12_putVolumes 16 = .ok (.iload_n 3, 1) := by decide +kernel
theorem dX12_putVolumes_17 : decode cX12_putVolumes 17 = .ok (.iadd, 1) := by decide +kernel
theorem dX12_putVolumes_18 : decode cX12_putVolumes 18 = .ok (.if_icmp .lt 35, 3) := by decide +kernel
theorem dX12_putVolumes_21 : decode cX12_putVolumes 21 = .ok (.iload 4, 2) := by decide +kernel
theorem dX12_putVolumes_23 : decode cX12_putVolumes 23 = .ok (.aload_n 0, 1) := by decide +kernel
theorem dX12_putVolumes_24 : decode cX12_putVolumes 24 = .ok (.getfield 28, 3) := by decide +kernel
theorem dX12_putVolumes_27 : decode cX12_putVolumes 27 = .ok (.iload 5, 2) := by decide +kernel
theorem dX12_putVolumes_29 : decode cX12_putVolumes 29 = .ok (.iaload, 1) := by decide +kernel
theorem dX12_putVolumes_30 : decode cX12_putVolumes 30 = .ok (.iconst (-1), 1) := by decide +kernel
theorem dX12_putVolumes_31 : decode cX12_putVolumes 31 = .ok (.if_icmp .ne 7, 3) := by decide +kernel
theorem dX12_putVolumes_34 : decode cX12_putVolumes 34 = .ok (.iconst 0, 1) := by decide +kernel
theorem dX12_putVolumes_35 : decode cX12_putVolumes 35 = .ok (.goto 4, 3) := by decide +kernel
theorem dX12_putVolumes_38 : decode cX12_putVolumes 38 = .ok (.iconst 1, 1) := by decide +kernel
theorem dX12_putVolumes_39 : decode cX12_putVolumes 39 = .ok (.iadd, 1) := by decide +kernel
theorem dX12_putVolumes_40 : decode cX12_putVolumes 40 = .ok (.istore 4, 2) := by decide +kernel
theorem dX12_putVolumes_42 : decode cX12_putVolumes 42 = .ok (.aload_n 0, 1) := by decide +kernel
theorem dX12_putVolumes_43 : decode cX12_putVolumes 43 = .ok (.getfield 28, 3) := by decide +kernel
theorem dX12_putVolumes_46 : decode cX12_putVolumes 46 = .ok (.iload 5, 2) := by decide +kernel
theorem dX12_putVolumes_48 : decode cX12_putVolumes 48 = .ok (.iconst (-1), 1) := by decide +kernel
theorem dX12_putVolumes_49 : decode cX12_putVolumes 49 = .ok (.iastore, 1) := by decide +kernel
theorem dX12_putVolumes_50 : decode cX12_putVolumes 50 = .ok (.goto 53, 3) := by decide +kernel
theorem dX12_putVolumes_53 : decode cX12_putVolumes 53 = .ok (.aload_n 1, 1) := by decide +kernel
theorem dX12_putVolumes_54 : decode cX12_putVolumes 54 = .ok (.iload 5, 2) := by decide +kernel
theorem dX12_putVolumes_56 : decode cX12_putVolumes 56 = .ok (.iload_n 2, 1) := by decide +kernel
theorem dX12_putVolumes_57 : decode cX12_putVolumes 57 = .ok (.iload_n 3, 1) := by decide +kernel
theorem dX12_putVolumes_58 : decode cX12_putVolumes 58 = .ok (.invokestatic 149, 3) := by decide +kernel
theorem dX12_putVolumes_61 : decode cX12_putVolumes 61 = .ok (.astore 6, 2) := by decide +kernel
theorem dX12_putVolumes_63 : decode cX12_putVolumes 63 = .ok (.iload 4, 2) := by decide +kernel
theorem dX12_putVolumes_65 : decode cX12_putVolumes 65 = .ok (.aload_n 0, 1) := by decide +kernel
theorem dX12_putVolumes_66 : decode cX12_putVolumes 66 = .ok (.iload 5, 2) := by decide +kernel
theorem dX12_putVolumes_68 : decode cX12_putVolumes 68 = .ok (.aload 6, 2) := by decide +kernel
theorem dX12_putVolumes_70 : decode cX12_putVolumes 70 = .ok (.invokevirtual 153, 3) := by decide +kernel
theorem dX12_putVolumes_73 : decode cX12_putVolumes 73 = .ok (.ifCond .eq 7, 3) := by decide +kernel
theorem dX12_putVolumes_76 : decode cX12_putVolumes 76 = .ok (.iconst 0, 1) := by decide +kernel
theorem dX12_putVolumes_77 : decode cX12_putVolumes 77 = .ok (.goto 4, 3) := by decide +kernel
theorem dX12_putVolumes_80 : decode cX12_putVolumes 80 = .ok (.iconst 1, 1) := by decide +kernel
theorem dX12_putVolumes_81 : decode cX12_putVolumes 81 = .ok (.iadd, 1) := by decide +kernel
theorem dX12_putVolumes_82 : decode cX12_putVolumes 82 = .ok (.istore 4, 2) := by decide +kernel
theorem dX12_putVolumes_84 : decode cX12_putVolumes 84 = .ok (.aload_n 0, 1) := by decide +kernel
theorem dX12_putVolumes_85 : decode cX12_putVolumes 85 = .ok (.getfield 25, 3) := by decide +kernel
theorem dX12_putVolumes_88 : decode cX12_putVolumes 88 = .ok (.iload 5, 2) := by decide +kernel
theorem dX12_putVolumes_90 : decode cX12_putVolumes 90 = .ok (.aload 6, 2) := by decide +kernel
theorem dX12_putVolumes_92 : decode cX12_putVolumes 92 = .ok (.aastore, 1) := by decide +kernel
theorem dX12_putVolumes_93 : decode cX12_putVolumes 93 = .ok (.aload_n 0, 1) := by decide +kernel
theorem dX12_putVolumes_94 : decode cX12_putVolumes 94 = .ok (.getfield 28, 3) := by decide +kernel
theorem dX12_putVolumes_97 : decode cX12_putVolumes 97 = .ok (.iload 5, 2) := by decide +kernel
theorem dX12_putVolumes_99 : decode cX12_putVolumes 99 = .ok (.aload 6, 2) := by decide +kernel
theorem dX12_putVolumes_101 : decode cX12_putVolumes 101 = .ok (.arraylength, 1) := by decide +kernel
theorem dX12_putVolumes_102 : decode cX12_putVolumes 102 = .ok (.iastore, 1) := by decide +kernel
theorem dX12_putVolumes_103 : decode cX12_putVolumes 103 = .ok (.iinc 5 1, 3) := by decide +kernel
theorem dX12_putVolumes_106 : decode cX12_putVolumes 106 = .ok (.goto (-100), 3) := by decide +kernel
theorem dX12_putVolumes_109 : decode cX12_putVolumes 109 = .ok (.iload 4, 2) := by decide +kernel
theorem dX12_putVolumes_111 : decode cX12_putVolumes 111 = .ok (.ireturn, 1) := by decide +kernel
set_option maxRecDepth 20000 in
theorem ggX12_build_X12_isIn : GoodIn wsX12_build wsX12_isIn := goodIn_r _ [6] (by decide +kernel) (by decide +kernel)
set_option maxRecDepth 20000 in
theorem gX12_build_X12_isIn : GoodIn wsX12_build (va_wsS RX12 71 yX12_isIn wsX12_isIn) := goodIn_app (goodIn_of _ (by decide +kernel)) ggX12_build_X12_isIn
set_option maxRecDepth 20000 in
theorem ggX12_build_X12_no : GoodIn wsX12_build wsX12_no := goodIn_r _ [10, 1, 80, 81, 82, 83, 84, 85, 86, 87, 88, 89, 90, 91, 92, 93, 94, 95, 96, 97, 98, 99, 100, 101, 102, 103, 104] (by decide +kernel) (by decide +kernel)
set_option maxRecDepth 20000 in
theorem gX12_build_X12_no : GoodIn wsX12_build (wsV RX12 75 RX12 yX12_no wsX12_no) := goodIn_app (goodIn_of _ (by decide +kernel)) ggX12_build_X12_no
set_option maxRecDepth 20000 in
theorem ggX12_build_X12_makeStream : GoodIn wsX12_build wsX12_makeStream := goodIn_r _ [14, 15, 16, 17, 18, 19, 20, 21, 22, 23, 24, 25, 26, 27, 5, 28, 29, 30, 31, 32, 33, 34, 35, 36, 37, 38, 39, 40, 41, 42, 43, 44, 45, 46, 47, 48, 49, 50, 51, 80, 81, 82, 83, 84, 85, 86, 87, 88, 89, 90, 91, 92, 93, 94, 95, 96, 97, 98, 99, 100, 101, 102, 103, 104] (by decide +kernel) (by decide +kernel)
set_option maxRecDepth 20000 in
theorem gX12_build_X12_makeStream : GoodIn wsX12_build (wsV RX12 157 RX12 yX12_makeStream wsX12_makeStream) := goodIn_app (goodIn_of _ (by decide +kernel)) ggX12_build_X12_makeStream
set_option maxRecDepth 20000 in
theorem ggX12_build_X12_putVolumes : GoodIn wsX12_build wsX12_putVolumes := goodIn_r _ [55, 56, 57, 58, 59, 5, 60, 15, 61, 62, 63, 40, 41, 42, 64, 65, 66, 67, 68, 69, 70, 71, 72, 73, 74, 75, 43, 44, 45, 46, 47, 48, 49, 50, 51, 76, 77, 78, 79, 80, 81, 82, 83, 84, 85, 86, 87, 88, 89, 90, 91, 92, 93, 94, 95, 96, 97, 98, 99, 100, 101, 102, 103, 104] (by decide +kernel) (by decide +kernel)
set_option maxRecDepth 20000 in
theorem gX12_build_X12_putVolumes : GoodIn wsX12_build (wsV RX12 161 RX12 yX12_putVolumes wsX12_putVolumes) := goodIn_app (goodIn_of _ (by decide +kernel)) ggX12_build_X12_putVolumes
set_option maxRecDepth 20000 in
theorem ggX12_build_X12_bodySize : GoodIn wsX12_build wsX12_bodySize := goodIn_r _ [63] (by decide +kernel) (by decide +kernel)
set_option maxRecDepth 20000 in
theorem gX12_build_X12_bodySize : GoodIn wsX12_build (va_wsS RX12 143 yX12_bodySize wsX12_bodySize) := goodIn_app (goodIn_of _ (by decide +kernel)) ggX12_build_X12_bodySize
theorem dX12_build_0 : decode cX12_build 0 = .ok (.aload_n 0, 1) := by decide +kernel
theorem dX12_build_1 : decode cX12_build 1 = .ok (.iconst 0, 1) := by decide +kernel
theorem dX12_build_2 : decode cX12_build 2 = .ok (.putfield 59, 3) := by decide +kernel
theorem dX12_build_5 : decode cX12_build 5 = .ok (.iload_n 1, 1) := by decide +kernel
theorem dX12_build_6 : decode cX12_build 6 = .ok (.iconst 1, 1) := by decide +kernel
theorem dX12_build_7 : decode cX12_build 7 = .ok (.bipush 10, 2) := by decide +kernel
theorem dX12_build_9 : decode cX12_build 9 = .ok (.invokestatic 71, 3) := by decide +kernel
theorem dX12_build_12 : decode cX12_build 12 = .ok (.ifCond .eq 13, 3) := by decide +kernel
theorem dX12_build_15 : decode cX12_build 15 = .ok (.iload_n 2, 1) := by decide +kernel
theorem dX12_build_16 : decode cX12_build 16 = .ok (.iconst 0, 1) := by decide +kernel
theorem dX12_build_17 : decode cX12_build 17 = .ok (.bipush 6, 2) := by decide +kernel
theorem dX12_build_19 : decode cX12_build 19 = .ok (.invokestatic 71, 3) := by decide +kernel
theorem dX12_build_22 : decode cX12_build 22 = .ok (.ifCond .ne 9, 3) := by decide +kernel
theorem dX12_build_25 : decode cX12_build 25 = .ok (.aload_n 0, 1) := by decide +kernel
theorem dX12_build_26 : decode cX12_build 26 = .ok (.iconst 1, 1) := by decide +kernel
theorem dX12_build_27 : decode cX12_build 27 = .ok (.invokevirtual 75, 3) := by decide +kernel
theorem dX12_build_30 : decode cX12_build 30 = .ok (.ireturn, 1) := by decide +kernel
theorem dX12_build_31 : decode cX12_build 31 = .ok (.aload_n 0, 1) := by decide +kernel
theorem dX12_build_32 : decode cX12_build 32 = .ok (.invokevirtual 157, 3) := by decide +kernel
theorem dX12_build_35 : decode cX12_build 35 = .ok (.astore_n 3, 1) := by decide +kernel
theorem dX12_build_36 : decode cX12_build 36 = .ok (.aload_n 0, 1) := by decide +kernel
theorem dX12_build_37 : decode cX12_build 37 = .ok (.aload_n 3, 1) := by decide +kernel
theorem dX12_build_38 : decode cX12_build 38 = .ok (.iload_n 1, 1) := by decide +kernel
theorem dX12_build_39 : decode cX12_build 39 = .ok (.iload_n 2, 1) := by decide +kernel
theorem dX12_build_40 : decode cX12_build 40 = .ok (.invokevirtual 161, 3) := by decide +kernel
theorem dX12_build_43 : decode cX12_build 43 = .ok (.pop, 1) := by decide +kernel
theorem dX12_build_44 : decode cX12_build 44 = .ok (.aload_n 0, 1) := by decide +kernel
theorem dX12_build_45 : decode cX12_build 45 = .ok (.iconst 0, 1) := by decide +kernel
theorem dX12_build_46 : decode cX12_build 46 = .ok (.putfield 164, 3) := by decide +kernel
theorem dX12_build_49 : decode cX12_build 49 = .ok (.aload_n 3, 1) := by decide +kernel
theorem dX12_build_50 : decode cX12_build 50 = .ok (.arraylength, 1) := by decide +kernel
theorem dX12_build_51 : decode cX12_build 51 = .ok (.iload_n 1, 1) := by decide +kernel
theorem dX12_build_52 : decode cX12_build 52 = .ok (.invokestatic 143, 3) := by decide +kernel
theorem dX12_build_55 : decode cX12_build 55 = .ok (.ireturn, 1) := by decide +kernel
set_option maxRecDepth 20000 in
theorem ggX12_isPlace_X12_isIn : GoodIn wsX12_isPlace wsX12_isIn := goodIn_r _ [4] (by decide +kernel) (by decide +kernel)
set_option maxRecDepth 20000 in
theorem gX12_isPlace_X12_isIn : GoodIn wsX12_isPlace (va_wsS RX12 71 yX12_isIn wsX12_isIn) := goodIn_app (goodIn_of _ (by decide +kernel)) ggX12_isPlace_X12_isIn
theorem dX12_isPlace_0 : decode cX12_isPlace 0 = .ok (.iload_n 0, 1) := by decide +kernel
theorem dX12_isPlace_1 : decode cX12_isPlace 1 = .ok (.iconst 0, 1) := by decide +kernel
theorem dX12_isPlace_2 : decode cX12_isPlace 2 = .ok (.bipush 15, 2) := by decide +kernel
theorem dX12_isPlace_4 : decode cX12_isPlace 4 = .ok (.invokestatic 71, 3) := by decide +kernel
theorem dX12_isPlace_7 : decode cX12_isPlace 7 = .ok (.ireturn, 1) := by decide +kernel
set_option maxRecDepth 20000 in
theorem ggX12_isVolume_X12_isPlace : GoodIn wsX12_isVolume wsX12_isPlace := goodIn_r _ [5, 6, 7, 4, 8] (by decide +kernel) (by decide +kernel)
set_option maxRecDepth 20000 in
theorem gX12_isVolume_X12_isPlace : GoodIn wsX12_isVolume (va_wsS RX12 168 yX12_isPlace wsX12_isPlace) := goodIn_app (goodIn_of _ (by decide +kernel)) ggX12_isVolume_X12_isPlace
theorem dX12_isVolume_0 : decode cX12_isVolume 0 = .ok (.iload_n 1, 1) := by decide +kernel
theorem dX12_isVolume_1 : decode cX12_isVolume 1 = .ok (.invokestatic 168, 3) := by decide +kernel
theorem dX12_isVolume_4 : decode cX12_isVolume 4 = .ok (.ifCond .eq 17, 3) := by decide +kernel
theorem dX12_isVolume_7 : decode cX12_isVolume 7 = .ok (.aload_n 0, 1) := by decide +kernel
theorem dX12_isVolume_8 : decode cX12_isVolume 8 = .ok (.getfield 28, 3) := by decide +kernel
theorem dX12_isVolume_11 : decode cX12_isVolume 11 = .ok (.iload_n 1, 1) := by decide +kernel
theorem dX12_isVolume_12 : decode cX12_isVolume 12 = .ok (.iaload, 1) := by decide +kernel
theorem dX12_isVolume_13 : decode cX12_isVolume 13 = .ok (.iconst (-1), 1) := by decide +kernel
theorem dX12_isVolume_14 : decode cX12_isVolume 14 = .ok (.if_icmp .eq 7, 3) := by decide +kernel
theorem dX12_isVolume_17 : decode cX12_isVolume 17 = .ok (.iconst 1, 1) := by decide +kernel
theorem dX12_isVolume_18 : decode cX12_isVolume 18 = .ok (.goto 4, 3) := by decide +kernel
theorem dX12_isVolume_21 : decode cX12_isVolume 21 = .ok (.iconst 0, 1) := by decide +kernel
theorem dX12_isVolume_22 : decode cX12_isVolume 22 = .ok (.ireturn, 1) := by decide +kernel
set_option maxRecDepth 20000 in
theorem ggX12_isByte_X12_isVolume : GoodIn wsX12_isByte wsX12_isVolume := goodIn_r _ [6, 1, 7, 8, 5, 9, 10, 11, 12, 13, 14, 15, 16, 17, 18, 19, 20, 21, 22, 23, 24, 25, 26, 27, 28, 29, 30, 31, 32, 33, 34, 35, 36, 37] (by decide +kernel) (by decide +kernel)
set_option maxRecDepth 20000 in
theorem gX12_isByte_X12_isVolume : GoodIn wsX12_isByte (wsV RX12 171 RX12 yX12_isVolume wsX12_isVolume) := goodIn_app (goodIn_of _ (by decide +kernel)) ggX12_isByte_X12_isVolume
set_option maxRecDepth 20000 in
theorem ggX12_isByte_X12_isIn : GoodIn wsX12_isByte wsX12_isIn := goodIn_r _ [12] (by decide +kernel) (by decide +kernel)
set_option maxRecDepth 20000 in
theorem gX12_isByte_X12_isIn : GoodIn wsX12_isByte (va_wsS RX12 71 yX12_isIn wsX12_isIn) := goodIn_app (goodIn_of _ (by decide +kernel)) ggX12_isByte_X12_isIn
theorem dX12_isByte_0 : decode cX12_isByte 0 = .ok (.aload_n 0, 1) := by decide +kernel
theorem dX12_isByte_1 : decode cX12_isByte 1 = .ok (.iload_n 1, 1) := by decide +kernel
theorem dX12_isByte_2 : decode cX12_isByte 2 = .ok (.invokevirtual 171, 3) := by decide +kernel
theorem dX12_isByte_5 : decode cX12_isByte 5 = .ok (.ifCond .eq 23, 3) := by decide +kernel
theorem dX12_isByte_8 : decode cX12_isByte 8 = .ok (.iload_n 2, 1) := by decide +kernel
theorem dX12_isByte_9 : decode cX12_isByte 9 = .ok (.iconst 0, 1) := by decide +kernel
theorem dX12_isByte_10 : decode cX12_isByte 10 = .ok (.aload_n 0, 1) := by decide +kernel
theorem dX12_isByte_11 : decode cX12_isByte 11 = .ok (.getfield 28, 3) := by decide +kernel
theorem dX12_isByte_14 : decode cX12_isByte 14 = .ok (.iload_n 1, 1) := by decide +kernel
theorem dX12_isByte_15 : decode cX12_isByte 15 = .ok (.iaload, 1) := by decide +kernel
theorem dX12_isByte_16 : decode cX12_isByte 16 = .ok (.iconst 1, 1) := by decide +kernel
theorem dX12_isByte_17 : decode cX12_isByte 17 = .ok (.isub, 1) := by decide +kernel
theorem dX12_isByte_18 : decode cX12_isByte 18 = .ok (.invokestatic 71, 3) := by decide +kernel
theorem dX12_isByte_21 : decode cX12_isByte 21 = .ok (.ifCond .eq 7, 3) := by decide +kernel
theorem dX12_isByte_24 : decode cX12_isByte 24 = .ok (.iconst 1, 1) := by decide +kernel
theorem dX12_isByte_25 : decode cX12_isByte 25 = .ok (.goto 4, 3) := by decide +kernel
theorem dX12_isByte_28 : decode cX12_isByte 28 = .ok (.iconst 0, 1) := by decide +kernel
theorem dX12_isByte_29 : decode cX12_isByte 29 = .ok (.ireturn, 1) := by decide +kernel
set_option maxRecDepth 20000 in
theorem ggX12_sizeOf_X12_isPlace : GoodIn wsX12_sizeOf wsX12_isPlace := goodIn_r _ [6, 7, 8, 5, 9] (by decide +kernel) (by decide +kernel)
set_option maxRecDepth 20000 in
theorem gX12_sizeOf_X12_isPlace : GoodIn wsX12_sizeOf (va_wsS RX12 168 yX12_isPlace wsX12_isPlace) := goodIn_app (goodIn_of _ (by decide +kernel)) ggX12_sizeOf_X12_isPlace
set_option maxRecDepth 20000 in
theorem ggX12_sizeOf_X12_no : GoodIn wsX12_sizeOf wsX12_no := goodIn_r _ [13, 1, 14, 15, 16, 17, 18, 19, 20, 21, 22, 23, 24, 25, 26, 27, 28, 29, 30, 31, 32, 33, 34, 35, 36, 37, 38] (by decide +kernel) (by decide +kernel)
set_option maxRecDepth 20000 in
theorem gX12_sizeOf_X12_no : GoodIn wsX12_sizeOf (wsV RX12 75 RX12 yX12_no wsX12_no) := goodIn_app (goodIn_of _ (by decide +kernel)) ggX12_sizeOf_X12_no
theorem dX12_sizeOf_0 : decode cX12_sizeOf 0 = .ok (.aload_n 0, 1) := by decide +kernel
theorem dX12_sizeOf_1 : decode cX12_sizeOf 1 = .ok (.iconst 0, 1) := by decide +kernel
theorem dX12_sizeOf_2 : decode cX12_sizeOf 2 = .ok (.putfield 59, 3) := by decide +kernel
theorem dX12_sizeOf_5 : decode cX12_sizeOf 5 = .ok (.iload_n 1, 1) := by decide +kernel
theorem dX12_sizeOf_6 : decode cX12_sizeOf 6 = .ok (.invokestatic 168, 3) := by decide +kernel
theorem dX12_sizeOf_9 : decode cX12_sizeOf 9 = .ok (.ifCond .eq 12, 3) := by decide +kernel
theorem dX12_sizeOf_12 : decode cX12_sizeOf 12 = .ok (.aload_n 0, 1) := by decide +kernel
theorem dX12_sizeOf_13 : decode cX12_sizeOf 13 = .ok (.getfield 28, 3) := by decide +kernel
theorem dX12_sizeOf_16 : decode cX12_sizeOf 16 = .ok (.iload_n 1, 1) := by decide +kernel
theorem dX12_sizeOf_17 : decode cX12_sizeOf 17 = .ok (.iaload, 1) := by decide +kernel
theorem dX12_sizeOf_18 : decode cX12_sizeOf 18 = .ok (.goto 8, 3) := by decide +kernel
theorem dX12_sizeOf_21 : decode cX12_sizeOf 21 = .ok (.aload_n 0, 1) := by decide +kernel
theorem dX12_sizeOf_22 : decode cX12_sizeOf 22 = .ok (.iconst 1, 1) := by decide +kernel
theorem dX12_sizeOf_23 : decode cX12_sizeOf 23 = .ok (.invokevirtual 75, 3) := by decide +kernel
theorem dX12_sizeOf_26 : decode cX12_sizeOf 26 = .ok (.ireturn, 1) := by decide +kernel
set_option maxRecDepth 20000 in
theorem ggX12_byteAt_X12_isByte : GoodIn wsX12_byteAt wsX12_isByte := goodIn_r _ [7, 8, 9, 10, 11, 6, 12, 13, 14, 15, 16, 17, 18, 23, 24, 25, 26, 27, 28, 29, 30, 31, 32, 33, 34, 35, 36, 37, 38, 39, 40, 41, 42, 43, 44, 45, 46, 47] (by decide +kernel) (by decide +kernel)
set_option maxRecDepth 20000 in
theorem gX12_byteAt_X12_isByte : GoodIn wsX12_byteAt (wsV RX12 174 RX12 yX12_isByte wsX12_isByte) := goodIn_app (goodIn_of _ (by decide +kernel)) ggX12_byteAt_X12_isByte
set_option maxRecDepth 20000 in
theorem ggX12_byteAt_X12_no : GoodIn wsX12_byteAt wsX12_no := goodIn_r _ [22, 1, 23, 24, 25, 26, 27, 28, 29, 30, 31, 32, 33, 34, 35, 36, 37, 38, 39, 40, 41, 42, 43, 44, 45, 46, 47] (by decide +kernel) (by decide +kernel)
set_option maxRecDepth 20000 in
theorem gX12_byteAt_X12_no : GoodIn wsX12_byteAt (wsV RX12 75 RX12 yX12_no wsX12_no) := goodIn_app (goodIn_of _ (by decide +kernel)) ggX12_byteAt_X12_no
theorem dX12_byteAt_0 : decode cX12_byteAt 0 = .ok (.aload_n 0, 1) := by decide +kernel
theorem dX12_byteAt_1 : decode cX12_byteAt 1 = .ok (.iconst 0, 1) := by decide +kernel
theorem dX12_byteAt_2 : decode cX12_byteAt 2 = .ok (.putfield 59, 3) := by decide +kernel
theorem dX12_byteAt_5 : decode cX12_byteAt 5 = .ok (.aload_n 0, 1) := by decide +kernel
theorem dX12_byteAt_6 : decode cX12_byteAt 6 = .ok (.iload_n 1, 1) := by decide +kernel
theorem dX12_byteAt_7 : decode cX12_byteAt 7 = .ok (.iload_n 2, 1) := by decide +kernel
theorem dX12_byteAt_8 : decode cX12_byteAt 8 = .ok (.invokevirtual 174, 3) := by decide +kernel
theorem dX12_byteAt_11 : decode cX12_byteAt 11 = .ok (.ifCond .eq 14, 3) := by decide +kernel
theorem dX12_byteAt_14 : decode cX12_byteAt 14 = .ok (.aload_n 0, 1) := by decide +kernel
theorem dX12_byteAt_15 : decode cX12_byteAt 15 = .ok (.getfield 25, 3) := by decide +kernel
theorem dX12_byteAt_18 : decode cX12_byteAt 18 = .ok (.iload_n 1, 1) := by decide +kernel
theorem dX12_byteAt_19 : decode cX12_byteAt 19 = .ok (.aaload, 1) := by decide +kernel
theorem dX12_byteAt_20 : decode cX12_byteAt 20 = .ok (.iload_n 2, 1) := by decide +kernel
theorem dX12_byteAt_21 : decode cX12_byteAt 21 = .ok (.iaload, 1) := by decide +kernel
theorem dX12_byteAt_22 : decode cX12_byteAt 22 = .ok (.goto 8, 3) := by decide +kernel
theorem dX12_byteAt_25 : decode cX12_byteAt 25 = .ok (.aload_n 0, 1) := by decide +kernel
theorem dX12_byteAt_26 : decode cX12_byteAt 26 = .ok (.iconst 1, 1) := by decide +kernel
theorem dX12_byteAt_27 : decode cX12_byteAt 27 = .ok (.invokevirtual 75, 3) := by decide +kernel
theorem dX12_byteAt_30 : decode cX12_byteAt 30 = .ok (.ireturn, 1) := by decide +kernel
set_option maxRecDepth 20000 in
theorem ggX12_spoil_X12_isByte : GoodIn wsX12_spoil wsX12_isByte := goodIn_r _ [7, 8, 9, 10, 11, 6, 12, 13, 14, 15, 16, 17, 18, 23, 24, 25, 26, 27, 28, 29, 30, 31, 32, 33, 34, 35, 36, 37, 38, 39, 40, 41, 42, 43, 44, 45, 46, 47] (by decide +kernel) (by decide +kernel)
set_option maxRecDepth 20000 in
theorem gX12_spoil_X12_isByte : GoodIn wsX12_spoil (wsV RX12 174 RX12 yX12_isByte wsX12_isByte) := goodIn_app (goodIn_of _ (by decide +kernel)) ggX12_spoil_X12_isByte
set_option maxRecDepth 20000 in
theorem ggX12_spoil_X12_no : GoodIn wsX12_spoil wsX12_no := goodIn_r _ [22, 1, 23, 24, 25, 26, 27, 28, 29, 30, 31, 32, 33, 34, 35, 36, 37, 38, 39, 40, 41, 42, 43, 44, 45, 46, 47] (by decide +kernel) (by decide +kernel)
set_option maxRecDepth 20000 in
theorem gX12_spoil_X12_no : GoodIn wsX12_spoil (wsV RX12 75 RX12 yX12_no wsX12_no) := goodIn_app (goodIn_of _ (by decide +kernel)) ggX12_spoil_X12_no
set_option maxRecDepth 20000 in
theorem ggX12_spoil_X12_isIn : GoodIn wsX12_spoil wsX12_isIn := goodIn_r _ [18] (by decide +kernel) (by decide +kernel)
set_option maxRecDepth 20000 in
theorem gX12_spoil_X12_isIn : GoodIn wsX12_spoil (va_wsS RX12 71 yX12_isIn wsX12_isIn) := goodIn_app (goodIn_of _ (by decide +kernel)) ggX12_spoil_X12_isIn
theorem dX12_spoil_0 : decode cX12_spoil 0 = .ok (.aload_n 0, 1) := by decide +kernel
theorem dX12_spoil_1 : decode cX12_spoil 1 = .ok (.iconst 0, 1) := by decide +kernel
theorem dX12_spoil_2 : decode cX12_spoil 2 = .ok (.putfield 59, 3) := by decide +kernel
theorem dX12_spoil_5 : decode cX12_spoil 5 = .ok (.aload_n 0, 1) := by decide +kernel
theorem dX12_spoil_6 : decode cX12_spoil 6 = .ok (.iload_n 1, 1) := by decide +kernel
theorem dX12_spoil_7 : decode cX12_spoil 7 = .ok (.iload_n 2, 1) := by decide +kernel
theorem dX12_spoil_8 : decode cX12_spoil 8 = .ok (.invokevirtual 174, 3) := by decide +kernel
theorem dX12_spoil_11 : decode cX12_spoil 11 = .ok (.ifCond .ne 9, 3) := by decide +kernel
theorem dX12_spoil_14 : decode cX12_spoil 14 = .ok (.aload_n 0, 1) := by decide +kernel
theorem dX12_spoil_15 : decode cX12_spoil 15 = .ok (.iconst 1, 1) := by decide +kernel
theorem dX12_spoil_16 : decode cX12_spoil 16 = .ok (.invokevirtual 75, 3) := by decide +kernel
theorem dX12_spoil_19 : decode cX12_spoil 19 = .ok (.ireturn, 1) := by decide +kernel
theorem dX12_spoil_20 : decode cX12_spoil 20 = .ok (.iload_n 3, 1) := by decide +kernel
theorem dX12_spoil_21 : decode cX12_spoil 21 = .ok (.iconst 0, 1) := by decide +kernel
theorem dX12_spoil_22 : decode cX12_spoil 22 = .ok (.sipush 255, 3) := by decide +kernel
theorem dX12_spoil_25 : decode cX12_spoil 25 = .ok (.invokestatic 71, 3) := by decide +kernel
theorem dX12_spoil_28 : decode cX12_spoil 28 = .ok (.ifCond .ne 9, 3) := by decide +kernel
theorem dX12_spoil_31 : decode cX12_spoil 31 = .ok (.aload_n 0, 1) := by decide +kernel
theorem dX12_spoil_32 : decode cX12_spoil 32 = .ok (.iconst 2, 1) := by decide +kernel
theorem dX12_spoil_33 : decode cX12_spoil 33 = .ok (.invokevirtual 75, 3) := by decide +kernel
theorem dX12_spoil_36 : decode cX12_spoil 36 = .ok (.ireturn, 1) := by decide +kernel
theorem dX12_spoil_37 : decode cX12_spoil 37 = .ok (.aload_n 0, 1) := by decide +kernel
theorem dX12_spoil_38 : decode cX12_spoil 38 = .ok (.getfield 25, 3) := by decide +kernel
theorem dX12_spoil_41 : decode cX12_spoil 41 = .ok (.iload_n 1, 1) := by decide +kernel
theorem dX12_spoil_42 : decode cX12_spoil 42 = .ok (.aaload, 1) := by decide +kernel
theorem dX12_spoil_43 : decode cX12_spoil 43 = .ok (.iload_n 2, 1) := by decide +kernel
theorem dX12_spoil_44 : decode cX12_spoil 44 = .ok (.dup2, 1) := by decide +kernel
theorem dX12_spoil_45 : decode cX12_spoil 45 = .ok (.iaload, 1) := by decide +kernel
theorem dX12_spoil_46 : decode cX12_spoil 46 = .ok (.iload_n 3, 1) := by decide +kernel
theorem dX12_spoil_47 : decode cX12_spoil 47 = .ok (.ixor, 1) := by decide +kernel
theorem dX12_spoil_48 : decode cX12_spoil 48 = .ok (.iastore, 1) := by decide +kernel
theorem dX12_spoil_49 : decode cX12_spoil 49 = .ok (.aload_n 0, 1) := by decide +kernel
theorem dX12_spoil_50 : decode cX12_spoil 50 = .ok (.getfield 25, 3) := by decide +kernel
theorem dX12_spoil_53 : decode cX12_spoil 53 = .ok (.iload_n 1, 1) := by decide +kernel
theorem dX12_spoil_54 : decode cX12_spoil 54 = .ok (.aaload, 1) := by decide +kernel
theorem dX12_spoil_55 : decode cX12_spoil 55 = .ok (.iload_n 2, 1) := by decide +kernel
theorem dX12_spoil_56 : decode cX12_spoil 56 = .ok (.iaload, 1) := by decide +kernel
theorem dX12_spoil_57 : decode cX12_spoil 57 = .ok (.ireturn, 1) := by decide +kernel
set_option maxRecDepth 20000 in
theorem ggX12_sign_X12_isVolume : GoodIn wsX12_sign wsX12_isVolume := goodIn_r _ [8, 2, 9, 10, 7, 11, 12, 13, 14, 34, 35, 36, 37, 38, 39, 40, 41, 42, 43, 44, 45, 46, 47, 48, 49, 50, 51, 52, 53, 54, 55, 56, 57, 58] (by decide +kernel) (by decide +kernel)
set_option maxRecDepth 20000 in
theorem gX12_sign_X12_isVolume : GoodIn wsX12_sign (wsV RX12 171 RX12 yX12_isVolume wsX12_isVolume) := goodIn_app (goodIn_of _ (by decide +kernel)) ggX12_sign_X12_isVolume
set_option maxRecDepth 20000 in
theorem ggX12_sign_X12_no : GoodIn wsX12_sign wsX12_no := goodIn_r _ [18, 1, 34, 35, 36, 37, 38, 39, 40, 41, 42, 43, 44, 45, 46, 47, 48, 49, 50, 51, 52, 53, 54, 55, 56, 57, 58] (by decide +kernel) (by decide +kernel)
set_option maxRecDepth 20000 in
theorem gX12_sign_X12_no : GoodIn wsX12_sign (wsV RX12 75 RX12 yX12_no wsX12_no) := goodIn_app (goodIn_of _ (by decide +kernel)) ggX12_sign_X12_no
set_option maxRecDepth 20000 in
theorem ggX12_sign_X12_volumeCheck : GoodIn wsX12_sign wsX12_volumeCheck := goodIn_r _ [21, 22, 23, 7, 24, 25, 26, 27, 28, 29, 30] (by decide +kernel) (by decide +kernel)
set_option maxRecDepth 20000 in
theorem gX12_sign_X12_volumeCheck : GoodIn wsX12_sign (va_wsS RX12 146 yX12_volumeCheck wsX12_volumeCheck) := goodIn_app (goodIn_of _ (by decide +kernel)) ggX12_sign_X12_volumeCheck
set_option maxRecDepth 20000 in
theorem ggX12_sign_X12_setWord : GoodIn wsX12_sign wsX12_setWord := goodIn_r _ [33] (by decide +kernel) (by decide +kernel)
set_option maxRecDepth 20000 in
theorem gX12_sign_X12_setWord : GoodIn wsX12_sign (va_wsS RX12 139 yX12_setWord wsX12_setWord) := goodIn_app (goodIn_of _ (by decide +kernel)) ggX12_sign_X12_setWord
theorem dX12_sign_0 : decode cX12_sign 0 = .ok (.aload_n 0, 1) := by decide +kernel
theorem dX12_sign_1 : decode cX12_sign 1 = .ok (.iconst 0, 1) := by decide +kernel
theorem dX12_sign_2 : decode cX12_sign 2 = .ok (.putfield 59, 3) := by decide +kernel
theorem dX12_sign_5 : decode cX12_sign 5 = .ok (.aload_n 0, 1) := by decide +kernel
theorem dX12_sign_6 : decode cX12_sign 6 = .ok (.iload_n 1, 1) := by decide +kernel
theorem dX12_sign_7 : decode cX12_sign 7 = .ok (.invokevirtual 171, 3) := by decide +kernel
theorem dX12_sign_10 : decode cX12_sign 10 = .ok (.ifCond .ne 9, 3) := by decide +kernel
theorem dX12_sign_13 : decode cX12_sign 13 = .ok (.aload_n 0, 1) := by decide +kernel
theorem dX12_sign_14 : decode cX12_sign 14 = .ok (.iconst 1, 1) := by decide +kernel
theorem dX12_sign_15 : decode cX12_sign 15 = .ok (.invokevirtual 75, 3) := by decide +kernel
theorem dX12_sign_18 : decode cX12_sign 18 = .ok (.ireturn, 1) := by decide +kernel
theorem dX12_sign_19 : decode cX12_sign 19 = .ok (.aload_n 0, 1) := by decide +kernel
theorem dX12_sign_20 : decode cX12_sign 20 = .ok (.getfield 28, 3) := by decide +kernel
theorem dX12_sign_23 : decode cX12_sign 23 = .ok (.iload_n 1, 1) := by decide +kernel
theorem dX12_sign_24 : decode cX12_sign 24 = .ok (.iaload, 1) := by decide +kernel
theorem dX12_sign_25 : decode cX12_sign 25 = .ok (.bipush 10, 2) := by decide +kernel
theorem dX12_sign_27 : decode cX12_sign 27 = .ok (.if_icmp .ge 9, 3) := by decide +kernel
theorem dX12_sign_30 : decode cX12_sign 30 = .ok (.aload_n 0, 1) := by decide +kernel
theorem dX12_sign_31 : decode cX12_sign 31 = .ok (.iconst 2, 1) := by decide +kernel
theorem dX12_sign_32 : decode cX12_sign 32 = .ok (.invokevirtual 75, 3) := by decide +kernel
theorem dX12_sign_35 : decode cX12_sign 35 = .ok (.ireturn, 1) := by decide +kernel
theorem dX12_sign_36 : decode cX12_sign 36 = .ok (.aload_n 0, 1) := by decide +kernel
theorem dX12_sign_37 : decode cX12_sign 37 = .ok (.getfield 25, 3) := by decide +kernel
theorem dX12_sign_40 : decode cX12_sign 40 = .ok (.iload_n 1, 1) := by decide +kernel
theorem dX12_sign_41 : decode cX12_sign 41 = .ok (.aaload, 1) := by decide +kernel
theorem dX12_sign_42 : decode cX12_sign 42 = .ok (.aload_n 0, 1) := by decide +kernel
theorem dX12_sign_43 : decode cX12_sign 43 = .ok (.getfield 28, 3) := by decide +kernel
theorem dX12_sign_46 : decode cX12_sign 46 = .ok (.iload_n 1, 1) := by decide +kernel
theorem dX12_sign_47 : decode cX12_sign 47 = .ok (.iaload, 1) := by decide +kernel
theorem dX12_sign_48 : decode cX12_sign 48 = .ok (.invokestatic 146, 3) := by decide +kernel
theorem dX12_sign_51 : decode cX12_sign 51 = .ok (.istore_n 2, 1) := by decide +kernel
theorem dX12_sign_52 : decode cX12_sign 52 = .ok (.aload_n 0, 1) := by decide +kernel
theorem dX12_sign_53 : decode cX12_sign 53 = .ok (.getfield 25, 3) := by decide +kernel
theorem dX12_sign_56 : decode cX12_sign 56 = .ok (.iload_n 1, 1) := by decide +kernel
theorem dX12_sign_57 : decode cX12_sign 57 = .ok (.aaload, 1) := by decide +kernel
theorem dX12_sign_58 : decode cX12_sign 58 = .ok (.bipush 8, 2) := by decide +kernel
theorem dX12_sign_60 : decode cX12_sign 60 = .ok (.iload_n 2, 1) := by decide +kernel
theorem dX12_sign_61 : decode cX12_sign 61 = .ok (.invokestatic 139, 3) := by decide +kernel
theorem dX12_sign_64 : decode cX12_sign 64 = .ok (.iload_n 2, 1) := by decide +kernel
theorem dX12_sign_65 : decode cX12_sign 65 = .ok (.ireturn, 1) := by decide +kernel
set_option maxRecDepth 20000 in
theorem ggX12_cut_X12_isVolume : GoodIn wsX12_cut wsX12_isVolume := goodIn_r _ [7, 2, 8, 9, 6, 10, 11, 12, 13, 18, 19, 20, 21, 22, 23, 24, 25, 26, 27, 28, 29, 30, 31, 32, 33, 34, 35, 36, 37, 38, 39, 40, 41, 42] (by decide +kernel) (by decide +kernel)
set_option maxRecDepth 20000 in
theorem gX12_cut_X12_isVolume : GoodIn wsX12_cut (wsV RX12 171 RX12 yX12_isVolume wsX12_isVolume) := goodIn_app (goodIn_of _ (by decide +kernel)) ggX12_cut_X12_isVolume
set_option maxRecDepth 20000 in
theorem ggX12_cut_X12_no : GoodIn wsX12_cut wsX12_no := goodIn_r _ [17, 1, 18, 19, 20, 21, 22, 23, 24, 25, 26, 27, 28, 29, 30, 31, 32, 33, 34, 35, 36, 37, 38, 39, 40, 41, 42] (by decide +kernel) (by decide +kernel)
set_option maxRecDepth 20000 in
theorem gX12_cut_X12_no : GoodIn wsX12_cut (wsV RX12 75 RX12 yX12_no wsX12_no) := goodIn_app (goodIn_of _ (by decide +kernel)) ggX12_cut_X12_no
set_option maxRecDepth 20000 in
theorem ggX12_cut_X12_isIn : GoodIn wsX12_cut wsX12_isIn := goodIn_r _ [13] (by decide +kernel) (by decide +kernel)
set_option maxRecDepth 20000 in
theorem gX12_cut_X12_isIn : GoodIn wsX12_cut (va_wsS RX12 71 yX12_isIn wsX12_isIn) := goodIn_app (goodIn_of _ (by decide +kernel)) ggX12_cut_X12_isIn
